def cg_I (I : zv_I) (m l n c w rc : Nat) (kk : Int32) : zv_I := zv_u (zv_u (if kk = nI 2 then zv_u (zv_u (zv_u I (100 + 20 * m) 9 (nI (n - 1))) (102 + 20 * m + c) w (I (102 + 20 * m + c) w + nI 1)) (109 + 20 * m) c (I (109 + 20 * m) c + nI 1) else zv_u (zv_u I (100 + 20 * m) 9 (nI (n - 1))) (102 + 20 * m + c) w (I (102 + 20 * m + c) w + nI 1)) (111 + 20 * m) rc (nI l)) (100 + 20 * m) 8 (nI (rc + 1))
def cg_R (R : zv_R) (m l p n : Nat) : zv_R := cc_lv (cc_dr R (112 + 20 * m) p n) m (300 + 3 * l) 40
def cg_J (J : zv_J) (m l : Nat) : zv_J := cs_add (cs_or J (115 + 20 * m) (302 + 3 * l) 4) (115 + 20 * m) l
theorem cC_release (d : Nat) {E : zv_E} {sh : zv_S} {I : zv_I} {J : zv_J} {R : zv_R} {m l n p c wr rc : Nat} {kk : Int32} {g : Nat → Nat} (w : cc_WM sh R m) (wl : cc_WL sh R l) (hm : m < 8) (hl : l < 200) (hc6 : c < 6) (hw8 : wr < 8) (hrc : rc < 200) (i0 : I (300 + 3 * l) 0 = nI l) (i1 : I (300 + 3 * l) 1 = kk) (i2 : I (300 + 3 * l) 2 = nI c) (i3 : I (300 + 3 * l) 3 = nI wr) (i8 : I (100 + 20 * m) 8 = nI rc) (hh : I (100 + 20 * m) 9 = nI n) (hn : n ≤ 200) (hg : ∀ i, i < n → R (112 + 20 * m) i = some (g i) ∧ 3 ≤ g i ∧ sh (g i) = some (12, 0)) (hp : p < n) (hgp : g p = 300 + 3 * l) (hgo : ∀ i, i < n → i ≠ p → g i ≠ 300 + 3 * l) (hs3 : ∀ k x, k < 40 → R (113 + 20 * m) k = some x → 3 ≤ x) : zv_V E mX3_release (d + 1) 0 0 0 [.ref (100 + 20 * m), .ref (300 + 3 * l)] [] sh I J R (cc_q sh (cg_I I m l n c wr rc kk) (cg_J J m l) (cg_R R m l p n)) := by
  refine zv_aload_n dX3_release_0 rfl rfl ?_
  refine zv_aload_n dX3_release_1 rfl rfl ?_
  refine cc_callV (As := [.ref (300 + 3 * l)]) (st := []) (c := 3) dX3_release_2 cvX3_62 (wWM_s w) rfl rfl rfl (by decide) (cc_c1 rfl cc_c0) (Nat.le_of_ble_eq_true rfl) (cC_dropHeld d w (u := 300 + 3 * l) (n := n) (p := p) (g := g) hh hn hg hp hgp hgo) (fun v s1 I1 J1 R1 q => ?_)
  obtain ⟨rfl, rfl, rfl, rfl, rfl⟩ := q
  show zv_V _ _ _ _ _ 5 [.ref (100 + 20 * m), .ref (300 + 3 * l)] [] _ _ _ _ _
  have w1 : cc_WM sh (cc_dr R (112 + 20 * m) p n) m := cc_WM_row w (fun t h1 h2 => cc_dr_o h1)
  refine zv_aload_n dX3_release_5 rfl rfl ?_
  refine zv_aload_n dX3_release_6 rfl rfl ?_
  refine cc_callV (As := [.ref (300 + 3 * l)]) (st := []) (c := 3) dX3_release_7 cvX3_65 (wWM_s w1) rfl rfl rfl (by decide) (cc_c1 rfl cc_c0) (Nat.le_of_ble_eq_true rfl) (cC_leaveSlot d w1 (u := 300 + 3 * l) (fun k x hk hx => hs3 k x hk (by rw [cc_dr_o (by omega)] at hx; exact hx)) (by omega)) (fun v s1 I1 J1 R1 q => ?_)
  obtain ⟨rfl, rfl, rfl, rfl, rfl⟩ := q
  show zv_V _ _ _ _ _ 10 [.ref (100 + 20 * m), .ref (300 + 3 * l)] [] _ _ _ _ _
  have w2 : cc_WM sh (cg_R R m l p n) m := cc_WM_row w (fun t h1 h2 => (cc_lv_o h2).trans (cc_dr_o h1))
  have wl2 : cc_WL sh (cg_R R m l p n) l := cc_WL_o wl ((cc_lv_o (by omega)).trans (cc_dr_o (by omega))) ((cc_lv_o (by omega)).trans (cc_dr_o (by omega)))
  have ew : 102 + 20 * m + c ≠ 100 + 20 * m := by omega
  refine zv_aload_n dX3_release_10 rfl rfl ?_
  refine zv_getr 3 0 (u := 101 + 20 * m) dX3_release_11 flX3_11 (wWM_s w2) rfl (wWM_r0 w2) ?_
  refine zv_aload_n dX3_release_14 rfl rfl ?_
  refine zv_geti 2 2 (x := nI (c)) dX3_release_15 flX3_68 (wWL_s wl2) rfl ((zv_u_t _ _ (by omega)).trans (i2)) ?_
  refine zv_aald (j := c) (o := some (102 + 20 * m + c)) dX3_release_18 (wWM_s0 w2) (by decide) (by decide) (rfl) (show c < 6 from by omega) (by decide) ((wWM_g w2 c hc6).1) ?_
  show zv_V _ _ _ _ _ 19 [.ref (100 + 20 * m), .ref (300 + 3 * l)] [.ref (102 + 20 * m + c)] _ _ _ _ _
  refine zv_aload_n dX3_release_19 rfl rfl ?_
  refine zv_geti 2 3 (x := nI (wr)) dX3_release_20 flX3_71 (wWL_s wl2) rfl ((zv_u_t _ _ (by omega)).trans (i3)) ?_
  refine zv_dup2 dX3_release_23 rfl rfl ?_
  refine zv_iald (j := wr) (x := (I (102 + 20 * m + c) wr)) dX3_release_24 ((wWM_g w2 c hc6).2) (rfl) (show wr < 8 from by omega) (by decide) ((zv_u_t _ _ (by omega)).trans (rfl)) ?_
  refine zv_iconst (v := nI (1)) dX3_release_25 (by decide) ?_
  refine zv_iadd dX3_release_26 ?_
  refine zv_iast (j := wr) dX3_release_27 ((wWM_g w2 c hc6).2) (rfl) (show wr < 8 from by omega) (by decide) ?_
  refine zv_aload_n dX3_release_28 rfl rfl ?_
  refine zv_geti 2 1 (x := kk) dX3_release_29 flX3_74 (wWL_s wl2) rfl ((zv_u_t _ _ (by omega)).trans ((zv_u_t _ _ (by omega)).trans (i1))) ?_
  refine zv_iconst (v := nI (2)) dX3_release_32 (by decide) ?_
  refine zv_icmp_ne (tgt := 49) dX3_release_33 (by decide) (fun h33 => ?_) (fun h33 => ?_)
  · refine zv_aload_n dX3_release_49 rfl rfl ?_
    refine zv_geti 3 8 (x := nI (rc)) dX3_release_50 flX3_77 (wWM_s w2) rfl ((zv_u_t _ _ (by omega)).trans ((zv_u_j _ _ (by omega)).trans (i8))) ?_
    refine zv_aload_n dX3_release_53 rfl rfl ?_
    refine zv_getr 3 4 (u := 111 + 20 * m) dX3_release_54 flX3_29 (wWM_s w2) rfl (wWM_r4 w2) ?_
    refine zv_alen dX3_release_57 (wWM_s4 w2) (by decide) ?_
    refine zv_icN_ge (tgt := 84) dX3_release_58 (by decide) (by omega) (by omega) (fun h58 => (absurd h58 (by omega))) (fun h58 => ?_)
    refine zv_aload_n dX3_release_61 rfl rfl ?_
    refine zv_getr 3 4 (u := 111 + 20 * m) dX3_release_62 flX3_29 (wWM_s w2) rfl (wWM_r4 w2) ?_
    refine zv_aload_n dX3_release_65 rfl rfl ?_
    refine zv_geti 3 8 (x := nI (rc)) dX3_release_66 flX3_77 (wWM_s w2) rfl ((zv_u_t _ _ (by omega)).trans ((zv_u_j _ _ (by omega)).trans (i8))) ?_
    refine zv_aload_n dX3_release_69 rfl rfl ?_
    refine zv_geti 2 0 (x := nI (l)) dX3_release_70 flX3_55 (wWL_s wl2) rfl ((zv_u_t _ _ (by omega)).trans ((zv_u_t _ _ (by omega)).trans (i0))) ?_
    refine zv_iast (j := rc) dX3_release_73 (wWM_s4 w2) (rfl) (show rc < 200 from by omega) (by decide) ?_
    refine zv_aload_n dX3_release_74 rfl rfl ?_
    refine zv_dup dX3_release_75 rfl ?_
    refine zv_geti 3 8 (x := nI (rc)) dX3_release_76 flX3_77 (wWM_s w2) rfl ((zv_u_t _ _ (by omega)).trans ((zv_u_t _ _ (by omega)).trans ((zv_u_j _ _ (by omega)).trans (i8)))) ?_
    refine zv_iconst (v := nI (1)) dX3_release_79 (by decide) ?_
    refine zv_iadd dX3_release_80 ?_
    refine cc_top (nI_add (rc) (1)) ?_
    refine zv_puti 3 8 dX3_release_81 fwX3_77 (wWM_s w2) rfl ?_
    refine zv_aload_n dX3_release_84 rfl rfl ?_
    refine zv_getr 3 7 (u := 114 + 20 * m) dX3_release_85 flX3_47 (wWM_s w2) rfl (wWM_r7 w2) ?_
    refine zv_aload_n dX3_release_88 rfl rfl ?_
    refine zv_getr 2 7 (u := 301 + 3 * l) dX3_release_89 flX3_80 (wWL_s wl2) rfl (wWL_r7 wl2) ?_
    refine cc_callV (As := [.ref (301 + 3 * l)]) (st := []) (c := 4) dX3_release_92 cvX3_83 (wWM_s7 w2) rfl rfl rfl (by decide) (cc_c1 rfl cc_c0) (Nat.le_of_ble_eq_true rfl) (cC_addAll d (wWM_s7 w2) (wWM_w w2) (wWM_sw w2) (wWL_s7 wl2) (wWL_w wl2) (wWL_sw wl2) (by omega)) (fun v s1 I1 J1 R1 q => ?_)
    obtain ⟨rfl, rfl, rfl, rfl, rfl⟩ := q
    show zv_V _ _ _ _ _ 95 [.ref (100 + 20 * m), .ref (300 + 3 * l)] [] _ _ _ _ _
    refine zv_aload_n dX3_release_95 rfl rfl ?_
    refine zv_getr 3 7 (u := 114 + 20 * m) dX3_release_96 flX3_47 (wWM_s w2) rfl (wWM_r7 w2) ?_
    refine zv_aload_n dX3_release_99 rfl rfl ?_
    refine zv_geti 2 0 (x := nI (l)) dX3_release_100 flX3_55 (wWL_s wl2) rfl ((zv_u_t _ _ (by omega)).trans ((zv_u_t _ _ (by omega)).trans ((zv_u_t _ _ (by omega)).trans ((zv_u_t _ _ (by omega)).trans (i0))))) ?_
    refine cc_callV (As := [.int (nI (l))]) (st := []) (c := 4) dX3_release_103 cvX3_87 (wWM_s7 w2) rfl rfl rfl (by decide) (cc_c1 rfl cc_c0) (Nat.le_of_ble_eq_true rfl) (cC_add d (wWM_s7 w2) (wWM_w w2) (wWM_sw w2) (n := l) hl) (fun v s1 I1 J1 R1 q => ?_)
    obtain ⟨rfl, rfl, rfl, rfl, rfl⟩ := q
    show zv_V _ _ _ _ _ 106 [.ref (100 + 20 * m), .ref (300 + 3 * l)] [] _ _ _ _ _
    refine zv_vret dX3_release_106 rfl ?_
    refine ⟨rfl, rfl, ?_, rfl, rfl⟩
    unfold cg_I
    rw [if_neg h33]
  · refine zv_aload_n dX3_release_36 rfl rfl ?_
    refine zv_getr 3 2 (u := 109 + 20 * m) dX3_release_37 flX3_20 (wWM_s w2) rfl (wWM_r2 w2) ?_
    refine zv_aload_n dX3_release_40 rfl rfl ?_
    refine zv_geti 2 2 (x := nI (c)) dX3_release_41 flX3_68 (wWL_s wl2) rfl ((zv_u_t _ _ (by omega)).trans ((zv_u_t _ _ (by omega)).trans (i2))) ?_
    refine zv_dup2 dX3_release_44 rfl rfl ?_
    refine zv_iald (j := c) (x := (I (109 + 20 * m) c)) dX3_release_45 (wWM_s2 w2) (rfl) (show c < 6 from by omega) (by decide) ((zv_u_t _ _ (by omega)).trans ((zv_u_t _ _ (by omega)).trans (rfl))) ?_
    refine zv_iconst (v := nI (1)) dX3_release_46 (by decide) ?_
    refine zv_iadd dX3_release_47 ?_
    refine zv_iast (j := c) dX3_release_48 (wWM_s2 w2) (rfl) (show c < 6 from by omega) (by decide) ?_
    refine zv_aload_n dX3_release_49 rfl rfl ?_
    refine zv_geti 3 8 (x := nI (rc)) dX3_release_50 flX3_77 (wWM_s w2) rfl ((zv_u_t _ _ (by omega)).trans ((zv_u_t _ _ (by omega)).trans ((zv_u_j _ _ (by omega)).trans (i8)))) ?_
    refine zv_aload_n dX3_release_53 rfl rfl ?_
    refine zv_getr 3 4 (u := 111 + 20 * m) dX3_release_54 flX3_29 (wWM_s w2) rfl (wWM_r4 w2) ?_
    refine zv_alen dX3_release_57 (wWM_s4 w2) (by decide) ?_
    refine zv_icN_ge (tgt := 84) dX3_release_58 (by decide) (by omega) (by omega) (fun h58 => (absurd h58 (by omega))) (fun h58 => ?_)
    refine zv_aload_n dX3_release_61 rfl rfl ?_
    refine zv_getr 3 4 (u := 111 + 20 * m) dX3_release_62 flX3_29 (wWM_s w2) rfl (wWM_r4 w2) ?_
    refine zv_aload_n dX3_release_65 rfl rfl ?_
    refine zv_geti 3 8 (x := nI (rc)) dX3_release_66 flX3_77 (wWM_s w2) rfl ((zv_u_t _ _ (by omega)).trans ((zv_u_t _ _ (by omega)).trans ((zv_u_j _ _ (by omega)).trans (i8)))) ?_
    refine zv_aload_n dX3_release_69 rfl rfl ?_
    refine zv_geti 2 0 (x := nI (l)) dX3_release_70 flX3_55 (wWL_s wl2) rfl ((zv_u_t _ _ (by omega)).trans ((zv_u_t _ _ (by omega)).trans ((zv_u_t _ _ (by omega)).trans (i0)))) ?_
    refine zv_iast (j := rc) dX3_release_73 (wWM_s4 w2) (rfl) (show rc < 200 from by omega) (by decide) ?_
    refine zv_aload_n dX3_release_74 rfl rfl ?_
    refine zv_dup dX3_release_75 rfl ?_
    refine zv_geti 3 8 (x := nI (rc)) dX3_release_76 flX3_77 (wWM_s w2) rfl ((zv_u_t _ _ (by omega)).trans ((zv_u_t _ _ (by omega)).trans ((zv_u_t _ _ (by omega)).trans ((zv_u_j _ _ (by omega)).trans (i8))))) ?_
    refine zv_iconst (v := nI (1)) dX3_release_79 (by decide) ?_
    refine zv_iadd dX3_release_80 ?_
    refine cc_top (nI_add (rc) (1)) ?_
    refine zv_puti 3 8 dX3_release_81 fwX3_77 (wWM_s w2) rfl ?_
    refine zv_aload_n dX3_release_84 rfl rfl ?_
    refine zv_getr 3 7 (u := 114 + 20 * m) dX3_release_85 flX3_47 (wWM_s w2) rfl (wWM_r7 w2) ?_
    refine zv_aload_n dX3_release_88 rfl rfl ?_
    refine zv_getr 2 7 (u := 301 + 3 * l) dX3_release_89 flX3_80 (wWL_s wl2) rfl (wWL_r7 wl2) ?_
    refine cc_callV (As := [.ref (301 + 3 * l)]) (st := []) (c := 4) dX3_release_92 cvX3_83 (wWM_s7 w2) rfl rfl rfl (by decide) (cc_c1 rfl cc_c0) (Nat.le_of_ble_eq_true rfl) (cC_addAll d (wWM_s7 w2) (wWM_w w2) (wWM_sw w2) (wWL_s7 wl2) (wWL_w wl2) (wWL_sw wl2) (by omega)) (fun v s1 I1 J1 R1 q => ?_)
    obtain ⟨rfl, rfl, rfl, rfl, rfl⟩ := q
    show zv_V _ _ _ _ _ 95 [.ref (100 + 20 * m), .ref (300 + 3 * l)] [] _ _ _ _ _
    refine zv_aload_n dX3_release_95 rfl rfl ?_
    refine zv_getr 3 7 (u := 114 + 20 * m) dX3_release_96 flX3_47 (wWM_s w2) rfl (wWM_r7 w2) ?_
    refine zv_aload_n dX3_release_99 rfl rfl ?_
    refine zv_geti 2 0 (x := nI (l)) dX3_release_100 flX3_55 (wWL_s wl2) rfl ((zv_u_t _ _ (by omega)).trans ((zv_u_t _ _ (by omega)).trans ((zv_u_t _ _ (by omega)).trans ((zv_u_t _ _ (by omega)).trans ((zv_u_t _ _ (by omega)).trans (i0)))))) ?_
    refine cc_callV (As := [.int (nI (l))]) (st := []) (c := 4) dX3_release_103 cvX3_87 (wWM_s7 w2) rfl rfl rfl (by decide) (cc_c1 rfl cc_c0) (Nat.le_of_ble_eq_true rfl) (cC_add d (wWM_s7 w2) (wWM_w w2) (wWM_sw w2) (n := l) hl) (fun v s1 I1 J1 R1 q => ?_)
    obtain ⟨rfl, rfl, rfl, rfl, rfl⟩ := q
    show zv_V _ _ _ _ _ 106 [.ref (100 + 20 * m), .ref (300 + 3 * l)] [] _ _ _ _ _
    refine zv_vret dX3_release_106 rfl ?_
    refine ⟨rfl, rfl, ?_, rfl, rfl⟩
    unfold cg_I
    rw [if_pos h33]
def cs_I (I : zv_I) (nl w n : Nat) (x : Int32) : zv_I := zv_u (zv_u (zv_u I 40 7 (nI (nl + 1))) (300 + 3 * nl) 11 (x &&& (nI 1 <<< (nI w &&& 31) ^^^ -1))) (100 + 20 * w) 9 (nI (n + 1))
def cs_J (J : zv_J) (nl w : Nat) : zv_J := cs_add (cs_or J (302 + 3 * nl) (115 + 20 * w) 4) (115 + 20 * w) nl
def cs_R (R : zv_R) (nl w n : Nat) : zv_R := cc_hd (zv_u R 43 nl (some (300 + 3 * nl))) w (300 + 3 * nl) n n
theorem cc_W_43 {sh : zv_S} {R : zv_R} {nm nc nl : Nat} {o : Option Nat} (w : cc_W sh R nm nc nl) : cc_W sh (zv_u R 43 nl o) nm nc nl := by
  have hr : ∀ t, t ≠ 43 → zv_u R 43 nl o t = R t := fun t ht => zv_u_row _ _ _ _ ht
  refine ⟨cc_W0_o w.1 (hr _ (by omega)) (hr _ (by omega)), fun m hm => ?_, fun c hc => ?_, fun l hl => ?_⟩
  · rw [hr 41 (by omega)]
    exact ⟨(w.2.1 m hm).1, cc_WM_o (w.2.1 m hm).2 (hr _ (by omega)) (hr _ (by omega)) (hr _ (by omega))⟩
  · rw [hr 42 (by omega)]
    exact w.2.2.1 c hc
  · rw [zv_u_j _ _ (show l ≠ nl by omega)]
    exact ⟨(w.2.2.2 l hl).1, cc_WL_o (w.2.2.2 l hl).2 (hr _ (by omega)) (hr _ (by omega))⟩
theorem cC_send (d : Nat) {E : zv_E} {sh : zv_S} {I : zv_I} {J : zv_J} {R : zv_R} {nm nc nl w c n : Nat} {x : Int32} {h : Nat → Nat} (W : cc_W sh R nm nc nl) (b5 : nm ≤ 8) (b6 : nc ≤ 6) (n7 : I 40 7 = nI nl) (hnl : nl < 200) (wl : cc_WL sh R nl) (i0 : I (300 + 3 * nl) 0 = nI nl) (i2 : I (300 + 3 * nl) 2 = nI c) (i3 : I (300 + 3 * nl) 3 = nI w) (hc : c < nc) (hw : w < nm) (hx : I (50 + c) 0 = x) (hh : I (100 + 20 * w) 9 = nI n) (hn : n < 200) (hg : ∀ i, i < n → R (112 + 20 * w) i = some (300 + 3 * h i) ∧ h i < nl ∧ I (300 + 3 * h i) 0 = nI (h i)) : zv_V E mX7_send (d + 2) 0 0 0 [.ref 40, .ref (300 + 3 * nl)] [] sh I J R (cc_q sh (cs_I I nl w n x) (cs_J J nl w) (cs_R R nl w n)) := by
  refine zv_aload_n dX7_send_0 rfl rfl ?_
  refine zv_geti 6 7 (x := nI (nl)) dX7_send_1 flX7_95 (wW0_s40 W.1) rfl (n7) ?_
  refine zv_sipush (v := nI (200)) dX7_send_4 (by decide) ?_
  refine zv_icN_lt (tgt := 11) dX7_send_7 (by decide) (by omega) (by omega) (fun h7 => ?_) (fun h7 => (absurd h7 (by omega)))
  refine zv_aload_n dX7_send_11 rfl rfl ?_
  refine zv_getr 6 2 (u := 43) dX7_send_12 flX7_23 (wW0_s40 W.1) rfl (wW0_r2 W.1) ?_
  refine zv_aload_n dX7_send_15 rfl rfl ?_
  refine zv_geti 6 7 (x := nI (nl)) dX7_send_16 flX7_95 (wW0_s40 W.1) rfl (n7) ?_
  refine zv_aload_n dX7_send_19 rfl rfl ?_
  refine zv_aast (j := nl) (o := some (300 + 3 * nl)) dX7_send_20 (wW0_s43 W.1) (by decide) (Or.inr ⟨_, Or.inr (Or.inr (Or.inl ⟨rfl, wWL_s wl⟩))⟩) (fun h => absurd h (by decide)) (rfl) (show nl < 200 from by omega) (by decide) ?_
  have W1 : cc_W sh (zv_u R 43 nl (some (300 + 3 * nl))) nm nc nl := cc_W_43 W
  have wl1 : cc_WL sh (zv_u R 43 nl (some (300 + 3 * nl))) nl := cc_WL_o wl (zv_u_row _ _ _ _ (by omega)) (zv_u_row _ _ _ _ (by omega))
  refine zv_aload_n dX7_send_21 rfl rfl ?_
  refine zv_dup dX7_send_22 rfl ?_
  refine zv_geti 6 7 (x := nI (nl)) dX7_send_23 flX7_95 (wW0_s40 W1.1) rfl (n7) ?_
  refine zv_iconst (v := nI (1)) dX7_send_26 (by decide) ?_
  refine zv_iadd dX7_send_27 ?_
  refine cc_top (nI_add (nl) (1)) ?_
  refine zv_puti 6 7 dX7_send_28 fwX7_95 (wW0_s40 W1.1) rfl ?_
  refine zv_aload_n dX7_send_31 rfl rfl ?_
  refine zv_getr 6 0 (u := 41) dX7_send_32 flX7_11 (wW0_s40 W1.1) rfl (wW0_r0 W1.1) ?_
  refine zv_aload_n dX7_send_35 rfl rfl ?_
  refine zv_geti 2 3 (x := nI (w)) dX7_send_36 flX7_108 (wWL_s wl1) rfl ((zv_u_t _ _ (by omega)).trans (i3)) ?_
  refine zv_aald (j := w) (o := some (100 + 20 * w)) dX7_send_39 (wW0_s41 W1.1) (by decide) (by decide) (rfl) (show w < 8 from by omega) (by decide) ((W1.2.1 w hw).1) ?_
  show zv_V _ _ _ _ _ 40 [.ref 40, .ref (300 + 3 * nl)] [.ref (100 + 20 * w)] _ _ _ _ _
  refine zv_astore_n (lv' := [.ref 40, .ref (300 + 3 * nl), .ref (100 + 20 * w)]) dX7_send_40 rfl (by decide) rfl ?_
  refine zv_aload_n dX7_send_41 rfl rfl ?_
  refine zv_getr 2 7 (u := 301 + 3 * nl) dX7_send_42 flX7_169 (wWL_s wl1) rfl (wWL_r7 wl1) ?_
  refine zv_aload_n dX7_send_45 rfl rfl ?_
  refine zv_getr 3 7 (u := 114 + 20 * w) dX7_send_46 flX7_264 (wWM_s (W1.2.1 w hw).2) rfl (wWM_r7 (W1.2.1 w hw).2) ?_
  refine cc_callV (As := [.ref (114 + 20 * w)]) (st := []) (c := 4) dX7_send_49 cvX7_267 (wWL_s7 wl1) rfl rfl rfl (by decide) (cc_c1 rfl cc_c0) (Nat.le_of_ble_eq_true rfl) (cC_addAll (d + 1) (wWL_s7 wl1) (wWL_w wl1) (wWL_sw wl1) (wWM_s7 (W1.2.1 w hw).2) (wWM_w (W1.2.1 w hw).2) (wWM_sw (W1.2.1 w hw).2) (by omega)) (fun v s1 I1 J1 R1 q => ?_)
  obtain ⟨rfl, rfl, rfl, rfl, rfl⟩ := q
  show zv_V _ _ _ _ _ 52 [.ref 40, .ref (300 + 3 * nl), .ref (100 + 20 * w)] [] _ _ _ _ _
  refine zv_aload_n dX7_send_52 rfl rfl ?_
  refine zv_getr 3 7 (u := 114 + 20 * w) dX7_send_53 flX7_264 (wWM_s (W1.2.1 w hw).2) rfl (wWM_r7 (W1.2.1 w hw).2) ?_
  refine zv_aload_n dX7_send_56 rfl rfl ?_
  refine zv_geti 2 0 (x := nI (nl)) dX7_send_57 flX7_253 (wWL_s wl1) rfl ((zv_u_t _ _ (by omega)).trans (i0)) ?_
  refine cc_callV (As := [.int (nI (nl))]) (st := []) (c := 4) dX7_send_60 cvX7_271 (wWM_s7 (W1.2.1 w hw).2) rfl rfl rfl (by decide) (cc_c1 rfl cc_c0) (Nat.le_of_ble_eq_true rfl) (cC_add (d + 1) (wWM_s7 (W1.2.1 w hw).2) (wWM_w (W1.2.1 w hw).2) (wWM_sw (W1.2.1 w hw).2) (n := nl) hnl) (fun v s1 I1 J1 R1 q => ?_)
  obtain ⟨rfl, rfl, rfl, rfl, rfl⟩ := q
  show zv_V _ _ _ _ _ 63 [.ref 40, .ref (300 + 3 * nl), .ref (100 + 20 * w)] [] _ _ _ _ _
  refine zv_aload_n dX7_send_63 rfl rfl ?_
  refine zv_aload_n dX7_send_64 rfl rfl ?_
  refine zv_getr 6 1 (u := 42) dX7_send_65 flX7_17 (wW0_s40 W1.1) rfl (wW0_r1 W1.1) ?_
  refine zv_aload_n dX7_send_68 rfl rfl ?_
  refine zv_geti 2 2 (x := nI (c)) dX7_send_69 flX7_105 (wWL_s wl1) rfl ((zv_u_t _ _ (by omega)).trans (i2)) ?_
  refine zv_aald (j := c) (o := some (50 + c)) dX7_send_72 (wW0_s42 W1.1) (by decide) (by decide) (rfl) (show c < 6 from by omega) (by decide) ((W1.2.2.1 c hc).1) ?_
  show zv_V _ _ _ _ _ 73 [.ref 40, .ref (300 + 3 * nl), .ref (100 + 20 * w)] [.ref (50 + c), .ref (300 + 3 * nl)] _ _ _ _ _
  refine zv_geti 0 0 (x := x) dX7_send_73 flX7_132 ((W1.2.2.1 c hc).2) rfl ((zv_u_t _ _ (by omega)).trans (hx)) ?_
  refine zv_iconst (v := nI (1)) dX7_send_76 (by decide) ?_
  refine zv_aload_n dX7_send_77 rfl rfl ?_
  refine zv_geti 2 3 (x := nI (w)) dX7_send_78 flX7_108 (wWL_s wl1) rfl ((zv_u_t _ _ (by omega)).trans (i3)) ?_
  refine zv_ishl dX7_send_81 ?_
  refine zv_iconst (v := (-1 : Int32)) dX7_send_82 (by decide) ?_
  refine zv_ixor dX7_send_83 ?_
  refine zv_iand dX7_send_84 ?_
  refine zv_puti 2 11 dX7_send_85 fwX7_92 (wWL_s wl1) rfl ?_
  refine zv_aload_n dX7_send_88 rfl rfl ?_
  refine zv_aload_n dX7_send_89 rfl rfl ?_
  refine cc_callV (As := [.ref (300 + 3 * nl)]) (st := []) (c := 3) dX7_send_90 cvX7_275 (wWM_s (W1.2.1 w hw).2) rfl rfl rfl (by decide) (cc_c1 rfl cc_c0) (Nat.le_of_ble_eq_true rfl) (cC_hold d (W1.2.1 w hw).2 (l := nl) (n := n) (p := n) (h := h) (wWL_s wl1) ((zv_u_j _ _ (by omega)).trans ((zv_u_t _ _ (by omega)).trans (i0))) hnl ((zv_u_t _ _ (by omega)).trans ((zv_u_t _ _ (by omega)).trans (hh))) hn (fun i hi => ⟨(congrFun (zv_u_row _ _ _ _ (by omega)) _).trans (hg i hi).1, wWL_s (W.2.2.2 (h i) (hg i hi).2.1).2, (congrFun (zv_u_row _ _ _ _ (by have := (hg i hi).2.1; omega)) _).trans ((congrFun (zv_u_row _ _ _ _ (by omega)) _).trans (hg i hi).2.2), by have := (hg i hi).2.1; omega⟩) (Nat.le_refl _) (fun i h1 h2 => absurd h1 (by omega)) (fun i hi => Nat.le_of_lt (hg i (by omega)).2.1) (by omega)) (fun v s1 I1 J1 R1 q => ?_)
  obtain ⟨rfl, rfl, rfl, rfl, rfl⟩ := q
  show zv_V _ _ _ _ _ 93 [.ref 40, .ref (300 + 3 * nl), .ref (100 + 20 * w)] [] _ _ _ _ _
  refine zv_vret dX7_send_93 rfl ?_
  exact ⟨rfl, rfl, rfl, rfl, rfl⟩
