theorem zv_le {E : zv_E} {M : zv_M} {d kc ks kc' ks' pc : Nat} {lv st : List Value} {sh : zv_S} {I : zv_I} {J : zv_J} {R : zv_R} {Q : zv_Q} (h1 : kc ≤ kc') (h2 : ks ≤ ks') (k : zv_V E M d kc ks pc lv st sh I J R Q) : zv_V E M d kc' ks' pc lv st sh I J R Q := by
  intro p l e Rm s m args below meth c Z mc ms sh0 adr0 C adr H locs ls cells slots P g1 g2
  exact k p l e Rm s m args below meth c Z mc ms sh0 adr0 C adr H locs ls cells slots P (by omega) (by omega)
theorem zv_cq {E : zv_E} {M : zv_M} {d kc ks pc : Nat} {lv st : List Value} {sh : zv_S} {I : zv_I} {J : zv_J} {R : zv_R} {Q Q' : zv_Q} (k : zv_V E M d kc ks pc lv st sh I J R Q) (h : ∀ v s i j r, Q v s i j r → Q' v s i j r) : zv_V E M d kc ks pc lv st sh I J R Q' := by
  intro p l e Rm s m args below meth c Z mc ms sh0 adr0 C adr H locs ls cells slots P g1 g2
  exact k p l e Rm s m args below meth c Z mc ms sh0 adr0 ⟨C.1, C.2.1, C.2.2.1, C.2.2.2.1, C.2.2.2.2.1, C.2.2.2.2.2.1, C.2.2.2.2.2.2.1, C.2.2.2.2.2.2.2.1, C.2.2.2.2.2.2.2.2.1, C.2.2.2.2.2.2.2.2.2.1, C.2.2.2.2.2.2.2.2.2.2.1, fun v sh I J R adr H locs ls cells slots pc q => C.2.2.2.2.2.2.2.2.2.2.2 v sh I J R adr H locs ls cells slots pc (h v sh I J R q)⟩ adr H locs ls cells slots P g1 g2
theorem cc_W_lt {sh sh' : zv_S} {R R' : zv_R} {nm nc nl : Nat} (w : cc_W sh R nm nc nl) (h5 : nm ≤ 8) (h6 : nc ≤ 6) (h7 : nl ≤ 200) (h : ∀ t, t < 1000 → sh' t = sh t ∧ R' t = R t) : cc_W sh' R' nm nc nl := by
  have hs : ∀ t, t < 1000 → sh' t = sh t := fun t ht => (h t ht).1
  have hr : ∀ t, t < 1000 → R' t = R t := fun t ht => (h t ht).2
  refine ⟨?_, fun m hm => ?_, fun c hc => ?_, fun l hl => ?_⟩
  · have w := w.1
    unfold cc_W0 at w ⊢
    rw [hs 40 (by omega), hs 41 (by omega), hs 42 (by omega), hs 43 (by omega), hs 44 (by omega), hs 45 (by omega), hs 46 (by omega), hr 40 (by omega), hr 45 (by omega)]
    exact w
  · have w := w.2.1 m hm
    rw [hr 41 (by omega)]
    refine ⟨w.1, ?_⟩
    have w := w.2
    unfold cc_WM at w ⊢
    rw [hs (100 + 20 * m) (by omega), hs (101 + 20 * m) (by omega), hs (108 + 20 * m) (by omega), hs (109 + 20 * m) (by omega), hs (110 + 20 * m) (by omega), hs (111 + 20 * m) (by omega), hs (112 + 20 * m) (by omega), hs (113 + 20 * m) (by omega), hs (114 + 20 * m) (by omega), hs (115 + 20 * m) (by omega), hr (100 + 20 * m) (by omega), hr (101 + 20 * m) (by omega), hr (114 + 20 * m) (by omega)]
    obtain ⟨w1, w2, w3, w4, w5, w6, w7, w8, w9, w10, w11, w12, w13, w14, w15, w16, w17, w18, w19, w20⟩ := w
    exact ⟨w1, w2, w3, w4, w5, w6, w7, w8, w9, w10, w11, w12, w13, w14, w15, w16, w17, w18, w19, fun e he => by rw [hs (102 + 20 * m + e) (by omega)]; exact w20 e he⟩
  · rw [hr 42 (by omega), hs (50 + c) (by omega)]
    exact w.2.2.1 c hc
  · have w := w.2.2.2 l hl
    rw [hr 43 (by omega)]
    refine ⟨w.1, ?_⟩
    have w := w.2
    unfold cc_WL at w ⊢
    rw [hs (300 + 3 * l) (by omega), hs (301 + 3 * l) (by omega), hs (302 + 3 * l) (by omega), hr (300 + 3 * l) (by omega), hr (301 + 3 * l) (by omega)]
    exact w
def ck_S (k m e : Nat) (sh0 : zv_S) (I0 : zv_I) (J0 : zv_J) (R0 : zv_R) (sh : zv_S) (I : zv_I) (J : zv_J) (R : zv_R) : Prop :=
  (∀ t, (t < 1000 + 8 * k ∨ 1008 + 8 * k ≤ t) → sh t = sh0 t ∧ I t = I0 t ∧ J t = J0 t ∧ R t = R0 t) ∧
  (sh (1000 + 8 * k) = some (11, 0)) ∧
  (R (1000 + 8 * k) 0 = some (1001 + 8 * k)) ∧
  (sh (1001 + 8 * k) = some (3, 6)) ∧
  (∀ j, j < 6 → j < e → cb (I0 (50 + j) 0) m = true → R (1001 + 8 * k) j = some (1002 + 8 * k + j) ∧ sh (1002 + 8 * k + j) = some (0, 8) ∧ I (1002 + 8 * k + j) = I0 (102 + 20 * m + j)) ∧
  (∀ j, j < 6 → (e ≤ j ∨ cb (I0 (50 + j) 0) m = false) → R (1001 + 8 * k) j = none ∧ sh (1002 + 8 * k + j) = none) ∧
  (I (1000 + 8 * k) 1 = nI (cc_smS (fun j => if cb (I0 (50 + j) 0) m = true then rm_cnt (cb (I0 (50 + j) 0)) 8 else 0) e))
theorem xK_fr {k m e : Nat} {sh0 : zv_S} {I0 : zv_I} {J0 : zv_J} {R0 : zv_R} {sh : zv_S} {I : zv_I} {J : zv_J} {R : zv_R} (h : ck_S k m e sh0 I0 J0 R0 sh I J R) : ∀ t, (t < 1000 + 8 * k ∨ 1008 + 8 * k ≤ t) → sh t = sh0 t ∧ I t = I0 t ∧ J t = J0 t ∧ R t = R0 t := h.1
theorem xK_s0 {k m e : Nat} {sh0 : zv_S} {I0 : zv_I} {J0 : zv_J} {R0 : zv_R} {sh : zv_S} {I : zv_I} {J : zv_J} {R : zv_R} (h : ck_S k m e sh0 I0 J0 R0 sh I J R) : sh (1000 + 8 * k) = some (11, 0) := h.2.1
theorem xK_r0 {k m e : Nat} {sh0 : zv_S} {I0 : zv_I} {J0 : zv_J} {R0 : zv_R} {sh : zv_S} {I : zv_I} {J : zv_J} {R : zv_R} (h : ck_S k m e sh0 I0 J0 R0 sh I J R) : R (1000 + 8 * k) 0 = some (1001 + 8 * k) := h.2.2.1
theorem xK_s1 {k m e : Nat} {sh0 : zv_S} {I0 : zv_I} {J0 : zv_J} {R0 : zv_R} {sh : zv_S} {I : zv_I} {J : zv_J} {R : zv_R} (h : ck_S k m e sh0 I0 J0 R0 sh I J R) : sh (1001 + 8 * k) = some (3, 6) := h.2.2.2.1
theorem xK_rw {k m e : Nat} {sh0 : zv_S} {I0 : zv_I} {J0 : zv_J} {R0 : zv_R} {sh : zv_S} {I : zv_I} {J : zv_J} {R : zv_R} (h : ck_S k m e sh0 I0 J0 R0 sh I J R) : ∀ j, j < 6 → j < e → cb (I0 (50 + j) 0) m = true → R (1001 + 8 * k) j = some (1002 + 8 * k + j) ∧ sh (1002 + 8 * k + j) = some (0, 8) ∧ I (1002 + 8 * k + j) = I0 (102 + 20 * m + j) := h.2.2.2.2.1
theorem xK_rn {k m e : Nat} {sh0 : zv_S} {I0 : zv_I} {J0 : zv_J} {R0 : zv_R} {sh : zv_S} {I : zv_I} {J : zv_J} {R : zv_R} (h : ck_S k m e sh0 I0 J0 R0 sh I J R) : ∀ j, j < 6 → (e ≤ j ∨ cb (I0 (50 + j) 0) m = false) → R (1001 + 8 * k) j = none ∧ sh (1002 + 8 * k + j) = none := h.2.2.2.2.2.1
theorem xK_ct {k m e : Nat} {sh0 : zv_S} {I0 : zv_I} {J0 : zv_J} {R0 : zv_R} {sh : zv_S} {I : zv_I} {J : zv_J} {R : zv_R} (h : ck_S k m e sh0 I0 J0 R0 sh I J R) : I (1000 + 8 * k) 1 = nI (cc_smS (fun j => if cb (I0 (50 + j) 0) m = true then rm_cnt (cb (I0 (50 + j) 0)) 8 else 0) e) := h.2.2.2.2.2.2
theorem ck_WK {k m e : Nat} {sh0 : zv_S} {I0 : zv_I} {J0 : zv_J} {R0 : zv_R} {sh : zv_S} {I : zv_I} {J : zv_J} {R : zv_R} (h : ck_S k m e sh0 I0 J0 R0 sh I J R) : cc_WK sh R k := ⟨xK_s0 h, xK_r0 h, xK_s1 h, fun j hj => by
  by_cases q : j < e
  · cases hb : cb (I0 (50 + j) 0) m with
    | true => exact Or.inr ⟨(xK_rw h j hj q hb).1, (xK_rw h j hj q hb).2.1⟩
    | false => exact Or.inl (xK_rn h j hj (Or.inr hb)).1
  · exact Or.inl (xK_rn h j hj (Or.inl (by omega))).1⟩
theorem ck_skip {k m e : Nat} {sh0 : zv_S} {I0 : zv_I} {J0 : zv_J} {R0 : zv_R} {sh : zv_S} {I : zv_I} {J : zv_J} {R : zv_R} (h : ck_S k m e sh0 I0 J0 R0 sh I J R) (hp : cb (I0 (50 + e) 0) m = false) : ck_S k m (e + 1) sh0 I0 J0 R0 sh I J R := by
  refine ⟨xK_fr h, xK_s0 h, xK_r0 h, xK_s1 h, fun j h6 hj hb => ?_, fun j h6 hj => ?_, ?_⟩
  · by_cases q : j = e
    · rw [q, hp] at hb; cases hb
    · exact xK_rw h j h6 (by omega) hb
  · by_cases q : j = e
    · exact xK_rn h j h6 (Or.inl (by omega))
    · exact xK_rn h j h6 (hj.elim (fun z => Or.inl (by omega)) Or.inr)
  · rw [xK_ct h]
    show _ = nI (cc_smS _ e + (if cb (I0 (50 + e) 0) m = true then rm_cnt (cb (I0 (50 + e) 0)) 8 else 0))
    rw [if_neg (by rw [hp]; decide)]
    rfl
theorem ck_step {k m e : Nat} {sh0 : zv_S} {I0 : zv_I} {J0 : zv_J} {R0 : zv_R} {sh : zv_S} {I : zv_I} {J : zv_J} {R : zv_R} {x0 x : Int32} (h : ck_S k m e sh0 I0 J0 R0 sh I J R) (he : e < 6) (hm : m < 8) (hp : cb (I0 (50 + e) 0) m = true) (hx0 : I (1000 + 8 * k) 1 = x0) (hx : x = nI (rm_cnt (cb (I0 (50 + e) 0)) 8)) : ck_S k m (e + 1) sh0 I0 J0 R0 (zv_sn sh (1002 + 8 * k + e) (0, 8)) (cn_IR I k e (102 + 20 * m + e) x0 x) (zv_n J (1002 + 8 * k + e) (J (102 + 20 * m + e))) (cn_RR R k e) := by
  unfold cn_IR cn_RR
  refine ⟨fun t ht => ?_, ?_, ?_, ?_, fun j h6 hj hb => ?_, fun j h6 hj => ?_, ?_⟩
  · obtain ⟨g1, g2, g3, g4⟩ := xK_fr h t ht
    rw [zv_sn_t _ _ (by omega), zv_u_row _ _ _ _ (by omega), zv_n_t _ _ (by omega), zv_n_t _ _ (by omega), zv_u_row _ _ _ _ (by omega), zv_n_t _ _ (by omega)]
    exact ⟨g1, g2, g3, g4⟩
  · rw [zv_sn_t _ _ (by omega)]; exact xK_s0 h
  · rw [zv_u_row _ _ _ _ (by omega), zv_n_t _ _ (by omega)]; exact xK_r0 h
  · rw [zv_sn_t _ _ (by omega)]; exact xK_s1 h
  · by_cases q : j = e
    · subst q
      rw [zv_u_s, zv_sn_s, zv_u_row _ _ _ _ (by omega), zv_n_s]
      exact ⟨rfl, rfl, (xK_fr h (102 + 20 * m + j) (by omega)).2.1⟩
    · rw [zv_u_j _ _ q, zv_sn_t _ _ (by omega), zv_n_t _ _ (by omega), zv_u_row _ _ _ _ (by omega), zv_n_t _ _ (by omega)]
      exact xK_rw h j h6 (by omega) hb
  · have q : j ≠ e := fun q => hj.elim (fun z => by omega) (fun z => by rw [q, hp] at z; cases z)
    rw [zv_u_j _ _ q, zv_sn_t _ _ (by omega), zv_n_t _ _ (by omega)]
    exact xK_rn h j h6 (hj.elim (fun z => Or.inl (by omega)) Or.inr)
  · rw [zv_u_s, ← hx0, xK_ct h, hx, nI_add]
    show _ = nI (cc_smS _ e + (if cb (I0 (50 + e) 0) m = true then rm_cnt (cb (I0 (50 + e) 0)) 8 else 0))
    rw [if_pos hp]
theorem cC_clockNow_l (d : Nat) {E : zv_E} {nm nc nl k m : Nat} {sh0 : zv_S} {I0 : zv_I} {J0 : zv_J} {R0 : zv_R} (B : cc_B sh0 I0 R0 nm nc nl) (hm : m < nm) (hk : k < 200) (hby : ∀ c, c < nc → cr_by (I0 (50 + c) 0)) : ∀ n e sh I J R, e + n = nc → ck_S k m e sh0 I0 J0 R0 sh I J R → zv_V E mX7_clockNow (d + 2) n (8 * n) 10 [.ref 40, .int (nI m), .ref (1000 + 8 * k), .int (nI e)] [] sh I J R (fun v sh I J R => v = some (.ref (1000 + 8 * k)) ∧ ck_S k m nc sh0 I0 J0 R0 sh I J R) := by
  obtain ⟨W0, n5, b5, n6, b6, n7, b7, LF⟩ := B
  intro n
  induction n with
  | zero =>
    intro e sh I J R he K
    have he2 : e = nc := by omega
    subst he2
    have W := cc_W_lt W0 b5 b6 b7 (fun t ht => ⟨(xK_fr K t (by omega)).1, (xK_fr K t (by omega)).2.2.2⟩)
    refine zv_iload_n dX7_clockNow_10 rfl rfl ?_
    refine zv_aload_n dX7_clockNow_11 rfl rfl ?_
    refine zv_geti 6 6 (x := nI (e)) dX7_clockNow_12 flX7_58 (wW0_s40 W.1) rfl ((congrFun (xK_fr K 40 (by omega)).2.1 6).trans n6) ?_
    refine zv_icN_ge (tgt := 68) dX7_clockNow_15 (by decide) (by omega) (by omega) (fun h15 => ?_) (fun h15 => (absurd h15 (by omega)))
    refine zv_aload_n dX7_clockNow_68 rfl rfl ?_
    refine zv_aret dX7_clockNow_69 rfl (Or.inl ⟨_, rfl⟩) ?_
    exact ⟨rfl, K⟩
  | succ n ih =>
    intro e sh I J R he K
    have W := cc_W_lt W0 b5 b6 b7 (fun t ht => ⟨(xK_fr K t (by omega)).1, (xK_fr K t (by omega)).2.2.2⟩)
    refine zv_iload_n dX7_clockNow_10 rfl rfl ?_
    refine zv_aload_n dX7_clockNow_11 rfl rfl ?_
    refine zv_geti 6 6 (x := nI (nc)) dX7_clockNow_12 flX7_58 (wW0_s40 W.1) rfl ((congrFun (xK_fr K 40 (by omega)).2.1 6).trans n6) ?_
    refine zv_icN_ge (tgt := 68) dX7_clockNow_15 (by decide) (by omega) (by omega) (fun h15 => (absurd h15 (by omega))) (fun h15 => ?_)
    refine zv_aload_n dX7_clockNow_18 rfl rfl ?_
    refine zv_getr 6 1 (u := 42) dX7_clockNow_19 flX7_17 (wW0_s40 W.1) rfl (wW0_r1 W.1) ?_
    refine zv_iload_n dX7_clockNow_22 rfl rfl ?_
    refine zv_aald (j := e) (o := some (50 + e)) dX7_clockNow_23 (wW0_s42 W.1) (by decide) (by decide) (rfl) (show e < 6 from by omega) (by decide) ((W.2.2.1 e (by omega)).1) ?_
    show zv_V _ _ _ _ _ 24 [.ref 40, .int (nI (m)), .ref (1000 + 8 * k), .int (nI (e))] [.ref (50 + e)] _ _ _ _ _
    refine zv_geti 0 0 (x := (I0 (50 + e) 0)) dX7_clockNow_24 flX7_132 ((W.2.2.1 e (by omega)).2) rfl (congrFun (xK_fr K (50 + e) (by omega)).2.1 0) ?_
    refine zv_iload_n dX7_clockNow_27 rfl rfl ?_
    refine cc_callS (As := [.int ((I0 (50 + e) 0)), .int (nI (m))]) (st := []) dX7_clockNow_28 csX7_218 rfl (by decide) (cc_c1 rfl (cc_c1 rfl cc_c0)) (Nat.le_of_ble_eq_true rfl) (cC_hasBit (d + 1) ((I0 (50 + e) 0)) m) (fun v s1 I1 J1 R1 q => ?_)
    obtain ⟨rfl, rfl, rfl, rfl, rfl⟩ := q
    show zv_V _ _ _ _ _ 31 [.ref 40, .int (nI (m)), .ref (1000 + 8 * k), .int (nI (e))] [.int (rm_b (cb ((I0 (50 + e) 0)) m))] _ _ _ _ _
    refine zv_ifB_eq (tgt := 62) dX7_clockNow_31 (by decide) (fun h31 => ?_) (fun h31 => ?_)
    · refine zv_iinc (v := nI (e + 1)) (lv' := [.ref 40, .int (nI (m)), .ref (1000 + 8 * k), .int (nI (e + 1))]) dX7_clockNow_62 rfl (nI_add (e) 1) (by decide) rfl ?_
      refine zv_goto (tgt := 10) dX7_clockNow_65 (by decide) ?_
      exact zv_le (by omega) (by omega) (ih (e + 1) _ _ _ _ (by omega) (ck_skip K h31))
    · refine zv_aload_n dX7_clockNow_34 rfl rfl ?_
      refine zv_iload_n dX7_clockNow_35 rfl rfl ?_
      refine zv_aload_n dX7_clockNow_36 rfl rfl ?_
      refine zv_getr 6 0 (u := 41) dX7_clockNow_37 flX7_11 (wW0_s40 W.1) rfl (wW0_r0 W.1) ?_
      refine zv_iload_n dX7_clockNow_40 rfl rfl ?_
      refine zv_aald (j := m) (o := some (100 + 20 * m)) dX7_clockNow_41 (wW0_s41 W.1) (by decide) (by decide) (rfl) (show m < 8 from by omega) (by decide) ((W.2.1 m (by omega)).1) ?_
      show zv_V _ _ _ _ _ 42 [.ref 40, .int (nI (m)), .ref (1000 + 8 * k), .int (nI (e))] [.ref (100 + 20 * m), .int (nI (e)), .ref (1000 + 8 * k)] _ _ _ _ _
      refine zv_getr 3 0 (u := 101 + 20 * m) dX7_clockNow_42 flX7_148 (wWM_s (W.2.1 m (by omega)).2) rfl (wWM_r0 (W.2.1 m (by omega)).2) ?_
      refine zv_iload_n dX7_clockNow_45 rfl rfl ?_
      refine zv_aald (j := e) (o := some (102 + 20 * m + e)) dX7_clockNow_46 (wWM_s0 (W.2.1 m (by omega)).2) (by decide) (by decide) (rfl) (show e < 6 from by omega) (by decide) ((wWM_g (W.2.1 m (by omega)).2 e (by omega)).1) ?_
      show zv_V _ _ _ _ _ 47 [.ref 40, .int (nI (m)), .ref (1000 + 8 * k), .int (nI (e))] [.ref (102 + 20 * m + e), .int (nI (e)), .ref (1000 + 8 * k)] _ _ _ _ _
      refine zv_aload_n dX7_clockNow_47 rfl rfl ?_
      refine zv_getr 6 1 (u := 42) dX7_clockNow_48 flX7_17 (wW0_s40 W.1) rfl (wW0_r1 W.1) ?_
      refine zv_iload_n dX7_clockNow_51 rfl rfl ?_
      refine zv_aald (j := e) (o := some (50 + e)) dX7_clockNow_52 (wW0_s42 W.1) (by decide) (by decide) (rfl) (show e < 6 from by omega) (by decide) ((W.2.2.1 e (by omega)).1) ?_
      show zv_V _ _ _ _ _ 53 [.ref 40, .int (nI (m)), .ref (1000 + 8 * k), .int (nI (e))] [.ref (50 + e), .ref (102 + 20 * m + e), .int (nI (e)), .ref (1000 + 8 * k)] _ _ _ _ _
      refine zv_geti 0 0 (x := (I0 (50 + e) 0)) dX7_clockNow_53 flX7_132 ((W.2.2.1 e (by omega)).2) rfl (congrFun (xK_fr K (50 + e) (by omega)).2.1 0) ?_
      refine cc_callS (As := [.int ((I0 (50 + e) 0))]) (st := [.ref (102 + 20 * m + e), .int (nI (e)), .ref (1000 + 8 * k)]) dX7_clockNow_56 csX7_53 rfl (by decide) (cc_c1 rfl cc_c0) (Nat.le_of_ble_eq_true rfl) (cC_bitCount (d + 1) (I0 (50 + e) 0)) (fun v s1 I1 J1 R1 q => ?_)
      obtain ⟨rfl, rfl, rfl, rfl, rfl⟩ := q
      show zv_V _ _ _ _ _ 59 [.ref 40, .int (nI (m)), .ref (1000 + 8 * k), .int (nI (e))] [.int ((cbc (I0 (50 + e) 0))), .ref (102 + 20 * m + e), .int (nI (e)), .ref (1000 + 8 * k)] _ _ _ _ _
      rw [show n + 1 = 1 + n from Nat.add_comm _ _, show 8 * (1 + n) = 8 + 8 * n by omega]
      refine cc_callVk (As := [.int (nI (e)), .ref (102 + 20 * m + e), .int ((cbc (I0 (50 + e) 0)))]) (st := []) (c := 1) (kc1 := 1) (ks1 := 8) (kc := n) (ks := (8 * n)) dX7_clockNow_59 cvX7_260 (xK_s0 K) rfl rfl rfl (by decide) (cc_c1 rfl (cc_c1 rfl (cc_c1 rfl cc_c0))) (Nat.le_of_ble_eq_true rfl) (cC_addRow (d) (k := k) (e := e) (t0 := 102 + 20 * m + e) (x := cbc (I0 (50 + e) 0)) (x0 := I (1000 + 8 * k) 1) (ck_WK K) (by omega) (wWM_g (W.2.1 m hm).2 e (by omega)).2 (xK_rn K e (by omega) (Or.inl (Nat.le_refl _))).2 rfl) (fun v s1 I1 J1 R1 q => ?_)
      obtain ⟨rfl, rfl, rfl, rfl, rfl⟩ := q
      show zv_V _ _ _ _ _ 62 [.ref 40, .int (nI (m)), .ref (1000 + 8 * k), .int (nI (e))] [] _ _ _ _ _
      refine zv_iinc (v := nI (e + 1)) (lv' := [.ref 40, .int (nI (m)), .ref (1000 + 8 * k), .int (nI (e + 1))]) dX7_clockNow_62 rfl (nI_add (e) 1) (by decide) rfl ?_
      refine zv_goto (tgt := 10) dX7_clockNow_65 (by decide) ?_
      exact ih (e + 1) _ _ _ _ (by omega) (ck_step K (by omega) (by omega) h31 rfl (cbc_n (hby e (by omega))))
theorem cC_clockNow (d : Nat) {E : zv_E} {nm nc nl k m : Nat} {sh0 : zv_S} {I0 : zv_I} {J0 : zv_J} {R0 : zv_R} (B : cc_B sh0 I0 R0 nm nc nl) (hm : m < nm) (hk : k < 200) (hby : ∀ c, c < nc → cr_by (I0 (50 + c) 0)) (hfr : ∀ t, 1000 + 8 * k ≤ t → t < 1008 + 8 * k → sh0 t = none) : zv_V E mX7_clockNow (d + 2) 8 56 0 [.ref 40, .int (nI m)] [] sh0 I0 J0 R0 (fun v sh I J R => v = some (.ref (1000 + 8 * k)) ∧ ck_S k m nc sh0 I0 J0 R0 sh I J R) := by
  refine zv_new (t := 1000 + 8 * k) (kc := 7) (ks := 54) 1 dX7_clockNow_0 (⟨RX1, TX1, 2, rfl, rfl, by decide, inX1, tyX1_ok, clX7_125, insX1, iniX1⟩) (hfr _ (by omega) (by omega)) (by omega) ?_
  refine zv_dup dX7_clockNow_3 rfl ?_
  refine cc_callI (As := []) (st := [.ref (1000 + 8 * k)]) (b := 1000 + 8 * k) (kc1 := 1) (ks1 := 6) (kc := 6) (ks := 48) dX7_clockNow_4 ciX7_259 rfl (by decide) (cc_c0) (Nat.le_of_ble_eq_true rfl) (cC_clockI d (k := k) (zv_sn_s _ _ _) ((zv_sn_t _ _ (by omega)).trans (hfr _ (by omega) (by omega)))) (fun v s1 I1 J1 R1 q => ?_)
  obtain ⟨rfl, rfl, rfl, rfl, rfl⟩ := q
  show zv_V _ _ _ _ _ 7 [.ref 40, .int (nI (m))] [.ref (1000 + 8 * k)] _ _ _ _ _
  refine zv_astore_n (lv' := [.ref 40, .int (nI (m)), .ref (1000 + 8 * k)]) dX7_clockNow_7 rfl (by decide) rfl ?_
  refine zv_iconst (v := nI (0)) dX7_clockNow_8 (by decide) ?_
  refine zv_istore_n (lv' := [.ref 40, .int (nI (m)), .ref (1000 + 8 * k), .int (nI (0))]) dX7_clockNow_9 rfl (by decide) rfl ?_
  refine zv_le (kc := nc) (ks := 8 * nc) (by have := B.2.2.2.2.1; omega) (by have := B.2.2.2.2.1; omega) (cC_clockNow_l d B hm hk hby nc 0 _ _ _ _ (by omega) ?_)
  have b5 := B.2.2.1
  refine ⟨fun t ht => ?_, ?_, ?_, ?_, fun j h6 hj => absurd hj (by omega), fun j h6 _ => ?_, ?_⟩
  · rw [zv_sn_t _ _ (by omega), zv_sn_t _ _ (by omega), zv_n_t _ _ (by omega), zv_n_t _ _ (by omega), zv_n_t _ _ (by omega), zv_n_t _ _ (by omega), zv_u_row _ _ _ _ (by omega), zv_n_t _ _ (by omega), zv_n_t _ _ (by omega)]
    exact ⟨rfl, rfl, rfl, rfl⟩
  · rw [zv_sn_t _ _ (by omega), zv_sn_s]
  · exact zv_u_s _ _ _ _
  · exact zv_sn_s _ _ _
  · rw [zv_u_row _ _ _ _ (by omega), zv_n_s, zv_sn_t _ _ (by omega), zv_sn_t _ _ (by omega)]
    exact ⟨rfl, hfr _ (by omega) (by omega)⟩
  · rw [zv_n_t _ _ (by omega), zv_n_s]
    rfl
