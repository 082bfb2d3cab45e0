theorem iv_w0 {a : zv_I} {nm nc nl q w c : Nat} (H : iv a nm nc nl q) (hw : w < 8) (hc : c < 6) (h : rm_in a w c = false) : iv_w a w c = 0 := by
  by_cases z : iv_w a w c = 0
  · exact z
  · obtain ⟨l, h1, h2, h3, _⟩ := xI_lx H w c 1 hw hc (by omega) (by omega)
    have := xI_li H l h1
    rw [h2, h3, h] at this
    cases this
def wX (IK : zv_I) (nl w c : Nat) (kk x4 x sv y : Int32) : zv_I := zv_u (zv_u (cn_IL (zv_n IK (300 + 3 * nl) (fun _ => 0)) nl (nI nl) kk (nI c) (nI w) x4 x) (300 + 3 * nl) 10 sv) 40 8 y
def wY (RK : zv_R) (nl w c : Nat) : zv_R := zv_u (cn_RL (zv_n RK (300 + 3 * nl) (fun _ => none)) nl (1000 + 8 * nl)) (110 + 20 * w) c (some (1000 + 8 * nl))
theorem cr_write {sh sK : zv_S} {I IK : zv_I} {J JK : zv_J} {R RK : zv_R} {a : zv_I} {nm nc nl w c n : Nat} {kk x sv : Int32} {h : Nat → Nat} (RL : cr_R sh I J R a nm nc nl) (FR : cr_F sh nm nc nl) (H : iv a nm nc nl 0) (hA : rm_NA a < 100) (hw : w < nm) (hc : c < nc) (hin : rm_in a w c = true) (K : ck_S nl w nc sh (zv_u I (108 + 20 * w) c (I (108 + 20 * w) c + nI 1)) J R sK IK JK RK) (hsv : sv = rm_c4 a nm nc nl kk w c x 17 nl) (hn : I (100 + 20 * w) 9 = nI n) (hH : cr_H R a nl w n h) : cr_R (cn_sL (zv_sn sK (300 + 3 * nl) (12, 0)) nl) (cs_I (wX IK nl w c kk (I (108 + 20 * w) c + nI 1) x sv (nI (rm_NA a + 1))) nl w n (I (50 + c) 0)) (cs_J (cn_JL (zv_n JK (300 + 3 * nl) (fun _ => 0)) nl) nl w) (cs_R (wY RK nl w c) nl w n) (rm_c4 a nm nc nl kk w c x) nm nc (nl + 1) ∧ cr_F (cn_sL (zv_sn sK (300 + 3 * nl) (12, 0)) nl) nm nc (nl + 1) := by
  have n0 := (xI_n0 H).2
  have n1 := (xI_n1 H).2
  have n4 := (xI_n4 H).2
  have hnl := iv_room1 H hA
  have S := c4_nS (kk := kk) (x := x) H hnl hw hc
  have eK : ∀ t, ¬ eN nl t → sK t = sh t ∧ IK t = zv_u I (108 + 20 * w) c (I (108 + 20 * w) c + nI 1) t ∧ JK t = J t ∧ RK t = R t := fun t ht => xK_fr K t (by unfold eN at ht; omega)
  have eNl : ∀ t, t < 300 → ¬ eN nl t := fun t ht z => by unfold eN at z; omega
  have eb : ∀ e, e < nc → zv_u I (108 + 20 * w) c (I (108 + 20 * w) c + nI 1) (50 + e) 0 = a 6 e := fun e he => by
    rw [zv_u_row _ _ _ _ (by omega)]; exact xC_b (xR_C RL e he)
  have ew : ∀ e, e < nc → cb (zv_u I (108 + 20 * w) c (I (108 + 20 * w) c + nI 1) (50 + e) 0) w = rm_in a w e := fun e he => by rw [eb e he]; rfl
  have ein : rm_in (rm_c4 a nm nc nl kk w c x) = rm_in a := by funext m e; exact rm_in_o (xN_o S 6 (by omega)) m e
  have e6Y : wY RK nl w c (300 + 3 * nl) 6 = some (1000 + 8 * nl) := by
    unfold wY
    rw [zv_u_row _ _ _ _ (by omega)]
    exact cnR_l.1
  have eYck : cc_ck (cs_R (wY RK nl w c) nl w n) nl = nl := ck_of (by rw [csR_o (by omega) (by omega) (by omega)]; exact e6Y)
  have eYk : ∀ y, y < nl → cc_ck (cs_R (wY RK nl w c) nl w n) y = cc_ck R y := fun y hy => ck_o (by
    rw [csR_o (by omega) (by omega) (by omega)]
    unfold wY
    rw [zv_u_row _ _ _ _ (by omega), cnR_o (by omega) (by omega) (by omega)]
    exact (eK _ (fun z => by unfold eN at z; omega)).2.2.2)
  have E : eS sh I J R (cn_sL (zv_sn sK (300 + 3 * nl) (12, 0)) nl) (cs_I (wX IK nl w c kk (I (108 + 20 * w) c + nI 1) x sv (nI (rm_NA a + 1))) nl w n (I (50 + c) 0)) (cs_J (cn_JL (zv_n JK (300 + 3 * nl) (fun _ => 0)) nl) nl w) (cs_R (wY RK nl w c) nl w n) (rm_c4 a nm nc nl kk w c x) nc nl w c n nl kk x := by
    refine eS_mk (nm := nm) (IB := IK) (RB := RK) (by omega) (by omega) (fun t ht => (eK t ht).1) (fun t ht h1 => ((eK t ht).2.1).trans (zv_u_row _ _ _ _ h1)) (fun c' => ?_) (fun t ht => (eK t ht).2.2.1) (fun t ht => (eK t ht).2.2.2) (fun t h1 h2 => ?_) (fun j hj => ?_) ?_ (fun j hj => ?_) ?_ (fun t ht => ?_) (fun c' hc' => ?_) (by omega) hnl ?_ (fun e he => ?_) (fun e m he hm => ?_) ?_
    · rw [(eK _ (eNl _ (by omega))).2.1]
      by_cases q : c' = c
      · rw [if_pos q, q, zv_u_s]
      · rw [if_neg q, zv_u_j _ _ q]
    · unfold wX; rw [zv_u_row _ _ _ _ h1, zv_u_row _ _ _ _ h2]
    · unfold wX; rw [zv_u_row _ _ _ _ (by omega), zv_u_j _ _ hj]
    · unfold wX; rw [zv_u_row _ _ _ _ (by omega), zv_u_s]; exact hsv
    · unfold wX
      rw [zv_u_j _ _ hj, zv_u_row _ _ _ _ (by omega), cnI_o (by omega) (by omega) (by omega), zv_n_t _ _ (by omega), (eK 40 (eNl _ (by omega))).2.1, zv_u_row _ _ _ _ (by omega)]
    · unfold wX; rw [zv_u_s, c4_35]
    · unfold wY; rw [zv_u_row _ _ _ _ ht]
    · rw [c4_23]
      by_cases q : c' = c
      · unfold wY at eYck ⊢
        rw [q, zv_u_s, if_pos rfl]
        unfold cr_lc
        rw [if_neg (nI_m1 (by omega)), rm_nv_n (by omega), eYck]
      · rw [if_neg (by omega), lc_o eYk (xI_la H w c' (by omega) hc') n4, ← xM_l (xR_M RL w hw) c' hc']
        unfold wY
        rw [zv_u_j _ _ q, cnR_o (by omega) (by omega) (by omega), (eK _ (eNl _ (by omega))).2.2.2]
    · obtain ⟨w1, w2, w3, w4⟩ := ck_WK K
      have s1 : ∀ t, 1000 ≤ t → cn_sL (zv_sn sK (300 + 3 * nl) (12, 0)) nl t = sK t := fun t ht => cnS_o (by omega) (by omega) (by omega)
      have r1 : ∀ t, 1000 ≤ t → cs_R (wY RK nl w c) nl w n t = RK t := fun t ht => by
        rw [csR_o (by omega) (by omega) (by omega)]
        unfold wY
        rw [zv_u_row _ _ _ _ (by omega), cnR_o (by omega) (by omega) (by omega)]
      unfold cc_WK
      rw [s1 _ (by omega), s1 (1001 + 8 * nl) (by omega), r1 _ (by omega), r1 (1001 + 8 * nl) (by omega)]
      exact ⟨w1, w2, w3, fun e he => by rw [s1 _ (by omega)]; exact w4 e he⟩
    · rw [c4_18 he n1]
      by_cases q : e < nc
      · rw [decide_eq_true q, Bool.true_and, ← ew e q]
        cases hb : cb (zv_u I (108 + 20 * w) c (I (108 + 20 * w) c + nI 1) (50 + e) 0) w with
        | true => rw [(xK_rw K e he q hb).1]; rfl
        | false => rw [(xK_rn K e he (Or.inr hb)).1]; rfl
      · rw [decide_eq_false q, (xK_rn K e he (Or.inl (by omega))).1]; rfl
    · rw [c4_19 H (by omega) hnl he hm]
      unfold cc_cv
      by_cases q : e < nc
      · cases hb : cb (zv_u I (108 + 20 * w) c (I (108 + 20 * w) c + nI 1) (50 + e) 0) w with
        | true =>
          have hb2 : rm_in a w e = true := by rw [← ew e q]; exact hb
          obtain ⟨k1, k2, k3⟩ := xK_rw K e he q hb
          rw [k1, k3]
          show zv_u I (108 + 20 * w) c _ (102 + 20 * w + e) m = _
          rw [zv_u_row _ _ _ _ (by omega), xM_g (xR_M RL w hw) e m he hm, (xI_gv H w e m (by omega) he hm).1]
          congr 1
          cases hi : rm_in a m e with
          | true => rw [if_pos ⟨q, hb2, rfl⟩]
          | false =>
            rw [if_neg (fun z => absurd z.2.2 (by decide))]
            have h1 := (xI_gv H w e m (by omega) he hm).2
            rw [iv_w0 H hm he hi] at h1
            omega
        | false =>
          have hb2 : rm_in a w e = false := by rw [← ew e q]; exact hb
          rw [(xK_rn K e he (Or.inr hb)).1, if_neg (fun z => by rw [hb2] at z; exact absurd z.2.1 (by decide))]
      · rw [(xK_rn K e he (Or.inl (by omega))).1, if_neg (fun z => q z.1)]
    · rw [xK_ct K]
      congr 1
      unfold rm_cof
      rw [cnt_8]
      refine smS_c nc fun e he => ?_
      have ep : ∀ m, m < 8 → rm_cop (rm_c4 a nm nc nl kk w c x) nl (8 * e + m) = (rm_in a w e && rm_in a m e) := fun m hm => by
        unfold rm_cop
        rw [show (8 * e + m) / 8 = e by omega, show (8 * e + m) % 8 = m by omega, c4_18 (by omega) n1, decide_eq_true he, Bool.true_and, ein]
      show (if cb (zv_u I (108 + 20 * w) c (I (108 + 20 * w) c + nI 1) (50 + e) 0) w = true then rm_cnt (cb (zv_u I (108 + 20 * w) c (I (108 + 20 * w) c + nI 1) (50 + e) 0)) 8 else 0) = _
      rw [ew e he, eb e he]
      cases hb : rm_in a w e with
      | true =>
        rw [if_pos rfl]
        refine cnt_c fun m hm => ?_
        show _ = rm_cop (rm_c4 a nm nc nl kk w c x) nl (8 * e + m)
        rw [ep m hm, hb, Bool.true_and]
        rfl
      | false =>
        rw [if_neg (by decide)]
        refine (cnt_0 fun m hm => ?_).symm
        show rm_cop (rm_c4 a nm nc nl kk w c x) nl (8 * e + m) = false
        rw [ep m hm, hb, Bool.false_and]
  exact ⟨cr_new RL FR H S E hnl hw hc hin hn hH, cr_F_w FR (xE_s E)⟩
