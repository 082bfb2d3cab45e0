theorem cn_RM_g {R : zv_R} {m e : Nat} (he : e < 6) : cn_RM R m (101 + 20 * m) e = some (102 + 20 * m + e) := by
  have h : cn_RM R m (101 + 20 * m) = zv_mR R (101 + 20 * m) 6 (101 + 20 * m) := by
    unfold cn_RM
    exact (zv_u_row _ _ _ _ (by omega)).trans ((zv_u_row _ _ _ _ (by omega)).trans ((zv_n_t _ _ (by omega)).trans ((zv_n_t _ _ (by omega)).trans ((zv_u_row _ _ _ _ (by omega)).trans ((zv_n_t _ _ (by omega)).trans ((zv_u_row _ _ _ _ (by omega)).trans ((zv_n_t _ _ (by omega)).trans ((zv_u_row _ _ _ _ (by omega)).trans ((zv_n_t _ _ (by omega)).trans ((zv_u_row _ _ _ _ (by omega)).trans ((zv_n_t _ _ (by omega)).trans ((zv_u_row _ _ _ _ (by omega)).trans ((zv_n_t _ _ (by omega)).trans ((zv_u_row _ _ _ _ (by omega)).trans ((zv_n_t _ _ (by omega)).trans ((zv_u_row _ _ _ _ (by omega)).trans (rfl)))))))))))))))))
  rw [h, zv_mR_s he]
  congr 1
  omega
theorem cr_member {sh : zv_S} {I : zv_I} {J : zv_J} {R : zv_R} {a : zv_I} {nm nc nl : Nat} (RL : cr_R sh I J R a nm nc nl) (FRS : cr_F sh nm nc nl) (hQ : iQ a nm nc nl) (h8 : nm < 8) : cr_R (cn_sM (zv_sn sh (100 + 20 * nm) (13, 0)) nm) (zv_u (zv_u (cn_IM (zv_n I (100 + 20 * nm) (fun _ => 0)) nm) 40 5 (nI (nm + 1))) 40 9 (nI 0)) (cn_JM (zv_n J (100 + 20 * nm) (fun _ => 0)) nm) (zv_u (cn_RM (zv_n R (100 + 20 * nm) (fun _ => none)) nm) 41 nm (some (100 + 20 * nm))) (q_memA a nm) (nm + 1) nc nl ∧ cr_F (cn_sM (zv_sn sh (100 + 20 * nm) (13, 0)) nm) (nm + 1) nc nl := by
  have H := hQ.1
  have n4 := (xI_n4 H).2
  obtain ⟨W, n5, b5, n6, b6, n7, b7, LF⟩ := xR_B RL
  have eb : ∀ t, t ≠ 3 → q_memA a nm t = a t := fun t ht => by
    unfold q_memA
    rw [if_neg (show ¬ nm = 8 by omega), zv_u_row _ _ _ _ ht, zv_u_row _ _ _ _ ht]
  have eb3 : ∀ j, j ≠ 0 → j ≠ 24 → q_memA a nm 3 j = a 3 j := fun j h1 h2 => by
    unfold q_memA
    rw [if_neg (show ¬ nm = 8 by omega), zv_u_j _ _ h2, zv_u_j _ _ h1]
  have eb24 : q_memA a nm 3 24 = nI 0 := by
    unfold q_memA
    rw [if_neg (show ¬ nm = 8 by omega), zv_u_s]
  have es : ∀ t, t < 100 + 20 * nm ∨ 115 + 20 * nm < t → (cn_sM (zv_sn sh (100 + 20 * nm) (13, 0)) nm) t = sh t := fun t ht => cn_sM_o ht
  have eI : ∀ t, t < 100 + 20 * nm ∨ 115 + 20 * nm < t → t ≠ 40 → (zv_u (zv_u (cn_IM (zv_n I (100 + 20 * nm) (fun _ => 0)) nm) 40 5 (nI (nm + 1))) 40 9 (nI 0)) t = I t := fun t ht h40 => by rw [zv_u_row _ _ _ _ h40, zv_u_row _ _ _ _ h40, cn_IM_o ht]
  have eI40 : ∀ j, j ≠ 5 → j ≠ 9 → (zv_u (zv_u (cn_IM (zv_n I (100 + 20 * nm) (fun _ => 0)) nm) 40 5 (nI (nm + 1))) 40 9 (nI 0)) 40 j = I 40 j := fun j h1 h2 => by rw [zv_u_j _ _ h2, zv_u_j _ _ h1, cn_IM_o (by omega)]
  have eIz : ∀ t, 100 + 20 * nm ≤ t → t ≤ 115 + 20 * nm → (zv_u (zv_u (cn_IM (zv_n I (100 + 20 * nm) (fun _ => 0)) nm) 40 5 (nI (nm + 1))) 40 9 (nI 0)) t = fun _ => 0 := fun t h1 h2 => by rw [zv_u_row _ _ _ _ (by omega), zv_u_row _ _ _ _ (by omega), cn_IM_z h1 h2]
  have eR : ∀ t, t < 100 + 20 * nm ∨ 115 + 20 * nm < t → t ≠ 41 → (zv_u (cn_RM (zv_n R (100 + 20 * nm) (fun _ => none)) nm) 41 nm (some (100 + 20 * nm))) t = R t := fun t ht h41 => by rw [zv_u_row _ _ _ _ h41, cn_RM_o ht]
  have eRz : ∀ t, t ≠ 41 → (zv_u (cn_RM (zv_n R (100 + 20 * nm) (fun _ => none)) nm) 41 nm (some (100 + 20 * nm))) t = (cn_RM (zv_n R (100 + 20 * nm) (fun _ => none)) nm) t := fun t h41 => zv_u_row _ _ _ _ h41
  have ein : rm_in (q_memA a nm) = rm_in a := by funext x c; exact rm_in_o (eb 6 (by decide)) x c
  have eel : rm_el (q_memA a nm) = rm_el a := by funext c; unfold rm_el; rw [ein]
  have eck : ∀ x, x < nl → cc_ck (zv_u (cn_RM (zv_n R (100 + 20 * nm) (fun _ => none)) nm) 41 nm (some (100 + 20 * nm))) x = cc_ck R x := fun x hx => ck_o (eR _ (by omega) (by omega))
  have hbq : ∀ m' x, rm_bq (q_memA a nm) m' nl x = rm_bq a m' nl x := fun m' x => bq_c nl fun y _ => ⟨by unfold rm_kn; rw [eb 12 (by decide), eb 20 (by decide)], by unfold rm_ib; rw [eb 26 (by decide)]⟩
  have hsg : ∀ m' c, cr_sg (q_memA a nm) nl m' c = cr_sg a nl m' c := fun m' c => by unfold cr_sg; rw [eb 10 (by decide), eb 11 (by decide), eb 20 (by decide)]
  refine ⟨⟨⟨⟨?_, fun m hm => ?_, fun c hc => ?_, fun l hl => ?_⟩, by rw [zv_u_j _ _ (by decide), zv_u_s], by omega, by rw [eI40 6 (by decide) (by decide)]; exact n6, b6, by rw [eI40 7 (by decide) (by decide)]; exact n7, b7, fun l hl => ?_⟩, ?_, fun c hc => ?_, fun l hl => ?_, fun m hm => ?_⟩, fun t ht => ?_⟩
  · have w := W.1
    unfold cc_W0 at w ⊢
    rw [es 40 (by omega), es 41 (by omega), es 42 (by omega), es 43 (by omega), es 44 (by omega), es 45 (by omega), es 46 (by omega), eR 40 (by omega) (by omega), eR 45 (by omega) (by omega)]
    exact w
  · by_cases z : m = nm
    · rw [z, zv_u_s]
      refine ⟨rfl, cn_sM_T, ?_⟩
      rw [eRz _ (by omega), eRz (114 + 20 * nm) (by omega), eRz (101 + 20 * nm) (by omega)]
      exact ⟨cn_RM_f0, cn_sM_101, cn_RM_f1, cn_sM_108, cn_RM_f2, cn_sM_109, cn_RM_f3, cn_sM_110, cn_RM_f4, cn_sM_111, cn_RM_f5, cn_sM_112, cn_RM_f6, cn_sM_113, cn_RM_f7, cn_sM_114, cn_RM_w, cn_sM_115, fun e he => ⟨cn_RM_g he, cn_sM_g he⟩⟩
    · have w := W.2.1 m (by omega)
      rw [zv_u_j _ _ z, cn_RM_o (by omega)]
      refine ⟨w.1, ?_⟩
      have w := w.2
      unfold cc_WM at w ⊢
      rw [es (100 + 20 * m) (by omega), es (101 + 20 * m) (by omega), es (108 + 20 * m) (by omega), es (109 + 20 * m) (by omega), es (110 + 20 * m) (by omega), es (111 + 20 * m) (by omega), es (112 + 20 * m) (by omega), es (113 + 20 * m) (by omega), es (114 + 20 * m) (by omega), es (115 + 20 * m) (by omega), eR (100 + 20 * m) (by omega) (by omega), eR (101 + 20 * m) (by omega) (by omega), eR (114 + 20 * m) (by omega) (by omega)]
      obtain ⟨w1, w2, w3, w4, w5, w6, w7, w8, w9, w10, w11, w12, w13, w14, w15, w16, w17, w18, w19, w20⟩ := w
      exact ⟨w1, w2, w3, w4, w5, w6, w7, w8, w9, w10, w11, w12, w13, w14, w15, w16, w17, w18, w19, fun e he => by rw [es (102 + 20 * m + e) (by omega)]; exact w20 e he⟩
  · rw [eR 42 (by omega) (by omega), es (50 + c) (by omega)]; exact W.2.2.1 c hc
  · have w := W.2.2.2 l hl
    rw [eR 43 (by omega) (by omega)]
    refine ⟨w.1, ?_⟩
    have w := w.2
    unfold cc_WL at w ⊢
    rw [es (300 + 3 * l) (by omega), es (301 + 3 * l) (by omega), es (302 + 3 * l) (by omega), eR (300 + 3 * l) (by omega) (by omega), eR (301 + 3 * l) (by omega) (by omega)]
    exact w
  · obtain ⟨f1, f2, f3, f4, f5, f6, f7⟩ := LF l hl
    have e := eI (300 + 3 * l) (by omega) (by omega)
    have e1 : cc_ci (zv_u (zv_u (cn_IM (zv_n I (100 + 20 * nm) (fun _ => 0)) nm) 40 5 (nI (nm + 1))) 40 9 (nI 0)) l = cc_ci I l := by unfold cc_ci; rw [e]
    have e2 : cc_wi (zv_u (zv_u (cn_IM (zv_n I (100 + 20 * nm) (fun _ => 0)) nm) 40 5 (nI (nm + 1))) 40 9 (nI 0)) l = cc_wi I l := by unfold cc_wi; rw [e]
    rw [e1, e2, eck l hl, e, eR (300 + 3 * l) (by omega) (by omega)]
    refine ⟨f1, f2, f3, f4, by omega, f6, ?_⟩
    unfold cc_WK at f7 ⊢
    rw [es _ (by omega), es (1001 + 8 * cc_ck R l) (by omega), eR _ (by omega) (by omega), eR (1001 + 8 * cc_ck R l) (by omega) (by omega)]
    obtain ⟨k1, k2, k3, k4⟩ := f7
    exact ⟨k1, k2, k3, fun e' he => by rw [es (1002 + 8 * cc_ck R l + e') (by omega)]; exact k4 e' he⟩
  · have T := xR_T RL
    exact ⟨by rw [eI40 8 (by decide) (by decide), eb3 5 (by decide) (by decide)]; exact xT_na T, by rw [zv_u_s, eb24], by rw [eI 45 (by omega) (by omega), eb3 26 (by decide) (by decide)]; exact xT_nt T, fun i hi => by rw [eI 46 (by omega) (by omega), eb 29 (by decide)]; exact xT_tr T i hi⟩
  · have C := xR_C RL c hc
    have e := eI (50 + c) (by omega) (by omega)
    exact ⟨by rw [e, eb 6 (by decide)]; exact xC_b C, by rw [e, eel]; exact xC_e C, by rw [e, eb 7 (by decide)]; exact xC_p C⟩
  · refine cr_L_o (xR_L RL l hl) (eI _ (by omega) (by omega)) (fun t h1 h2 => eI t (by omega) (by omega)) (cn_JM_o (by omega)) (eR _ (by omega) (by omega)) (eR _ (by omega) (by omega)) (fun t h1 h2 => congrFun (eb t (by omega)) _) (fun j _ => congrFun (eb 19 (by decide)) _) (fun m' _ => congrFun (eb 20 (by decide)) _) (fun y _ => congrFun (eb 26 (by decide)) _) ?_
    unfold rm_cof
    refine cnt_c fun i hi => ?_
    unfold rm_cop rm_row
    rw [ein, eb 18 (by decide)]
  · by_cases z : m = nm
    · subst z
      obtain ⟨z1, z2, z3⟩ := xI_zm H m (Nat.le_refl _) h8
      have hs0 : cr_sg a nl m = fun _ => 0 := by
        funext c
        exact cnt_0 fun i hi => decide_eq_false fun q => by rw [iv_out H (Nat.le_refl _) h8 hi] at q; exact absurd q.2.2 (by decide)
      have hc0 : rm_cnt (fun x => decide (a 20 (200 * m + x) = nI 3)) nl = 0 := cnt_0 fun i hi => decide_eq_false fun q => by rw [iv_out H (Nat.le_refl _) h8 hi] at q; exact absurd q (by decide)
      refine ⟨fun c w hc hw => ?_, fun c hc => ?_, fun c hc => ?_, fun i hi => ?_, ?_, ⟨0, fun _ => 0, ?_, fun i hi => absurd hi (by omega), fun i j _ hj => absurd hj (by omega), fun x hx hx2 => ?_⟩, fun c hc => ?_, fun s hs => ?_, fun x hx => ?_⟩
      · rw [eIz _ (by omega) (by omega), eb 21 (by decide), (xI_gv H m c w h8 hc hw).1, iv_out_g H (Nat.le_refl _) h8 hc hw]; rfl
      · rw [eIz _ (by omega) (by omega), eb 22 (by decide), (xI_ww H m c h8 hc).1, iv_out_w H (Nat.le_refl _) h8 hc]; rfl
      · rw [eIz _ (by omega) (by omega), hsg, hs0]; rfl
      · rw [eIz _ (by omega) (by omega), eb 24 (by decide), z3 i hi]
      · rw [eIz _ (by omega) (by omega), eb 25 (by decide), xI_rd H m h8, hc0]; rfl
      · rw [eIz _ (by omega) (by omega)]; rfl
      · rw [eb 20 (by decide), iv_out H (Nat.le_refl _) h8 hx] at hx2; exact absurd hx2 (by decide)
      · rw [eRz _ (by omega), cn_RM_110, eb 23 (by decide), z2 c hc]; exact (if_pos rfl).symm
      · have e : rm_th (q_memA a m) m s = none := by unfold rm_th; rw [eb 27 (by decide), z1 s hs]; rfl
        rw [eRz _ (by omega), cn_RM_113, e]; rfl
      · rw [cn_JM_z (by omega) (by omega), cs_bit0, hbq]
        cases hb : rm_bq a m nl x with
        | false => rfl
        | true =>
          obtain ⟨y, g1, g2, _⟩ := (bq_iff nl).mp hb
          rcases of_decide_eq_true g2 with v | v
          · have := (xI_lw H y g1)
            have := nI_ij (this.1.symm.trans v) (by omega) (by omega)
            omega
          · rw [iv_out H (Nat.le_refl _) h8 g1] at v; exact absurd v (by decide)
    · refine cr_M_o (xR_M RL m (by omega)) (fun t h1 h2 => eI t (by omega) (by omega)) (cn_JM_o (by omega)) (eR _ (by omega) (by omega)) (eR _ (by omega) (by omega)) (fun c hc => lc_o eck (xI_la H m c (by omega) hc) n4) (fun s' hs' => tg_o eck (xI_sl H m s' (by omega) hs') n4) (fun j _ => congrFun (eb 21 (by decide)) _) (fun c _ => congrFun (eb 22 (by decide)) _) (fun i _ => congrFun (eb 24 (by decide)) _) (congrFun (eb 25 (by decide)) _) (fun c _ => congrFun (eb 23 (by decide)) _) (fun s' _ => congrFun (eb 27 (by decide)) _) (fun c _ => hsg m c) (fun n h g => ?_) (fun x _ => hbq m x)
      unfold cr_H at g ⊢
      rw [eb 20 (by decide), eR _ (by omega) (by omega)]
      exact g
  · by_cases q : t < 100 + 20 * nm ∨ 115 + 20 * nm < t
    · rw [es t q] at ht
      have := FRS t ht
      omega
    · omega
