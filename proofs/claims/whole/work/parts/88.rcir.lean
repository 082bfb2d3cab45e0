theorem cnt_more {p : Nat → Bool} {n : Nat} : ∀ {m : Nat}, (∀ i, n ≤ i → i < n + m → p i = false) → rm_cnt p (n + m) = rm_cnt p n
  | 0, _ => rfl
  | m + 1, h => by
    show rm_cnt p (n + m) + (if p (n + m) = true then 1 else 0) = rm_cnt p n
    rw [h (n + m) (by omega) (by omega), cnt_more (m := m) fun i h1 h2 => h i h1 (by omega)]
    rfl
theorem cr_circle {sh : zv_S} {I : zv_I} {J : zv_J} {R : zv_R} {a : zv_I} {nm nc nl : Nat} {x : Int32} (RL : cr_R sh I J R a nm nc nl) (FRS : cr_F sh nm nc nl) (hQ : iQ a nm nc nl) (h6 : nc < 6) (hx : rm_cib x nm = false) : cr_R (zv_sn sh (50 + nc) (10, 0)) (zv_u (zv_u ((zv_u (zv_u (zv_n I (50 + nc) (fun _ => 0)) (50 + nc) 0 x) (50 + nc) 1 (rm_o (rm_fst (cb x) 8 0)))) (40) 6 (nI (nc + 1))) 40 9 (nI 0)) (zv_n J (50 + nc) (fun _ => 0)) (zv_u ((zv_n R (50 + nc) (fun _ => none))) (42) (nc) (some (50 + nc))) (q_cirA a nm nc x) nm (nc + 1) nl ∧ cr_F (zv_sn sh (50 + nc) (10, 0)) nm (nc + 1) nl := by
  have H := hQ.1
  have n4 := (xI_n4 H).2
  have ok := cir_is (xI_n0 H).2 hx
  obtain ⟨W, n5, b5, n6, b6, n7, b7, LF⟩ := xR_B RL
  rw [cirA_y hx h6]
  generalize hB : zv_u (zv_u (zv_u a 6 nc x) 3 1 (nI (nc + 1))) 3 24 (nI 0) = b
  have eb : ∀ t, t ≠ 3 → t ≠ 6 → b t = a t := fun t ht h1 => by rw [← hB, zv_u_row _ _ _ _ ht, zv_u_row _ _ _ _ ht, zv_u_row _ _ _ _ h1]
  have eb6 : ∀ c, c ≠ nc → b 6 c = a 6 c := fun c hc => by rw [← hB, zv_u_row _ _ _ _ (by decide), zv_u_row _ _ _ _ (by decide), zv_u_j _ _ hc]
  have eb6x : b 6 nc = x := by rw [← hB, zv_u_row _ _ _ _ (by decide), zv_u_row _ _ _ _ (by decide), zv_u_s]
  have eb3 : ∀ j, j ≠ 1 → j ≠ 24 → b 3 j = a 3 j := fun j h1 h2 => by rw [← hB, zv_u_j _ _ h2, zv_u_j _ _ h1, zv_u_row _ _ _ _ (by decide)]
  have eb24 : b 3 24 = nI 0 := by rw [← hB, zv_u_s]
  clear hB
  have es : ∀ t, t ≠ 50 + nc → (zv_sn sh (50 + nc) (10, 0)) t = sh t := fun t ht => zv_sn_t _ _ ht
  have eI : ∀ t, t ≠ 50 + nc → t ≠ 40 → (zv_u (zv_u ((zv_u (zv_u (zv_n I (50 + nc) (fun _ => 0)) (50 + nc) 0 x) (50 + nc) 1 (rm_o (rm_fst (cb x) 8 0)))) (40) 6 (nI (nc + 1))) 40 9 (nI 0)) t = I t := fun t ht h40 => by rw [zv_u_row _ _ _ _ h40, zv_u_row _ _ _ _ h40, zv_u_row _ _ _ _ ht, zv_u_row _ _ _ _ ht, zv_n_t _ _ ht]
  have eI40 : ∀ j, j ≠ 6 → j ≠ 9 → (zv_u (zv_u ((zv_u (zv_u (zv_n I (50 + nc) (fun _ => 0)) (50 + nc) 0 x) (50 + nc) 1 (rm_o (rm_fst (cb x) 8 0)))) (40) 6 (nI (nc + 1))) 40 9 (nI 0)) 40 j = I 40 j := fun j h1 h2 => by rw [zv_u_j _ _ h2, zv_u_j _ _ h1, zv_u_row _ _ _ _ (by omega), zv_u_row _ _ _ _ (by omega), zv_n_t _ _ (by omega)]
  have eR : ∀ t, t ≠ 50 + nc → t ≠ 42 → (zv_u ((zv_n R (50 + nc) (fun _ => none))) (42) (nc) (some (50 + nc))) t = R t := fun t ht h42 => by rw [zv_u_row _ _ _ _ h42, zv_n_t _ _ ht]
  have eJ : ∀ t, t ≠ 50 + nc → (zv_n J (50 + nc) (fun _ => 0)) t = J t := fun t ht => zv_n_t _ _ ht
  have eIn : (zv_u (zv_u ((zv_u (zv_u (zv_n I (50 + nc) (fun _ => 0)) (50 + nc) 0 x) (50 + nc) 1 (rm_o (rm_fst (cb x) 8 0)))) (40) 6 (nI (nc + 1))) 40 9 (nI 0)) (50 + nc) = zv_u (zv_u (zv_n I (50 + nc) (fun _ => 0)) (50 + nc) 0 x) (50 + nc) 1 (rm_o (rm_fst (cb x) 8 0)) (50 + nc) := by rw [zv_u_row _ _ _ _ (by omega), zv_u_row _ _ _ _ (by omega)]
  have ein : ∀ m c, c ≠ nc → rm_in b m c = rm_in a m c := fun m c hc => by unfold rm_in; rw [eb6 c hc]
  have eel : ∀ c, c ≠ nc → rm_el b c = rm_el a c := fun c hc => by
    unfold rm_el
    rw [show (fun m => rm_in b m c) = (fun m => rm_in a m c) from funext fun m => ein m c hc]
  have eix : ∀ m, rm_in b m nc = cb x m := fun m => by unfold rm_in cb; rw [eb6x]
  have nd0 : iv_nd a nl nc = 0 := cnt_0 fun i hi => decide_eq_false fun z => by
    have h5 := xI_lc H i hi
    have z := z.2.1
    rw [h5.1] at z
    have := nI_ij z (by omega) (by omega)
    omega
  have eck : ∀ x', x' < nl → cc_ck (zv_u ((zv_n R (50 + nc) (fun _ => none))) (42) (nc) (some (50 + nc))) x' = cc_ck R x' := fun x' hx' => ck_o (eR _ (by omega) (by omega))
  have hbq : ∀ m' x', rm_bq b m' nl x' = rm_bq a m' nl x' := fun m' x' => bq_c nl fun y _ => ⟨by unfold rm_kn; rw [eb 12 (by decide) (by decide), eb 20 (by decide) (by decide)], by unfold rm_ib; rw [eb 26 (by decide) (by decide)]⟩
  have hsg : ∀ m' c, cr_sg b nl m' c = cr_sg a nl m' c := fun m' c => by unfold cr_sg; rw [eb 10 (by decide) (by decide), eb 11 (by decide) (by decide), eb 20 (by decide) (by decide)]
  refine ⟨⟨⟨⟨?_, fun m hm => ?_, fun c hc => ?_, fun l hl => ?_⟩, by rw [eI40 5 (by decide) (by decide)]; exact n5, b5, by rw [zv_u_j _ _ (by decide), zv_u_s], by omega, by rw [eI40 7 (by decide) (by decide)]; exact n7, b7, fun l hl => ?_⟩, ?_, fun c hc => ?_, fun l hl => ?_, fun m hm => ?_⟩, fun t ht => ?_⟩
  · exact cc_W0_s _ _ W.1 (fun t ht => es t (by omega)) (fun t ht => eR t (by omega) (by omega))
  · have w := W.2.1 m (by omega)
    rw [eR 41 (by omega) (by omega)]
    refine ⟨w.1, ?_⟩
    have w := w.2
    unfold cc_WM at w ⊢
    rw [es (100 + 20 * m) (by omega), es (101 + 20 * m) (by omega), es (108 + 20 * m) (by omega), es (109 + 20 * m) (by omega), es (110 + 20 * m) (by omega), es (111 + 20 * m) (by omega), es (112 + 20 * m) (by omega), es (113 + 20 * m) (by omega), es (114 + 20 * m) (by omega), es (115 + 20 * m) (by omega), eR (100 + 20 * m) (by omega) (by omega), eR (101 + 20 * m) (by omega) (by omega), eR (114 + 20 * m) (by omega) (by omega)]
    obtain ⟨w1, w2, w3, w4, w5, w6, w7, w8, w9, w10, w11, w12, w13, w14, w15, w16, w17, w18, w19, w20⟩ := w
    exact ⟨w1, w2, w3, w4, w5, w6, w7, w8, w9, w10, w11, w12, w13, w14, w15, w16, w17, w18, w19, fun e he => by rw [es (102 + 20 * m + e) (by omega)]; exact w20 e he⟩
  · by_cases z : c = nc
    · rw [z, zv_u_s, zv_sn_s]; exact ⟨rfl, rfl⟩
    · rw [zv_u_j _ _ z, zv_n_t _ _ (by omega), es (50 + c) (by omega)]; exact W.2.2.1 c (by omega)
  · have w := W.2.2.2 l hl
    rw [eR 43 (by omega) (by omega)]
    refine ⟨w.1, ?_⟩
    have w := w.2
    unfold cc_WL at w ⊢
    rw [es (300 + 3 * l) (by omega), es (301 + 3 * l) (by omega), es (302 + 3 * l) (by omega), eR (300 + 3 * l) (by omega) (by omega), eR (301 + 3 * l) (by omega) (by omega)]
    exact w
  · obtain ⟨f1, f2, f3, f4, f5, f6, f7⟩ := LF l hl
    have e := eI (300 + 3 * l) (by omega) (by omega)
    have e1 : cc_ci (zv_u (zv_u ((zv_u (zv_u (zv_n I (50 + nc) (fun _ => 0)) (50 + nc) 0 x) (50 + nc) 1 (rm_o (rm_fst (cb x) 8 0)))) (40) 6 (nI (nc + 1))) 40 9 (nI 0)) l = cc_ci I l := by unfold cc_ci; rw [e]
    have e2 : cc_wi (zv_u (zv_u ((zv_u (zv_u (zv_n I (50 + nc) (fun _ => 0)) (50 + nc) 0 x) (50 + nc) 1 (rm_o (rm_fst (cb x) 8 0)))) (40) 6 (nI (nc + 1))) 40 9 (nI 0)) l = cc_wi I l := by unfold cc_wi; rw [e]
    rw [e1, e2, eck l hl, e, eR (300 + 3 * l) (by omega) (by omega)]
    refine ⟨f1, f2, by omega, f4, f5, f6, ?_⟩
    unfold cc_WK at f7 ⊢
    rw [es _ (by omega), es (1001 + 8 * cc_ck R l) (by omega), eR _ (by omega) (by omega), eR (1001 + 8 * cc_ck R l) (by omega) (by omega)]
    obtain ⟨k1, k2, k3, k4⟩ := f7
    exact ⟨k1, k2, k3, fun e' he => by rw [es (1002 + 8 * cc_ck R l + e') (by omega)]; exact k4 e' he⟩
  · have T := xR_T RL
    exact ⟨by rw [eI40 8 (by decide) (by decide), eb3 5 (by decide) (by decide)]; exact xT_na T, by rw [zv_u_s, eb24], by rw [eI 45 (by omega) (by omega), eb3 26 (by decide) (by decide)]; exact xT_nt T, fun i hi => by rw [eI 46 (by omega) (by omega), eb 29 (by decide) (by decide)]; exact xT_tr T i hi⟩
  · by_cases z : c = nc
    · rw [z]
      refine ⟨by rw [eIn, zv_u_j _ _ (by decide), zv_u_s, eb6x], ?_, by rw [eIn, zv_u_j _ _ (by decide), zv_u_j _ _ (by decide), zv_n_s, eb 7 (by decide) (by decide), xI_cn H nc h6, nd0]; rfl⟩
      rw [eIn, zv_u_s]
      unfold rm_el
      rw [show (fun m => rm_in b m nc) = cb x from funext eix]
      cases hf : rm_fst (cb x) 8 0 with
      | none => have := ok.2.2; rw [hf] at this; cases this
      | some j => rfl
    · have C := xR_C RL c (by omega)
      have e := eI (50 + c) (by omega) (by omega)
      exact ⟨by rw [e, eb6 c z]; exact xC_b C, by rw [e, eel c z]; exact xC_e C, by rw [e, eb 7 (by decide) (by decide)]; exact xC_p C⟩
  · refine cr_L_o (xR_L RL l hl) (eI _ (by omega) (by omega)) (fun t h1 h2 => eI t (by omega) (by omega)) (eJ _ (by omega)) (eR _ (by omega) (by omega)) (eR _ (by omega) (by omega)) (fun t h1 h2 => congrFun (eb t (by omega) (by omega)) _) (fun j _ => congrFun (eb 19 (by decide) (by decide)) _) (fun m' _ => congrFun (eb 20 (by decide) (by decide)) _) (fun y _ => congrFun (eb 26 (by decide) (by decide)) _) ?_
    unfold rm_cof
    have erw : ∀ e, rm_row b l e = rm_row a l e := fun e => by unfold rm_row; rw [eb 18 (by decide) (by decide)]
    rw [show 8 * (nc + 1) = 8 * nc + 8 by omega, cnt_more (p := rm_cop b l) (fun i h1 h2 => ?_)]
    · refine cnt_c fun i hi => ?_
      unfold rm_cop
      rw [erw, ein _ _ (by omega)]
    · unfold rm_cop
      rw [erw]
      cases hr : rm_row a l (i / 8) with
      | false => rfl
      | true => have := xI_rn H l (i / 8) hl (by omega) hr; omega
  · refine cr_M_o (xR_M RL m (by omega)) (fun t h1 h2 => eI t (by omega) (by omega)) (eJ _ (by omega)) (eR _ (by omega) (by omega)) (eR _ (by omega) (by omega)) (fun c hc => lc_o eck (xI_la H m c (by omega) hc) n4) (fun s' hs' => tg_o eck (xI_sl H m s' (by omega) hs') n4) (fun j _ => congrFun (eb 21 (by decide) (by decide)) _) (fun c _ => congrFun (eb 22 (by decide) (by decide)) _) (fun i _ => congrFun (eb 24 (by decide) (by decide)) _) (congrFun (eb 25 (by decide) (by decide)) _) (fun c _ => congrFun (eb 23 (by decide) (by decide)) _) (fun s' _ => congrFun (eb 27 (by decide) (by decide)) _) (fun c _ => hsg m c) (fun n h g => ?_) (fun x _ => hbq m x)
    unfold cr_H at g ⊢
    rw [eb 20 (by decide) (by decide), eR _ (by omega) (by omega)]
    exact g
  · by_cases q : t = 50 + nc
    · omega
    · rw [es t q] at ht
      have := FRS t ht
      omega
