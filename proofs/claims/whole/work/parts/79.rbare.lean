theorem cr_bare1 {sh : zv_S} {I : zv_I} {J : zv_J} {R : zv_R} {a : zv_I} {nm nc nl m s l : Nat} (RL : cr_R sh I J R a nm nc nl) (hQ : iQ a nm nc nl) (hm : m < nm) (hs : s < 40) (hl : l < nl) : cr_R sh I J (zv_u R (113 + 20 * m) s (some (1000 + 8 * cc_ck R l))) (zv_u a 27 (40 * m + s) (-1 - nI l)) nm nc nl ∧ iQ (zv_u a 27 (40 * m + s) (-1 - nI l)) nm nc nl := by
  have H := hQ.1
  have n0 := (xI_n0 H).2
  have n4 := (xI_n4 H).2
  have hr : ∀ t, t ≠ 27 → zv_u a 27 (40 * m + s) (-1 - nI l) t = a t := fun t ht => zv_u_row _ _ _ _ ht
  have hR : ∀ t, t ≠ 113 + 20 * m → zv_u R (113 + 20 * m) s (some (1000 + 8 * cc_ck R l)) t = R t := fun t ht => zv_u_row _ _ _ _ ht
  have ein : rm_in (zv_u a 27 (40 * m + s) (-1 - nI l)) = rm_in a := by funext x c; exact rm_in_o (hr 6 (by decide)) x c
  have eel : rm_el (zv_u a 27 (40 * m + s) (-1 - nI l)) = rm_el a := by funext c; unfold rm_el; rw [ein]
  have eck : ∀ x, x < nl → cc_ck (zv_u R (113 + 20 * m) s (some (1000 + 8 * cc_ck R l))) x = cc_ck R x := fun x hx => ck_o (hR _ (by omega))
  have h27 : ∀ m' s', m' < 8 → s' < 40 → ¬ (m' = m ∧ s' = s) → zv_u a 27 (40 * m + s) (-1 - nI l) 27 (40 * m' + s') = a 27 (40 * m' + s') := fun m' s' h1 h2 h3 => zv_u_j _ _ (by omega)
  have hbq : ∀ m' x, rm_bq (zv_u a 27 (40 * m + s) (-1 - nI l)) m' nl x = rm_bq a m' nl x := fun m' x => bq_c nl fun y _ => ⟨by unfold rm_kn; rw [hr 12 (by decide), hr 20 (by decide)], by unfold rm_ib; rw [hr 26 (by decide)]⟩
  have hsg : ∀ m' c, cr_sg (zv_u a 27 (40 * m + s) (-1 - nI l)) nl m' c = cr_sg a nl m' c := fun m' c => by unfold cr_sg; rw [hr 10 (by decide), hr 11 (by decide), hr 20 (by decide)]
  refine ⟨⟨cc_B_o (xR_B RL) (fun t ht => hR t (fun q => ht ⟨m, Or.inr (Or.inr ⟨q, by omega⟩)⟩)) (fun _ _ => rfl) (fun _ _ _ _ => rfl), ?_, fun c hc => ?_, fun x hx => ?_, fun m' hm' => ?_⟩, ?_, fun r hr' => iq_o (xI_n1 H).2 (fun t _ h1 _ _ => hr t h1) (hQ.2 r hr')⟩
  · have T := xR_T RL
    exact ⟨by rw [hr 3 (by decide)]; exact xT_na T, by rw [hr 3 (by decide)]; exact xT_st T, by rw [hr 3 (by decide)]; exact xT_nt T, by rw [hr 29 (by decide)]; exact xT_tr T⟩
  · have C := xR_C RL c hc
    exact ⟨by rw [hr 6 (by decide)]; exact xC_b C, by rw [eel]; exact xC_e C, by rw [hr 7 (by decide)]; exact xC_p C⟩
  · refine cr_L_o (xR_L RL x hx) rfl (fun _ _ _ => rfl) rfl (hR _ (by omega)) (hR _ (by omega)) (fun t h1 h2 => congrFun (hr t (by omega)) _) (fun j _ => congrFun (hr 19 (by decide)) _) (fun m' _ => congrFun (hr 20 (by decide)) _) (fun y _ => congrFun (hr 26 (by decide)) _) ?_
    unfold rm_cof
    refine cnt_c fun i hi => ?_
    unfold rm_cop rm_row
    rw [ein, hr 18 (by decide)]
  · have M := xR_M RL m' hm'
    by_cases q : m' = m
    · subst q
      refine ⟨by rw [hr 21 (by decide)]; exact xM_g M, by rw [hr 22 (by decide)]; exact xM_w M, fun c hc => by rw [hsg]; exact xM_s M c hc, by rw [hr 24 (by decide)]; exact xM_r M, by rw [hr 25 (by decide)]; exact xM_n M, ?_, fun c hc => ?_, fun s' hs' => ?_, fun x hx => by rw [hbq]; exact xM_k M x hx⟩
      · obtain ⟨n, h, g1, g2⟩ := xM_h M
        refine ⟨n, h, g1, ?_⟩
        unfold cr_H at g2 ⊢
        rw [hr 20 (by decide), hR _ (by omega)]
        exact g2
      · rw [hR _ (by omega), hr 23 (by decide), lc_o eck (xI_la H m' c (by omega) hc) n4]; exact xM_l M c hc
      · by_cases z : s' = s
        · have e : rm_th (zv_u a 27 (40 * m' + s) (-1 - nI l)) m' s = some (false, l) := by
            unfold rm_th
            rw [zv_u_s]
            exact rm_thw_c (by omega)
          rw [z, zv_u_s, e]
          show some (1000 + 8 * cc_ck R l) = some (1000 + 8 * cc_ck _ l)
          rw [eck l hl]
        · have e : rm_th (zv_u a 27 (40 * m' + s) (-1 - nI l)) m' s' = rm_th a m' s' := by
            unfold rm_th
            rw [h27 m' s' (by omega) hs' (fun v => z v.2)]
          rw [zv_u_j _ _ z, e, tg_o eck (xI_sl H m' s' (by omega) hs') n4]
          exact xM_t M s' hs'
    · refine cr_M_o M (fun _ _ _ => rfl) rfl (hR _ (by omega)) (hR _ (by omega)) (fun c hc => lc_o eck (xI_la H m' c (by omega) hc) n4) (fun s' hs' => tg_o eck (xI_sl H m' s' (by omega) hs') n4) (fun j _ => congrFun (hr 21 (by decide)) _) (fun c _ => congrFun (hr 22 (by decide)) _) (fun i _ => congrFun (hr 24 (by decide)) _) (congrFun (hr 25 (by decide)) _) (fun c _ => congrFun (hr 23 (by decide)) _) (fun s' hs' => h27 m' s' (by omega) hs' (fun v => q v.1)) (fun c _ => hsg m' c) (fun n h g => ?_) (fun x _ => hbq m' x)
      unfold cr_H at g ⊢
      rw [hr 20 (by decide), hR _ (by omega)]
      exact g
  · have e3 := hr 3 (by decide)
    refine iv_o H (fun t _ h1 _ _ => hr t h1) (fun j _ _ => by rw [e3]) ?_ (fun m' s' h1 h2 => ?_) (fun m' h1 h2 s' hs' => ?_)
    · have eNT : rm_NT (zv_u a 27 (40 * m + s) (-1 - nI l)) = rm_NT a := by unfold rm_NT; rw [e3]
      rw [e3, eNT]
      exact xI_nt H
    · unfold rm_sl
      by_cases z : m' = m ∧ s' = s
      · rw [z.1, z.2, zv_u_s]
        exact Or.inr (Or.inr ⟨l, hl, rfl⟩)
      · rw [h27 m' s' h1 h2 z]
        exact xI_sl H m' s' h1 h2
    · rw [h27 m' s' h2 hs' (fun v => by omega)]
      exact (xI_zm H m' h1 h2).1 s' hs'
theorem cr_bare {sh : zv_S} {I : zv_I} {J : zv_J} {R : zv_R} {a : zv_I} {nm nc nl : Nat} (RL : cr_R sh I J R a nm nc nl) (hQ : iQ a nm nc nl) (x y z : Int32) : cr_R sh (cr_bI I a nm nl x y z) J (cr_bR R a nm nl x y z) (q_bareA a nm nl x y z) nm nc nl ∧ iQ (q_bareA a nm nl x y z) nm nc nl ∧ ∀ t, t < 40 → cr_bI I a nm nl x y z t = I t ∧ cr_bR R a nm nl x y z t = R t := by
  have H := hQ.1
  have n0 := (xI_n0 H).2
  have n4 := (xI_n4 H).2
  unfold cr_bI cr_bR q_bareA
  by_cases q : (rm_lt x nm && (rm_lt y 40 && rm_lt z nl)) = true
  · rw [if_pos q, if_pos q, if_pos q]
    obtain ⟨q1, q2⟩ := (Bool.and_eq_true _ _).mp q
    obtain ⟨q2, q3⟩ := (Bool.and_eq_true _ _).mp q2
    obtain ⟨m, hm, rfl⟩ := rm_lt_t q1 (by omega)
    obtain ⟨s, hs, rfl⟩ := rm_lt_t q2 (by omega)
    obtain ⟨l, hl, rfl⟩ := rm_lt_t q3 (by omega)
    rw [rm_nv_n (n := m) (by omega), rm_nv_n (n := s) (by omega), rm_nv_n (n := l) (by omega)]
    by_cases v : a 27 (40 * m + s) = 0
    · rw [if_pos v, if_pos v, if_pos v]
      obtain ⟨g1, g2⟩ := cr_bare1 RL hQ hm hs hl
      exact ⟨cr_sts g1 g2.1 (nI 0), iQ_st g2 (nI 0), fun t ht => ⟨zv_u_row _ _ _ _ (by omega), zv_u_row _ _ _ _ (by omega)⟩⟩
    · rw [if_neg v, if_neg v, if_neg v]
      exact ⟨cr_sts RL H (nI 3), iQ_st hQ (nI 3), fun t ht => ⟨zv_u_row _ _ _ _ (by omega), rfl⟩⟩
  · rw [if_neg q, if_neg q, if_neg q]
    exact ⟨cr_sts RL H (nI 1), iQ_st hQ (nI 1), fun t ht => ⟨zv_u_row _ _ _ _ (by omega), rfl⟩⟩
