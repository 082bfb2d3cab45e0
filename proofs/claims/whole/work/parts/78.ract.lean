theorem iQ_o {a b : zv_I} {nm nc nl : Nat} (h : iQ a nm nc nl) (hr : ∀ t, t ≠ 3 → t ≠ 29 → t ≠ 31 → b t = a t) (h3 : ∀ j, j ≠ 24 → j ≠ 26 → b 3 j = a 3 j) (hnt : b 3 26 = nI (rm_NT b) ∧ rm_NT b ≤ 60) : iQ b nm nc nl := by
  have e27 : b 27 = a 27 := hr 27 (by decide) (by decide) (by decide)
  refine ⟨iv_o h.1 (fun t h1 _ h2 h3 => hr t h1 h2 h3) h3 hnt (fun m s h1 h2 => ?_) (fun m h1 h2 s hs => by rw [e27]; exact (xI_zm h.1 m h1 h2).1 s hs), fun r hr' => iq_o (xI_n1 h.1).2 (fun t h1 _ h2 h3 => hr t h1 h2 h3) (h.2 r hr')⟩
  unfold rm_sl
  rw [e27]
  exact xI_sl h.1 m s h1 h2
theorem chA_o {a : zv_I} {nl t : Nat} {x y : Int32} (h : t ≠ 31) : q_chA a nl x y t = a t := by
  unfold q_chA
  split
  · exact rm_cl_o h
  · rfl
theorem iQ_chain {a : zv_I} {nm nc nl : Nat} (h : iQ a nm nc nl) (x y : Int32) : iQ (q_chA a nl x y) nm nc nl := by
  have e3 : q_chA a nl x y 3 = a 3 := chA_o (by decide)
  refine iQ_o h (fun t _ _ h2 => chA_o h2) (fun j _ _ => by rw [e3]) ?_
  have eNT : rm_NT (q_chA a nl x y) = rm_NT a := by unfold rm_NT; rw [e3]
  rw [e3, eNT]
  exact xI_nt h.1
theorem cr_chain {sh : zv_S} {I I' : zv_I} {J : zv_J} {R : zv_R} {a : zv_I} {nm nc nl : Nat} (RL : cr_R sh I J R a nm nc nl) (H : iv a nm nc nl 0) (hI : ∀ t, t ≠ 44 → I' t = I t) (x y : Int32) : cr_R sh I' J R (q_chA a nl x y) nm nc nl := by
  have T := xR_T RL
  have e3 : q_chA a nl x y 3 = a 3 := chA_o (by decide)
  refine cr_o RL H (fun t _ h2 _ _ => hI t h2) (fun j _ => by rw [hI 40 (by decide)]) (fun t _ _ h2 => chA_o h2) ⟨?_, ?_, ?_, fun i hi => ?_⟩
  · rw [hI 40 (by decide), e3]; exact xT_na T
  · rw [hI 40 (by decide), e3]; exact xT_st T
  · rw [hI 45 (by decide), e3]; exact xT_nt T
  · rw [hI 46 (by decide), chA_o (by decide)]; exact xT_tr T i hi
/-- the bodies that run, here and there -/
theorem ct_tr : ∀ (L : List Nat) (I a : zv_I) (n : Nat), I 45 1 = nI n → a 3 26 = nI n → (∀ i, i < 60 → I 46 i = a 29 i) → n + L.length ≤ 60 → ct_l I n L 45 1 = rm_tr a L 3 26 ∧ rm_tr a L 3 26 = nI (n + L.length) ∧ (∀ i, i < 60 → ct_l I n L 46 i = rm_tr a L 29 i) ∧ (∀ t, t ≠ 3 → t ≠ 29 → rm_tr a L t = a t) ∧ ∀ j, j ≠ 26 → rm_tr a L 3 j = a 3 j
  | [], I, a, n, h1, h2, h3, _ => ⟨h1.trans h2.symm, h2, h3, fun _ _ _ => rfl, fun _ _ => rfl⟩
  | b :: L, I, a, n, h1, h2, h3, h4 => by
    have h4 : n + (L.length + 1) ≤ 60 := h4
    have eN : rm_NT a = n := by unfold rm_NT; rw [h2]; exact rm_nv_n (by omega)
    have e1 : ct_b I n b 45 1 = nI (n + 1) := zv_u_s _ _ _ _
    have e2 : rm_ran a b 3 26 = nI (n + 1) := by rw [rm_ran_26, eN]
    have e3 : ∀ i, i < 60 → ct_b I n b 46 i = rm_ran a b 29 i := fun i hi => by
      unfold ct_b rm_ran
      rw [zv_u_row _ 45 _ _ (show 46 ≠ 45 by decide), zv_u_row _ 3 _ _ (show 29 ≠ 3 by decide), eN]
      by_cases q : i = n
      · rw [q, zv_u_s, zv_u_s]
      · rw [zv_u_j _ _ q, zv_u_j _ _ q]; exact h3 i hi
    obtain ⟨g1, g2, g3, g4, g5⟩ := ct_tr L (ct_b I n b) (rm_ran a b) (n + 1) e1 e2 e3 (by omega)
    refine ⟨g1, by show rm_tr (rm_ran a b) L 3 26 = nI (n + (L.length + 1)); rw [g2]; congr 1; omega, g3, fun t ht1 ht2 => ?_, fun j hj => ?_⟩
    · show rm_tr (rm_ran a b) L t = a t
      rw [g4 t ht1 ht2]
      unfold rm_ran
      rw [zv_u_row _ _ _ _ ht1, zv_u_row _ _ _ _ ht2]
    · show rm_tr (rm_ran a b) L 3 j = a 3 j
      rw [g5 j hj]
      unfold rm_ran
      rw [zv_u_j _ _ hj, zv_u_row _ _ _ _ (by decide)]
theorem act_len (a : zv_I) (nc l k y : Nat) (x : Int32) : (p_act a nc l k x y).2.length ≤ 14 := by
  unfold p_act
  split
  · have := p_age_l k (a 13 l) (a 14 l) x; omega
  · have := p_bear_l k (a 13 l) (a 14 l) (a 15 l) (nI (rm_cof a nc l)) x; omega
  · have := p_gf_l k k (a 13 l) (a 14 l) (a 15 l) (nI (rm_cof a nc l)) x; rw [p_give_f]; omega
  · have := p_wf_l k k (a 13 l) (a 14 l) (a 15 l) (nI (rm_cof a nc l)) x; rw [p_wait_f]; omega
theorem cr_act {sh : zv_S} {I : zv_I} {J : zv_J} {R : zv_R} {a : zv_I} {nm nc nl : Nat} (RL : cr_R sh I J R a nm nc nl) (hQ : iQ a nm nc nl) (l y x : Int32) : cr_R sh (cr_aI I a nc nl l y x) J R (q_actA a nc nl l y x) nm nc nl ∧ iQ (q_actA a nc nl l y x) nm nc nl ∧ ∀ t, t < 40 → cr_aI I a nc nl l y x t = I t := by
  have H := hQ.1
  have T := xR_T RL
  unfold cr_aI q_actA
  by_cases q : (rm_lt l nl && rm_lt y 4) = true
  · rw [if_pos q, if_pos q]
    have hL := act_len a nc (rm_nv l) (rm_nv (a 10 (rm_nv l))) (rm_nv y) x
    obtain ⟨g1, g2, g3, g4, g5⟩ := ct_tr (p_act a nc (rm_nv l) (rm_nv (a 10 (rm_nv l))) x (rm_nv y)).2 (zv_u I 45 1 (nI 0)) (zv_u a 3 26 (nI 0)) 0 (zv_u_s _ _ _ _) (zv_u_s _ _ _ _) (fun i hi => by rw [zv_u_row _ _ _ _ (by decide), zv_u_row _ _ _ _ (by decide)]; exact xT_tr T i hi) (by omega)
    have c1 : ∀ t, t ≠ 45 → t ≠ 46 → ct_l (zv_u I 45 1 (nI 0)) 0 (p_act a nc (rm_nv l) (rm_nv (a 10 (rm_nv l))) x (rm_nv y)).2 t = I t := fun t h1 h2 => by rw [ct_l_o h1 h2, zv_u_row _ _ _ _ h1]
    generalize (p_act a nc (rm_nv l) (rm_nv (a 10 (rm_nv l))) x (rm_nv y)).2 = L at *
    have r1 : ∀ t, t ≠ 3 → t ≠ 29 → zv_u (rm_tr (zv_u a 3 26 (nI 0)) L) 3 24 (nI 0) t = a t := fun t h1 h2 => by rw [zv_u_row _ _ _ _ h1, g4 t h1 h2, zv_u_row _ _ _ _ h1]
    have r3 : ∀ j, j ≠ 24 → j ≠ 26 → zv_u (rm_tr (zv_u a 3 26 (nI 0)) L) 3 24 (nI 0) 3 j = a 3 j := fun j h1 h2 => by rw [zv_u_j _ _ h1, g5 j h2, zv_u_j _ _ h2]
    have r26 : zv_u (rm_tr (zv_u a 3 26 (nI 0)) L) 3 24 (nI 0) 3 26 = nI (0 + L.length) := by rw [zv_u_j _ _ (by decide), g2]
    refine ⟨cr_o RL H (fun t h1 _ h3 h4 => by rw [zv_u_row _ _ _ _ h1, c1 t h3 h4]) (fun j hj => by rw [zv_u_j _ _ hj, c1 40 (by decide) (by decide)]) (fun t h1 h2 _ => r1 t h1 h2) ⟨?_, ?_, ?_, fun i hi => ?_⟩, iQ_o hQ (fun t h1 h2 _ => r1 t h1 h2) r3 ?_, fun t ht => by rw [zv_u_row _ _ _ _ (by omega), c1 t (by omega) (by omega)]⟩
    · rw [zv_u_j _ _ (by decide), c1 40 (by decide) (by decide), r3 5 (by decide) (by decide)]; exact xT_na T
    · rw [zv_u_s, zv_u_s]
    · rw [zv_u_row _ _ _ _ (by decide), zv_u_j _ _ (by decide)]; exact g1
    · rw [zv_u_row _ _ _ _ (by decide), zv_u_row _ _ _ _ (by decide)]; exact g3 i hi
    · have eNT : rm_NT (zv_u (rm_tr (zv_u a 3 26 (nI 0)) L) 3 24 (nI 0)) = 0 + L.length := by unfold rm_NT; rw [r26]; exact rm_nv_n (by omega)
      rw [eNT]
      exact ⟨r26, by omega⟩
  · rw [if_neg q, if_neg q]
    exact ⟨cr_sts RL H (nI 1), iQ_st hQ (nI 1), fun t ht => zv_u_row _ _ _ _ (by omega)⟩
