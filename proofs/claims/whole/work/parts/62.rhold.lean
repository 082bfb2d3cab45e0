theorem hd_o {R : zv_R} {m u p n t : Nat} (h1 : t ≠ 112 + 20 * m) (h2 : t ≠ 113 + 20 * m) : cc_hd R m u p n t = R t := by
  unfold cc_hd
  cases cc_slf R m with
  | none =>
    show zv_u _ _ _ _ t = _
    rw [zv_u_row _ _ _ _ h1, cc_in_o h1]
  | some k =>
    show zv_u _ _ _ _ t = _
    rw [zv_u_row _ _ _ _ h2, zv_u_row _ _ _ _ h1, cc_in_o h1]
theorem hd_112 {R : zv_R} {m u p n i : Nat} : cc_hd R m u p n (112 + 20 * m) i = if i = p then some u else if p < i ∧ i ≤ n then R (112 + 20 * m) (i - 1) else R (112 + 20 * m) i := by
  have e : cc_hd R m u p n (112 + 20 * m) i = zv_u (cc_in R (112 + 20 * m) p n) (112 + 20 * m) p (some u) (112 + 20 * m) i := by
    unfold cc_hd
    cases cc_slf R m with
    | none => rfl
    | some k => exact zv_u_t _ _ (by omega)
  rw [e]
  by_cases q : i = p
  · rw [if_pos q, q, zv_u_s]
  · rw [if_neg q, zv_u_j _ _ q]
    unfold cc_in
    by_cases z : p < i ∧ i ≤ n
    · rw [if_pos z, if_pos ⟨rfl, z⟩]
    · rw [if_neg z, if_neg (fun v => z v.2)]
theorem hd_113 {R : zv_R} {m u p n s : Nat} : cc_hd R m u p n (113 + 20 * m) s = if cc_slf R m = some s then some u else R (113 + 20 * m) s := by
  unfold cc_hd
  cases h : cc_slf R m with
  | none =>
    rw [if_neg (fun v => by cases v)]
    show zv_u _ _ _ _ _ _ = _
    rw [zv_u_t _ _ (by omega), cc_in_o (by omega)]
  | some k =>
    show zv_u _ _ _ _ _ _ = _
    by_cases q : s = k
    · rw [if_pos (by rw [q]), q, zv_u_s]
    · rw [if_neg (fun v => q (Option.some.inj v).symm), zv_u_j _ _ q, zv_u_t _ _ (by omega), cc_in_o (by omega)]
theorem pos_of {h : Nat → Nat} {l : Nat} : ∀ n, (∀ i j, i < j → j < n → h i < h j) → (∀ i, i < n → h i ≠ l) → ∃ p, p ≤ n ∧ (∀ i, i < p → h i < l) ∧ ∀ i, p ≤ i → i < n → l < h i
  | 0, _, _ => ⟨0, Nat.le_refl _, fun i hi => absurd hi (by omega), fun i _ hi => absurd hi (by omega)⟩
  | n + 1, g1, g2 => by
    obtain ⟨p, h1, h2, h3⟩ := pos_of n (fun i j a b => g1 i j a (by omega)) (fun i hi => g2 i (by omega))
    by_cases q : h n < l
    · refine ⟨n + 1, Nat.le_refl _, fun i hi => ?_, fun i g3 g4 => absurd g3 (by omega)⟩
      by_cases z : i = n
      · rw [z]; exact q
      · exact Nat.lt_trans (g1 i n (by omega) (by omega)) q
    · refine ⟨p, by omega, h2, fun i g3 g4 => ?_⟩
      by_cases z : i = n
      · rw [z]; have := g2 n (by omega); omega
      · exact h3 i g3 (by omega)
theorem cr_H_le {R : zv_R} {a : zv_I} {nl m n : Nat} {h : Nat → Nat} (H : cr_H R a nl m n h) : n ≤ nl := by
  have : ∀ i, i < n → i ≤ h i := by
    intro i
    induction i with
    | zero => intro _; omega
    | succ i ih =>
      intro hi
      have := H.2.1 i (i + 1) (by omega) hi
      have := ih (by omega)
      omega
  cases n with
  | zero => omega
  | succ n =>
    have h1 := this n (by omega)
    have h2 := (H.1 n (by omega)).2.1
    omega
/-- a held letter more: there was room -/
theorem cr_H_lt {R : zv_R} {a : zv_I} {nl m n l : Nat} {h : Nat → Nat} (H : cr_H R a nl m n h) (hl : l < nl) (hs : ¬ a 20 (200 * m + l) = nI 2) : n < nl := by
  obtain ⟨p, h1, h2, h3⟩ := pos_of (l := l) n H.2.1 (fun i hi q => hs (by rw [← q]; exact (H.1 i hi).2.2))
  have key : ∀ i, i < n → (i < p → i ≤ h i) ∧ (p ≤ i → i + 1 ≤ h i) := by
    intro i
    induction i with
    | zero =>
      intro hi
      refine ⟨fun _ => by omega, fun hp => ?_⟩
      have := h3 0 hp hi
      omega
    | succ i ih =>
      intro hi
      have g := H.2.1 i (i + 1) (by omega) hi
      have g2 := ih (by omega)
      refine ⟨fun hp => ?_, fun hp => ?_⟩
      · have := g2.1 (by omega); omega
      · by_cases z : p ≤ i
        · have := g2.2 z; omega
        · have z2 : p = i + 1 := by omega
          have g3 := h3 (i + 1) (by omega) hi
          have g4 := h2 i (by omega)
          have g5 := g2.1 (by omega)
          omega
  cases n with
  | zero => omega
  | succ n =>
    have g := key n (by omega)
    have g2 := (H.1 n (by omega)).2.1
    by_cases z : p ≤ n
    · have := g.2 z; omega
    · have z2 : p = n + 1 := by omega
      have g4 := h2 n (by omega)
      have g5 := g.1 (by omega)
      omega
theorem cr_hold {sh : zv_S} {I : zv_I} {J : zv_J} {R : zv_R} {a : zv_I} {nm nc nl m l n p : Nat} {h : Nat → Nat} (RL : cr_R sh I J R a nm nc nl) (H : iv a nm nc nl 0) (hm : m < nm) (hl : l < nl) (hs : a 20 (200 * m + l) = nI 1) (hH : cr_H R a nl m n h) (hp : p ≤ n) (hp1 : ∀ i, i < p → h i < l) (hp2 : ∀ i, p ≤ i → i < n → l < h i) : cr_R sh (zv_u (zv_u I (300 + 3 * l) 11 (I (300 + 3 * l) 11 &&& (nI 1 <<< (nI m &&& 31) ^^^ -1))) (100 + 20 * m) 9 (nI (n + 1))) J (cc_hd R m (300 + 3 * l) p n) (rm_hld a m l) nm nc nl := by
  have n0 := (xI_n0 H).2
  have n1 := (xI_n1 H).2
  have n4 := (xI_n4 H).2
  have eo : ∀ t, t ≠ 20 → t ≠ 27 → rm_hld a m l t = a t := fun t h1 h2 => hl_o h1 h2
  have eI : ∀ t, t ≠ 300 + 3 * l → t ≠ 100 + 20 * m → zv_u (zv_u I (300 + 3 * l) 11 (I (300 + 3 * l) 11 &&& (nI 1 <<< (nI m &&& 31) ^^^ -1))) (100 + 20 * m) 9 (nI (n + 1)) t = I t := fun t h1 h2 => by rw [zv_u_row _ _ _ _ h2, zv_u_row _ _ _ _ h1]
  have eL : ∀ j, j ≠ 11 → zv_u (zv_u I (300 + 3 * l) 11 (I (300 + 3 * l) 11 &&& (nI 1 <<< (nI m &&& 31) ^^^ -1))) (100 + 20 * m) 9 (nI (n + 1)) (300 + 3 * l) j = I (300 + 3 * l) j := fun j h1 => by rw [zv_u_row _ _ _ _ (by omega), zv_u_j _ _ h1]
  have eL11 : zv_u (zv_u I (300 + 3 * l) 11 (I (300 + 3 * l) 11 &&& (nI 1 <<< (nI m &&& 31) ^^^ -1))) (100 + 20 * m) 9 (nI (n + 1)) (300 + 3 * l) 11 = I (300 + 3 * l) 11 &&& (nI 1 <<< (nI m &&& 31) ^^^ -1) := by rw [zv_u_row _ _ _ _ (by omega), zv_u_s]
  generalize hIe : zv_u (zv_u I (300 + 3 * l) 11 (I (300 + 3 * l) 11 &&& (nI 1 <<< (nI m &&& 31) ^^^ -1))) (100 + 20 * m) 9 (nI (n + 1)) = I' at eI eL eL11 ⊢
  have e9 : I' (100 + 20 * m) 9 = nI (n + 1) := by rw [← hIe]; exact zv_u_s _ _ _ _
  have e8 : I' (100 + 20 * m) 8 = I (100 + 20 * m) 8 := by rw [← hIe, zv_u_j _ _ (by decide), zv_u_row _ _ _ _ (by omega)]
  have hR1 : ∀ t, t ≠ 112 + 20 * m → t ≠ 113 + 20 * m → cc_hd R m (300 + 3 * l) p n t = R t := fun t h1 h2 => hd_o h1 h2
  have ein : rm_in (rm_hld a m l) = rm_in a := by funext x c; exact rm_in_o (eo 6 (by decide) (by decide)) x c
  have eel : rm_el (rm_hld a m l) = rm_el a := by funext c; unfold rm_el; rw [ein]
  have eib : rm_ib (rm_hld a m l) = rm_ib a := by funext x y; unfold rm_ib; rw [eo 26 (by decide) (by decide)]
  have ecf : ∀ x, rm_cof (rm_hld a m l) nc x = rm_cof a nc x := fun x => by
    unfold rm_cof
    refine cnt_c fun i hi => ?_
    unfold rm_cop rm_row
    rw [ein, eo 18 (by decide) (by decide)]
  have eck : ∀ x, x < nl → cc_ck (cc_hd R m (300 + 3 * l) p n) x = cc_ck R x := fun x hx => ck_o (hR1 _ (by omega) (by omega))
  have est : ∀ m' x, x < nl → rm_hld a m l 20 (200 * m' + x) = if m' = m ∧ x = l then nI 2 else a 20 (200 * m' + x) := fun m' x h2 => hl_20 (by omega) (by omega)
  have e3s : ∀ m' x, x < nl → (rm_hld a m l 20 (200 * m' + x) = nI 3 ↔ a 20 (200 * m' + x) = nI 3) := fun m' x h2 => by
    rw [est m' x h2]
    by_cases q : m' = m ∧ x = l
    · rw [if_pos q, q.1, q.2, hs]
      exact ⟨fun z => absurd z (by decide), fun z => absurd z (by decide)⟩
    · rw [if_neg q]
  have esg : ∀ r c, cr_sg (rm_hld a m l) nl r c = cr_sg a nl r c := fun r c => by
    unfold cr_sg
    rw [eo 10 (by decide) (by decide), eo 11 (by decide) (by decide)]
    refine cnt_c fun i hi => ?_
    show decide _ = decide _
    congr 1
    rw [e3s r i hi]
  have ebq : ∀ m' z, rm_bq (rm_hld a m l) m' nl z = rm_bq a m' nl z := fun m' z => bq_c nl fun y hy => ⟨by unfold rm_kn; rw [eo 12 (by decide) (by decide)]; congr 1; rw [e3s m' y hy], by rw [eib]⟩
  refine ⟨cc_B_o (xR_B RL) (fun t ht => hR1 t (fun q => ht ⟨m, Or.inr (Or.inl ⟨q, by omega⟩)⟩) (fun q => ht ⟨m, Or.inr (Or.inr ⟨q, by omega⟩)⟩)) (fun j hj => by rw [eI 40 (by omega) (by omega)]) (fun x j hx hj => ?_), ?_, fun c hc => ?_, fun x hx => ?_, fun m' hm' => ?_⟩
  · by_cases q : x = l
    · rw [q]; exact eL j (by omega)
    · rw [eI (300 + 3 * x) (by omega) (by omega)]
  · have T := xR_T RL
    rw [← hIe] at *
    refine ⟨by rw [eI 40 (by omega) (by omega), eo 3 (by decide) (by decide)]; exact xT_na T, by rw [eI 40 (by omega) (by omega), eo 3 (by decide) (by decide)]; exact xT_st T, by rw [eI 45 (by omega) (by omega), eo 3 (by decide) (by decide)]; exact xT_nt T, fun i hi => by rw [eI 46 (by omega) (by omega), eo 29 (by decide) (by decide)]; exact xT_tr T i hi⟩
  · have C := xR_C RL c hc
    have e := eI (50 + c) (by omega) (by omega)
    exact ⟨by rw [e, eo 6 (by decide) (by decide)]; exact xC_b C, by rw [e, eel]; exact xC_e C, by rw [e, eo 7 (by decide) (by decide)]; exact xC_p C⟩
  · have L := xR_L RL x hx
    by_cases q : x = l
    · subst q
      refine ⟨by rw [eL 1 (by decide), eo 10 (by decide) (by decide)]; exact xL_k L, by rw [eL 2 (by decide), eo 11 (by decide) (by decide)]; exact xL_c L, by rw [eL 3 (by decide), eo 12 (by decide) (by decide)]; exact xL_w L, by rw [eL 4 (by decide), eo 13 (by decide) (by decide)]; exact xL_s L, by rw [eL 5 (by decide), eo 14 (by decide) (by decide)]; exact xL_n L, by rw [eL 8 (by decide), eo 15 (by decide) (by decide)]; exact xL_p L, by rw [eL 9 (by decide), eo 16 (by decide) (by decide)]; exact xL_o L, by rw [eL 10 (by decide), eo 17 (by decide) (by decide)]; exact xL_v L, by rw [eL11]; exact by_and (xL_ly L) (by omega), fun m' hm' => ?_, by rw [eL 12 (by decide)]; exact xL_gy L, fun m' hm' => ?_, fun e he => ?_, fun e m' he hm' => ?_, ?_, fun y hy => ?_⟩
      · rw [eL11, cb_and _ _ hm', xL_lb L m' hm', cb_msk (by omega) hm', est m' x hx]
        by_cases z : m' = m
        · rw [if_pos ⟨z, rfl⟩, decide_eq_false (show ¬ ¬ m' = m from fun v => v z), Bool.and_false]; rfl
        · rw [if_neg (fun v => z v.1), decide_eq_true z, Bool.and_true]
      · rw [eL 12 (by decide), xL_gb L m' hm']
        congr 1
        rw [e3s m' x hx]
      · have er : rm_row (rm_hld a m x) x e = rm_row a x e := by unfold rm_row; rw [eo 18 (by decide) (by decide)]
        rw [eck x hx, hR1 _ (by omega) (by omega), er]; exact xL_r L e he
      · have h1 := xL_cv L e m' he hm'
        rw [eo 19 (by decide) (by decide), ← h1]
        unfold cc_cv
        rw [eck x hx, hR1 _ (by omega) (by omega), eI _ (by omega) (by omega)]
      · rw [eck x hx, eI _ (by omega) (by omega), ecf]; exact xL_ct L
      · rw [eib]; exact xL_bf L y hy
    · refine cr_L_o L (eI _ (by omega) (by omega)) (fun t h1 h2 => eI t (by omega) (by omega)) rfl (hR1 _ (by omega) (by omega)) (hR1 _ (by omega) (by omega)) (fun t h1 h2 => congrFun (eo t (by omega) (by omega)) _) (fun j _ => congrFun (eo 19 (by decide) (by decide)) _) (fun m' hm' => ?_) (fun y _ => congrFun (eo 26 (by decide) (by decide)) _) (ecf x)
      rw [est m' x hx, if_neg (fun v => q v.2)]
  · have M := xR_M RL m' hm'
    by_cases q : m' = m
    · subst q
      refine ⟨fun c w hc hw => by rw [eI _ (by omega) (by omega), eo 21 (by decide) (by decide)]; exact xM_g M c w hc hw, fun c hc => by rw [eI _ (by omega) (by omega), eo 22 (by decide) (by decide)]; exact xM_w M c hc, fun c hc => by rw [eI _ (by omega) (by omega), esg]; exact xM_s M c hc, fun i hi => by rw [eI _ (by omega) (by omega), eo 24 (by decide) (by decide)]; exact xM_r M i hi, by rw [e8, eo 25 (by decide) (by decide)]; exact xM_n M, ?_, fun c hc => by rw [hR1 _ (by omega) (by omega), eo 23 (by decide) (by decide), lc_o eck (xI_la H m' c (by omega) hc) n4]; exact xM_l M c hc, fun s hs' => ?_, fun y hy => by rw [ebq]; exact xM_k M y hy⟩
      · refine ⟨n + 1, fun i => if i < p then h i else if i = p then l else h (i - 1), e9, fun i hi => ?_, fun i j g1 g2 => ?_, fun x hx hx2 => ?_⟩
        · rw [hd_112]
          by_cases z : i = p
          · have e10 : (fun i => if i < p then h i else if i = p then l else h (i - 1)) i = l := by show (if i < p then h i else if i = p then l else h (i - 1)) = l; rw [if_neg (by omega), if_pos z]
            rw [if_pos z, e10]
            exact ⟨rfl, hl, by rw [est m' l hl, if_pos ⟨rfl, rfl⟩]⟩
          · rw [if_neg z]
            by_cases y : i < p
            · have e10 : (fun i => if i < p then h i else if i = p then l else h (i - 1)) i = h i := if_pos y
              rw [if_neg (by omega), e10]
              obtain ⟨g1, g2, g3⟩ := hH.1 i (by omega)
              exact ⟨g1, g2, by rw [est m' _ g2, if_neg (fun v => by have := hp1 i y; omega)]; exact g3⟩
            · have e10 : (fun i => if i < p then h i else if i = p then l else h (i - 1)) i = h (i - 1) := by show (if i < p then h i else if i = p then l else h (i - 1)) = _; rw [if_neg y, if_neg z]
              rw [if_pos (by omega), e10]
              obtain ⟨g1, g2, g3⟩ := hH.1 (i - 1) (by omega)
              exact ⟨g1, g2, by rw [est m' _ g2, if_neg (fun v => by have := hp2 (i - 1) (by omega) (by omega); omega)]; exact g3⟩
        · show (if i < p then h i else if i = p then l else h (i - 1)) < (if j < p then h j else if j = p then l else h (j - 1))
          by_cases z1 : i < p
          · rw [if_pos z1]
            by_cases z2 : j < p
            · rw [if_pos z2]; exact hH.2.1 i j g1 (by omega)
            · rw [if_neg z2]
              by_cases z3 : j = p
              · rw [if_pos z3]; exact hp1 i z1
              · rw [if_neg z3]; exact hH.2.1 i (j - 1) (by omega) (by omega)
          · rw [if_neg z1]
            by_cases z2 : i = p
            · rw [if_pos z2, if_neg (by omega), if_neg (by omega)]; exact hp2 (j - 1) (by omega) (by omega)
            · rw [if_neg z2, if_neg (by omega), if_neg (by omega)]; exact hH.2.1 (i - 1) (j - 1) (by omega) (by omega)
        · rw [est m' x hx] at hx2
          by_cases z : x = l
          · exact ⟨p, by omega, by show (if p < p then h p else if p = p then l else h (p - 1)) = x; rw [if_neg (by omega), if_pos rfl, z]⟩
          · rw [if_neg (fun v => z v.2)] at hx2
            obtain ⟨i, g1, g2⟩ := hH.2.2 x hx hx2
            by_cases y : i < p
            · exact ⟨i, by omega, by show (if i < p then h i else if i = p then l else h (i - 1)) = x; rw [if_pos y]; exact g2⟩
            · exact ⟨i + 1, by omega, by show (if i + 1 < p then h (i + 1) else if i + 1 = p then l else h (i + 1 - 1)) = x; rw [if_neg (by omega), if_neg (by omega), show i + 1 - 1 = i by omega]; exact g2⟩
      · have hsl := xI_sl H m' s (by omega) hs'
        rw [hd_113, slf_frs M]
        by_cases v : rm_frs a m' = some s
        · have e2 : rm_th (rm_hld a m' l) m' s = some (true, l) := by
            unfold rm_th
            rw [hl_27 hs', if_pos ⟨rfl, v⟩]
            exact rm_thw_l (by omega)
          rw [if_pos v, e2]
          rfl
        · have e2 : rm_th (rm_hld a m' l) m' s = rm_th a m' s := by
            unfold rm_th
            rw [hl_27 hs', if_neg (fun u => v u.2)]
          rw [if_neg v, e2, tg_o eck hsl n4]
          exact xM_t M s hs'
    · refine cr_M_o M (fun t h1 h2 => eI t (by omega) (by omega)) rfl (hR1 _ (by omega) (by omega)) (hR1 _ (by omega) (by omega)) (fun c hc => lc_o eck (xI_la H m' c (by omega) hc) n4) (fun s hs' => tg_o eck (xI_sl H m' s (by omega) hs') n4) (fun j _ => congrFun (eo 21 (by decide) (by decide)) _) (fun c _ => congrFun (eo 22 (by decide) (by decide)) _) (fun i _ => congrFun (eo 24 (by decide) (by decide)) _) (congrFun (eo 25 (by decide) (by decide)) _) (fun c _ => congrFun (eo 23 (by decide) (by decide)) _) (fun s hs' => ?_) (fun c _ => esg m' c) (fun n' h' g => ?_) (fun y _ => ebq m' y)
      · rw [hl_27 hs', if_neg (fun u => q u.1)]
      · have est' : ∀ x, x < nl → rm_hld a m l 20 (200 * m' + x) = a 20 (200 * m' + x) := fun x hx => by rw [est m' x hx, if_neg (fun v => q v.1)]
        refine ⟨fun i hi => ?_, g.2.1, fun x hx hx2 => g.2.2 x hx (by rw [← est' x hx]; exact hx2)⟩
        obtain ⟨g1, g2, g3⟩ := g.1 i hi
        exact ⟨by rw [hR1 _ (by omega) (by omega)]; exact g1, g2, by rw [est' _ g2]; exact g3⟩
