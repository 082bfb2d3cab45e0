theorem shr_lt {x : Int32} {k : Nat} (hk : k ≤ 8) (h0 : ¬ x < 0) (h : x >>> (nI k &&& 31) = 0) : ∃ n, n < 2 ^ k ∧ x = nI n := by
  obtain ⟨j, hj, rfl⟩ := nI_of h0
  refine ⟨j, ?_, rfl⟩
  have h1 := congrArg Int32.toBitVec h
  have e : ∀ k : Fin 9, (nI k.1 &&& 31 : Int32) = nI k.1 := by decide +kernel
  have e1 := e ⟨k, by omega⟩
  simp only at e1
  rw [e1] at h1
  have e2 : ∀ k : Fin 9, ((nI k.1).toBitVec.smod 32).toNat = k.1 := by decide +kernel
  have e3 := e2 ⟨k, by omega⟩
  simp only at e3
  have h2 : (nI j >>> nI k).toBitVec = (nI j).toBitVec.sshiftRight k := by
    rw [Int32.toBitVec_shiftRight, BitVec.sshiftRight_eq', e3]
  rw [h2] at h1
  have h3 : (nI j).toBitVec.toNat = j := by
    show (BitVec.ofNat 32 j).toNat = j
    rw [BitVec.toNat_ofNat]
    exact Nat.mod_eq_of_lt (by omega)
  have h4 : (nI j).toBitVec.msb = false := by
    rw [BitVec.msb_eq_false_iff_two_mul_lt, h3]
    omega
  have h5 := congrArg BitVec.toNat h1
  rw [BitVec.sshiftRight_eq_of_msb_false h4, BitVec.toNat_ushiftRight, h3, Nat.shiftRight_eq_div_pow] at h5
  have h6 : j / 2 ^ k = 0 := h5
  rcases Nat.div_eq_zero_iff.mp h6 with z | z
  · exact absurd z (Nat.ne_of_gt (Nat.two_pow_pos k))
  · exact z
theorem cib_iff {x : Int32} {k : Nat} (hk : k ≤ 8) : rm_cib x k = false ↔ (x &&& ((-1 : Int32) <<< (nI k &&& 31)) = 0 ∧ nI 2 ≤ cbc x) := by
  have p8 : 2 ^ k ≤ 256 := Nat.pow_le_pow_right (n := 2) (by omega) hk
  refine ⟨fun h => ?_, fun h => ?_⟩
  · have h1 := of_decide_eq_false h
    obtain ⟨n, hn, rfl⟩ := shr_lt hk (fun q => h1 (Or.inr (Or.inl q))) (Decidable.not_not.mp fun q => h1 (Or.inr (Or.inr q)))
    exact ⟨msk_z ⟨k, by omega⟩ ⟨n, by omega⟩ hn, (cib_i ⟨k, by omega⟩ ⟨n, by omega⟩ hn).mp h⟩
  · obtain ⟨n, hn, rfl⟩ := msk_lt hk h.1
    exact (cib_i ⟨k, by omega⟩ ⟨n, by omega⟩ hn).mpr h.2
theorem cib_m : ∀ k : Fin 9, ∀ m : Fin 8, ∀ n : Fin 256, n.1 < 2 ^ k.1 → cb (nI n.1) m.1 = true → m.1 < k.1 := by decide +kernel
theorem cib_f : ∀ n : Fin 256, nI 2 ≤ cbc (nI n.1) → (rm_fst (cb (nI n.1)) 8 0).isSome = true := by decide +kernel
/-- a new circle's mask -/
def cir_ok (x : Int32) (k : Nat) : Prop := cr_by x ∧ (∀ m, m < 8 → cb x m = true → m < k) ∧ (rm_fst (cb x) 8 0).isSome = true
theorem cir_is {x : Int32} {k : Nat} (hk : k ≤ 8) (h : rm_cib x k = false) : cir_ok x k := by
  have p8 : 2 ^ k ≤ 256 := Nat.pow_le_pow_right (n := 2) (by omega) hk
  have h1 := (cib_iff hk).mp h
  obtain ⟨n, hn, rfl⟩ := msk_lt hk h1.1
  exact ⟨⟨n, by omega, rfl⟩, fun m hm h2 => cib_m ⟨k, by omega⟩ ⟨m, hm⟩ ⟨n, by omega⟩ hn h2, cib_f ⟨n, by omega⟩ h1.2⟩
theorem iv_cir {a b : zv_I} {nm nc nl q : Nat} {x : Int32} (H : iv a nm nc nl q) (hc6 : nc < 6) (hx : cir_ok x nm) (h : ∀ t, t ≠ 3 → t ≠ 6 → b t = a t) (h6 : ∀ c, c ≠ nc → b 6 c = a 6 c) (h6x : b 6 nc = x) (h3 : ∀ j, j ≠ 1 → j ≠ 24 → b 3 j = a 3 j) (h1 : b 3 1 = nI (nc + 1)) : iv b nm (nc + 1) nl q := by
  have e7 : b 7 = a 7 := h 7 (by decide) (by decide)
  have e10 : b 10 = a 10 := h 10 (by decide) (by decide)
  have e11 : b 11 = a 11 := h 11 (by decide) (by decide)
  have e12 : b 12 = a 12 := h 12 (by decide) (by decide)
  have e13 : b 13 = a 13 := h 13 (by decide) (by decide)
  have e15 : b 15 = a 15 := h 15 (by decide) (by decide)
  have e16 : b 16 = a 16 := h 16 (by decide) (by decide)
  have e17 : b 17 = a 17 := h 17 (by decide) (by decide)
  have e18 : b 18 = a 18 := h 18 (by decide) (by decide)
  have e19 : b 19 = a 19 := h 19 (by decide) (by decide)
  have e20 : b 20 = a 20 := h 20 (by decide) (by decide)
  have e21 : b 21 = a 21 := h 21 (by decide) (by decide)
  have e22 : b 22 = a 22 := h 22 (by decide) (by decide)
  have e23 : b 23 = a 23 := h 23 (by decide) (by decide)
  have e24 : b 24 = a 24 := h 24 (by decide) (by decide)
  have e25 : b 25 = a 25 := h 25 (by decide) (by decide)
  have e26 : b 26 = a 26 := h 26 (by decide) (by decide)
  have e27 : b 27 = a 27 := h 27 (by decide) (by decide)
  have ein : ∀ m c, c ≠ nc → rm_in b m c = rm_in a m c := fun m c hc => by unfold rm_in; rw [h6 c hc]
  have eel : ∀ c, c ≠ nc → rm_el b c = rm_el a c := fun c hc => by
    unfold rm_el
    rw [show (fun m => rm_in b m c) = (fun m => rm_in a m c) from funext fun m => ein m c hc]
  have eix : ∀ m, rm_in b m nc = cb x m := fun m => by unfold rm_in cb; rw [h6x]
  have eci : rm_ci b = rm_ci a := by funext x; unfold rm_ci; rw [e11]
  have ewr : rm_wr b = rm_wr a := by funext x; unfold rm_wr; rw [e12]
  have erw : rm_row b = rm_row a := by funext x d; unfold rm_row; rw [e18]
  have es : iv_s b = iv_s a := by funext x; unfold iv_s; rw [e13]
  have ew : iv_w b = iv_w a := by funext x y; unfold iv_w; rw [e22]
  have ec : iv_c b = iv_c a := by funext x y z; unfold iv_c; rw [e19]
  have eg : iv_g b = iv_g a := by funext x y z; unfold iv_g; rw [e21]
  have eib : rm_ib b = rm_ib a := by funext x y; unfold rm_ib; rw [e26]
  have eNA : rm_NA b = rm_NA a := by unfold rm_NA; rw [h3 5 (by decide) (by decide)]
  have eNT : rm_NT b = rm_NT a := by unfold rm_NT; rw [h3 26 (by decide) (by decide)]
  have end_ : iv_nd b = iv_nd a := by funext n c; unfold iv_nd; rw [e10, e11, e15]
  have esg : cr_sg b = cr_sg a := by funext n r c; unfold cr_sg; rw [e10, e11, e20]
  have esl : rm_sl b = rm_sl a := by funext n m s; unfold rm_sl; rw [e27]
  have lne : ∀ l, l < nl → rm_ci a l ≠ nc := fun l hl => by have := (xI_lc H l hl).2; omega
  have lnc : ∀ l, l < nl → ¬ a 11 l = nI nc := fun l hl z => by
    have h5 := xI_lc H l hl
    rw [h5.1] at z
    have := nI_ij z (by omega) (by omega)
    omega
  have nd0 : iv_nd a nl nc = 0 := cnt_0 fun i hi => decide_eq_false fun z => lnc i hi z.2.1
  have sg0 : ∀ r, cr_sg a nl r nc = 0 := fun r => cnt_0 fun i hi => decide_eq_false fun z => lnc i hi z.2.1
  refine ⟨by rw [h3 0 (by decide) (by decide)]; exact xI_n0 H, ⟨h1, by omega⟩, by rw [h3 4 (by decide) (by decide)]; exact xI_n4 H, by rw [h3 5 (by decide) (by decide), eNA]; exact xI_n5 H, by rw [h3 26 (by decide) (by decide), eNT]; exact xI_nt H, fun c hc => ?_, fun c hc m hm hi => ?_, fun c hc => ?_, by rw [e7, end_]; exact xI_cn H, by rw [e10]; exact xI_lk H, fun l hl => by rw [e11, eci]; exact ⟨(xI_lc H l hl).1, by have := (xI_lc H l hl).2; omega⟩, by rw [e12, ewr]; exact xI_lw H, fun l hl => by rw [eci, ewr, ein _ _ (lne l hl)]; exact xI_li H l hl, by rw [e13, es, ew, eci, ewr]; exact xI_ls H, by rw [es, eci, ewr]; exact xI_lu H, by rw [es, eci, ewr, ew]; exact xI_lx H, by rw [e22, ew]; exact xI_ww H, fun m l hm hl => ?_, by rw [e20, ewr]; exact xI_wl H, by rw [e21, eg, ew]; exact xI_gv H, by rw [e20, es, eg, eci, ewr]; exact xI_gs H, by rw [e19, ec]; exact xI_ck H, fun l e m hl he hm hi => ?_, by rw [ec, erw]; exact xI_cw H, by rw [erw, eci]; exact xI_rc H, fun l e hl he hr => ?_, fun l e m hl he hm hr hi hn => ?_, by rw [ec, es, eci, ewr]; exact xI_co H, by rw [e15, e10, eci, end_]; exact xI_nu H, by rw [eci, e15]; exact xI_nj H, fun c n hc hn => ?_, fun l hl hk => ?_, by rw [e16, e15]; exact xI_no H, fun l r hl hr hk hw hne hs => ?_, fun r l hr hl hk hne => ?_, fun r c hr hc => ?_, by rw [e10, eNA]; exact xI_kc H, by rw [e10, e15]; exact xI_ko H, by rw [e25, e20]; exact xI_rd H, by rw [e23]; exact xI_la H, by rw [esl]; exact xI_sl H, by rw [e26]; exact xI_bz H, by rw [eib]; exact xI_bt H, by rw [e20]; exact xI_zs H, by rw [e27, e23, e24]; exact xI_zm H, by rw [e17, e19]; exact xI_zl H⟩
  · by_cases z : c = nc
    · rw [z, h6x]; exact hx.1
    · rw [h6 c z]; exact xI_cy H c (by omega)
  · by_cases z : c = nc
    · rw [z, eix] at hi; exact hx.2.1 m hm hi
    · rw [ein m c z] at hi; exact xI_ci H c (by omega) m hm hi
  · by_cases z : c = nc
    · rw [z]
      unfold rm_es rm_el
      rw [show (fun m => rm_in b m nc) = cb x from funext eix]
      cases hf : rm_fst (cb x) 8 0 with
      | none => have := hx.2.2; rw [hf] at this; cases this
      | some j => rfl
    · unfold rm_es
      rw [eel c z, show (fun m => rm_in b m c) = (fun m => rm_in a m c) from funext fun m => ein m c z]
      exact xI_ce H c (by omega)
  · unfold cr_st
    rw [eci, e20, ein _ _ (lne l hl)]
    exact xI_st H m l hm hl
  · rw [ec]
    by_cases z : e = nc
    · cases hr : rm_row a l e with
      | true => have := xI_rn H l e hl (by omega) hr; omega
      | false => exact xI_cw H l e m hl (by omega) hm hr
    · rw [ein m e z] at hi; exact xI_cz H l e m hl (by omega) hm hi
  · rw [erw] at hr
    have := xI_rn H l e hl he hr
    omega
  · rw [erw] at hr
    have h5 := xI_rn H l e hl (by omega) hr
    rw [ewr, ein _ _ (by omega)] at hi
    rw [eci, ewr] at hn
    rw [ec, eg, ewr]
    exact xI_cl H l e m hl h5 hm hr hi hn
  · rw [end_] at hn
    by_cases z : c = nc
    · rw [z, nd0] at hn; omega
    · rw [e10, eci, e15]; exact xI_ns H c n (by omega) hn
  · rw [e10] at hk
    rw [e15, e20, eci, eel _ (lne l hl)]
    exact xI_ne H l hl hk
  · rw [e10] at hk
    rw [ewr, eci, eel _ (lne l hl)] at hw
    rw [ewr] at hne
    rw [e20] at hs
    rw [e15]
    exact xI_nk H l r hl hr hk hw hne hs
  · rw [e10] at hk
    rw [eci, eel _ (lne l hl)] at hne
    rw [e20, e15, esg, eci]
    exact xI_sg H r l hr hl hk hne
  · rw [esg, end_]
    by_cases z : c = nc
    · rw [z, sg0, nd0]; exact Nat.le_refl _
    · exact xI_sn H r c hr (by omega)
theorem fst_more {p : Nat → Bool} {n m : Nat} (hp : ∀ i, n ≤ i → i < n + m → p i = false) : rm_fst p (n + m) 0 = rm_fst p n 0 := by
  cases h : rm_fst p n 0 with
  | none =>
    refine rm_fst_none.mpr fun i h1 h2 => ?_
    by_cases q : i < n
    · exact rm_fst_none.mp h i h1 (by omega)
    · exact hp i (by omega) (by omega)
  | some j =>
    obtain ⟨g1, g2, g3, g4⟩ := rm_fst_some h
    exact rm_fst_is g1 (by omega) g3 g4
theorem fst_c {p r : Nat → Bool} {n : Nat} (h : ∀ i, i < n → p i = r i) : rm_fst p n 0 = rm_fst r n 0 := by
  cases h1 : rm_fst r n 0 with
  | none => exact rm_fst_none.mpr fun i h2 h3 => by rw [h i (by omega)]; exact rm_fst_none.mp h1 i h2 h3
  | some j =>
    obtain ⟨g1, g2, g3, g4⟩ := rm_fst_some h1
    exact rm_fst_is g1 g2 (by rw [h j (by omega)]; exact g3) fun i h2 h3 => by rw [h i (by omega)]; exact g4 i h2 h3
theorem iq_cir {a b : zv_I} {nm nc nl q r : Nat} {x : Int32} (H : iv a nm nc nl q) (hc6 : nc < 6) (h : ∀ t, t ≠ 3 → t ≠ 6 → b t = a t) (h6 : ∀ c, c ≠ nc → b 6 c = a 6 c) (h6x : b 6 nc = x) (Q : iq a nc nl r) : iq b (nc + 1) nl r := by
  have e7 : b 7 = a 7 := h 7 (by decide) (by decide)
  have e10 : b 10 = a 10 := h 10 (by decide) (by decide)
  have e11 : b 11 = a 11 := h 11 (by decide) (by decide)
  have e12 : b 12 = a 12 := h 12 (by decide) (by decide)
  have e13 : b 13 = a 13 := h 13 (by decide) (by decide)
  have e15 : b 15 = a 15 := h 15 (by decide) (by decide)
  have e16 : b 16 = a 16 := h 16 (by decide) (by decide)
  have e17 : b 17 = a 17 := h 17 (by decide) (by decide)
  have e18 : b 18 = a 18 := h 18 (by decide) (by decide)
  have e19 : b 19 = a 19 := h 19 (by decide) (by decide)
  have e20 : b 20 = a 20 := h 20 (by decide) (by decide)
  have e21 : b 21 = a 21 := h 21 (by decide) (by decide)
  have e22 : b 22 = a 22 := h 22 (by decide) (by decide)
  have e23 : b 23 = a 23 := h 23 (by decide) (by decide)
  have e24 : b 24 = a 24 := h 24 (by decide) (by decide)
  have e25 : b 25 = a 25 := h 25 (by decide) (by decide)
  have e26 : b 26 = a 26 := h 26 (by decide) (by decide)
  have e27 : b 27 = a 27 := h 27 (by decide) (by decide)
  have ein : ∀ m c, c ≠ nc → rm_in b m c = rm_in a m c := fun m c hc => by unfold rm_in; rw [h6 c hc]
  have eel : ∀ c, c ≠ nc → rm_el b c = rm_el a c := fun c hc => by
    unfold rm_el
    rw [show (fun m => rm_in b m c) = (fun m => rm_in a m c) from funext fun m => ein m c hc]
  have eix : ∀ m, rm_in b m nc = cb x m := fun m => by unfold rm_in cb; rw [h6x]
  have eci : rm_ci b = rm_ci a := by funext x; unfold rm_ci; rw [e11]
  have ewr : rm_wr b = rm_wr a := by funext x; unfold rm_wr; rw [e12]
  have erw : rm_row b = rm_row a := by funext x d; unfold rm_row; rw [e18]
  have eor : rm_or b = rm_or a := by funext x; unfold rm_or; rw [e16]
  intro l hl hh
  rw [e20] at hh
  have h5 := (xI_lc H l hl).2
  have hq := Q l hl hh
  have e0 : rm_lkg b (nc + 1) r l = rm_lkg a nc r l := by
    unfold rm_lkg
    rw [show 8 * (nc + 1) = 8 * nc + 8 by omega, fst_more (p := rm_lkp b r l) (fun i h1 h2 => ?_)]
    · refine fst_c fun i hi => ?_
      unfold rm_lkp rm_ask rm_lk
      rw [erw, ein r (i / 8) (by omega), ein (i % 8) (i / 8) (by omega), e11, e12, e13, e19, e21]
    · unfold rm_lkp rm_ask
      rw [erw]
      cases hr : rm_row a l (i / 8) with
      | false => rfl
      | true => have := xI_rn H l (i / 8) hl (by omega) hr; omega
  have e1 : rm_hor b r l = rm_hor a r l := by unfold rm_hor; rw [e12, eci, eel _ (by omega), e15, e16, e20, eor]
  have e2 : rm_hlo b nl r l = rm_hlo a nl r l := by
    unfold rm_hlo
    have : rm_lok b r l = rm_lok a r l := by funext x; unfold rm_lok rm_low; rw [e10, e11, e15, e20]
    rw [this]
  unfold rm_can at hq ⊢
  rw [e0, e1, e2, e10, eci, eel _ (by omega)]
  exact hq
theorem cirA_y {a : zv_I} {nm nc : Nat} {x : Int32} (h : rm_cib x nm = false) (h6 : nc < 6) : q_cirA a nm nc x = zv_u (zv_u (zv_u a 6 nc x) 3 1 (nI (nc + 1))) 3 24 (nI 0) := by
  unfold q_cirA
  rw [h, if_neg (by decide), if_neg (show ¬ nc = 6 by omega)]
theorem iQ_cir {a : zv_I} {nm nc nl : Nat} {x : Int32} (h : iQ a nm nc nl) (h6 : nc < 6) (hx : rm_cib x nm = false) : iQ (q_cirA a nm nc x) nm (nc + 1) nl := by
  rw [cirA_y hx h6]
  have hr : ∀ t, t ≠ 3 → t ≠ 6 → zv_u (zv_u (zv_u a 6 nc x) 3 1 (nI (nc + 1))) 3 24 (nI 0) t = a t := fun t ht h1 => by rw [zv_u_row _ _ _ _ ht, zv_u_row _ _ _ _ ht, zv_u_row _ _ _ _ h1]
  have e6 : zv_u (zv_u (zv_u a 6 nc x) 3 1 (nI (nc + 1))) 3 24 (nI 0) 6 = zv_u a 6 nc x 6 := by rw [zv_u_row _ _ _ _ (by decide), zv_u_row _ _ _ _ (by decide)]
  have g6 : ∀ c, c ≠ nc → zv_u (zv_u (zv_u a 6 nc x) 3 1 (nI (nc + 1))) 3 24 (nI 0) 6 c = a 6 c := fun c hc => by rw [e6, zv_u_j _ _ hc]
  have g6x : zv_u (zv_u (zv_u a 6 nc x) 3 1 (nI (nc + 1))) 3 24 (nI 0) 6 nc = x := by rw [e6, zv_u_s]
  exact ⟨iv_cir h.1 h6 (cir_is (xI_n0 h.1).2 hx) hr g6 g6x (fun j h1 h2 => by rw [zv_u_j _ _ h2, zv_u_j _ _ h1, zv_u_row _ _ _ _ (by decide)]) (by rw [zv_u_j _ _ (by decide), zv_u_s]), fun r hr' => iq_cir h.1 h6 hr g6 g6x (h.2 r hr')⟩
