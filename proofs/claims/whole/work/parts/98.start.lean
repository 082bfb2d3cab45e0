/-! THE START -/
theorem iQ_0 {a : zv_I} (h23 : ∀ j, j < 48 → a 23 j = -1) (h : ∀ t, 3 ≤ t → t < 32 → t ≠ 23 → ∀ j, a t j = 0) : iQ a 0 0 0 := by
  have z : ∀ t j, 3 ≤ t → t < 32 → t ≠ 23 → a t j = nI 0 := fun t j h1 h2 h3 => (h t h1 h2 h3 j).trans nI_0.symm
  have v0 : ∀ t j, 3 ≤ t → t < 32 → t ≠ 23 → rm_nv (a t j) = 0 := fun t j h1 h2 h3 => by rw [z t j h1 h2 h3]; exact rm_nv_n (by decide)
  refine ⟨⟨⟨z 3 0 (by decide) (by decide) (by decide), by decide⟩, ⟨z 3 1 (by decide) (by decide) (by decide), by decide⟩, ⟨z 3 4 (by decide) (by decide) (by decide), by decide⟩, ⟨?_, ?_⟩, ⟨?_, ?_⟩, fun c hc => absurd hc (by omega), fun c hc => absurd hc (by omega), fun c hc => absurd hc (by omega), fun c _ => z 7 c (by decide) (by decide) (by decide), fun l hl => absurd hl (by omega), fun l hl => absurd hl (by omega), fun l hl => absurd hl (by omega), fun l hl => absurd hl (by omega), fun l hl => absurd hl (by omega), fun l x hl => absurd hl (by omega), ?_, ?_, fun m l _ hl => absurd hl (by omega), fun l hl => absurd hl (by omega), ?_, fun r l _ hl => absurd hl (by omega), fun l e m hl => absurd hl (by omega), fun l e m hl => absurd hl (by omega), fun l e m hl => absurd hl (by omega), fun l hl => absurd hl (by omega), fun l e hl => absurd hl (by omega), fun l e m hl => absurd hl (by omega), fun l hl => absurd hl (by omega), fun l hl => absurd hl (by omega), fun l x hl => absurd hl (by omega), fun c n hc => absurd hc (by omega), fun l hl => absurd hl (by omega), fun l hl => absurd hl (by omega), fun l r hl => absurd hl (by omega), fun r l _ hl => absurd hl (by omega), fun r c _ hc => absurd hc (by omega), ?_, rfl, fun m _ => z 25 m (by decide) (by decide) (by decide), fun w c hw hc => Or.inl (h23 _ (by omega)), fun m s _ _ => Or.inl (h 27 (by decide) (by decide) (by decide) _), fun x y _ _ _ => h 26 (by decide) (by decide) (by decide) _, fun x y z _ _ hx => absurd hx (by omega), fun m l _ _ _ => h 20 (by decide) (by decide) (by decide) _, fun m _ hm => ⟨fun s _ => h 27 (by decide) (by decide) (by decide) _, fun c hc => h23 _ (by omega), fun i _ => h 24 (by decide) (by decide) (by decide) _⟩, fun l _ _ => ⟨h 17 (by decide) (by decide) (by decide) _, fun j _ => h 19 (by decide) (by decide) (by decide) _⟩⟩, fun r hr => absurd hr (by omega)⟩
  · unfold rm_NA; rw [v0 3 5 (by decide) (by decide) (by decide)]; exact z 3 5 (by decide) (by decide) (by decide)
  · unfold rm_NA; rw [v0 3 5 (by decide) (by decide) (by decide)]; decide
  · unfold rm_NT; rw [v0 3 26 (by decide) (by decide) (by decide)]; exact z 3 26 (by decide) (by decide) (by decide)
  · unfold rm_NT; rw [v0 3 26 (by decide) (by decide) (by decide)]; decide
  · intro w c s _ _ h1 h2
    unfold iv_w at h2
    rw [v0 22 _ (by decide) (by decide) (by decide)] at h2
    omega
  · intro w c _ _
    unfold iv_w
    rw [v0 22 _ (by decide) (by decide) (by decide)]
    exact ⟨z 22 _ (by decide) (by decide) (by decide), by decide⟩
  · intro r c w _ _ _
    unfold iv_g iv_w
    rw [v0 21 _ (by decide) (by decide) (by decide)]
    exact ⟨z 21 _ (by decide) (by decide) (by decide), Nat.zero_le _⟩
  · unfold rm_NA; rw [v0 3 5 (by decide) (by decide) (by decide)]; rfl
theorem cr_0 {sh : zv_S} {I : zv_I} {J : zv_J} {R : zv_R} {a : zv_I} (W : cc_W0 sh R) (h40 : ∀ j, I 40 j = 0) (h45 : ∀ j, I 45 j = 0) (h46 : ∀ j, I 46 j = 0) (h : ∀ t, 3 ≤ t → t < 32 → t ≠ 23 → ∀ j, a t j = 0) : cr_R sh I J R a 0 0 0 :=
  ⟨⟨⟨W, fun m hm => absurd hm (by omega), fun c hc => absurd hc (by omega), fun l hl => absurd hl (by omega)⟩, (h40 5).trans nI_0.symm, by decide, (h40 6).trans nI_0.symm, by decide, (h40 7).trans nI_0.symm, by decide, fun l hl => absurd hl (by omega)⟩, ⟨(h40 8).trans (h 3 (by decide) (by decide) (by decide) 5).symm, (h40 9).trans (h 3 (by decide) (by decide) (by decide) 24).symm, (h45 1).trans (h 3 (by decide) (by decide) (by decide) 26).symm, fun i _ => (h46 i).trans (h 29 (by decide) (by decide) (by decide) i).symm⟩, fun c hc => absurd hc (by omega), fun l hl => absurd hl (by omega), fun m hm => absurd hm (by omega)⟩
theorem lw_start {E : zv_E} (hL : E.2.2.2.2.1 ≤ 2560) : zv_V E mL_law 41 600000 7302250 0 [.ref 0] [] (fun _ => none) (fun _ _ => 0) (fun _ _ => 0) (fun _ _ => none) (fun v _ _ _ _ => v = some (.int (nI 1))) := by
  refine zv_mono (kc' := (6 + (22 + 611 * (E.2.2.2.2.1 / 5) + 1)) + 1) (ks' := (476 + (55680 + 3674 * (E.2.2.2.2.1 / 5) + 28)) + 10) (by omega) (by omega) ?_
  refine zv_new (t := 40) 6 dL_law_0 (⟨RX7, TX7, 10, rfl, rfl, by decide, inX7, tyX7_ok, clL_7, insX7, iniX7⟩) rfl (by omega) ?_
  refine zv_dup dL_law_3 rfl ?_
  refine cc_callI (As := []) (st := [.ref 40]) (b := 40) (kc1 := 6) (ks1 := 476) (kc := 22 + 611 * (E.2.2.2.2.1 / 5) + 1) (ks := 55680 + 3674 * (E.2.2.2.2.1 / 5) + 28) dL_law_4 ciL_9 rfl (by decide) cc_c0 (Nat.le_of_ble_eq_true rfl) (cC_init 38 (zv_sn_s _ _ _) (fun t h1 h2 => zv_sn_t _ _ (by omega)) (zv_n_s _ _ _)) (fun v s1 I1 J1 R1 q => ?_)
  obtain ⟨rfl, W0, i40, i45, i46, fr⟩ := q
  show zv_V _ _ _ _ _ 7 [.ref 0] [.ref 40] _ _ _ _ _
  refine zv_astore_n (lv' := [.ref 0, .ref 40]) dL_law_7 rfl (by decide) rfl ?_
  have fz : ∀ t, t < 40 ∨ 46 < t → s1 t = none ∧ I1 t = fun _ => 0 := fun t ht => ⟨(fr t ht).1.trans (zv_sn_t _ _ (by omega)), (fr t ht).2.trans (zv_n_t _ _ (by omega))⟩
  refine zv_new (t := 3) 7 dL_law_8 (⟨RX8, TX8, 28, rfl, rfl, by decide, inX8, tyX8_ok, clL_10, insX8, iniX8⟩) (fz 3 (by omega)).1 (by omega) ?_
  refine zv_dup dL_law_11 rfl ?_
  refine cc_callI (As := []) (st := [.ref 3]) (b := 3) (kc1 := 22) (ks1 := 55680) (kc := 611 * (E.2.2.2.2.1 / 5)) (ks := 3674 * (E.2.2.2.2.1 / 5)) dL_law_12 ciL_12 rfl (by decide) cc_c0 (Nat.le_of_ble_eq_true rfl) (cM_init 39 (zv_sn_s _ _ _) (fun t h1 h2 => (zv_sn_t _ _ (by omega)).trans (fz t (by omega)).1) (fun t h1 h2 => ?_)) (fun v s2 I2 J2 R2 q => ?_)
  · by_cases e : t = 3
    · rw [e]; exact zv_n_s _ _ _
    · exact (zv_n_t _ _ e).trans (fz t (by omega)).2
  obtain ⟨rfl, hW, fr2, l23, lz⟩ := q
  show zv_V _ _ _ _ _ 15 [.ref 0, .ref 40] [.ref 3] _ _ _ _ _
  refine zv_astore_n (lv' := [.ref 0, .ref 40, .ref 3]) dL_law_15 rfl (by decide) rfl ?_
  refine zv_iconst (v := nI 0) dL_law_16 (by decide) ?_
  refine zv_istore_n (lv' := [.ref 0, .ref 40, .ref 3, .int (nI 0)]) dL_law_17 rfl (by decide) rfl ?_
  have es : ∀ t, 32 ≤ t → s2 t = s1 t := fun t ht => (fr2 t (by omega)).1.trans (zv_sn_t _ _ (by omega))
  have ei : ∀ t, 32 ≤ t → I2 t = I1 t := fun t ht => (fr2 t (by omega)).2.1.trans (zv_n_t _ _ (by omega))
  have er : ∀ t, 32 ≤ t → R2 t = R1 t := fun t ht => (fr2 t (by omega)).2.2.2.trans (zv_n_t _ _ (by omega))
  have W2 : cc_W0 s2 R2 := by
    unfold cc_W0 at W0 ⊢
    rw [es 40 (by omega), es 41 (by omega), es 42 (by omega), es 43 (by omega), es 44 (by omega), es 45 (by omega), es 46 (by omega), er 40 (by omega), er 45 (by omega)]
    exact W0
  refine lw_loop hL (E.2.2.2.2.1 / 5) 0 s2 I2 J2 R2 (Nat.zero_add _) ⟨I2, 0, 0, 0, iQ_0 l23 lz, cr_0 W2 (fun j => by rw [ei 40 (by omega)]; exact i40 j) (fun j => by rw [ei 45 (by omega)]; exact i45 j) (fun j => by rw [ei 46 (by omega)]; exact i46 j) lz, fun t ht => ?_, hW, fun t _ _ => rfl⟩
  by_cases h : t < 50
  · exact Or.inl h
  · rw [es t (by omega), (fz t (by omega)).1] at ht
    cases ht
