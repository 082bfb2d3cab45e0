/-! READING AND WRITING CELLS -/
theorem zv_v_rf (adr : Nat → Nat) (o : Option Nat) : zv_v adr (va_rf o) = va_rf (o.map adr) := by cases o <;> rfl
theorem zv_tys_at (dA : Nat → ClassId) {k : Nat} (h : k < 9) : (zv_tys dA)[k]? = some (dA k, zv_ty k) := by
  rcases (show k = 0 ∨ k = 1 ∨ k = 2 ∨ k = 3 ∨ k = 4 ∨ k = 5 ∨ k = 6 ∨ k = 7 ∨ k = 8 by omega) with e | e | e | e | e | e | e | e | e <;> subst e <;> rfl
/-- a link to field j of class c, by its own class or a nest mate -/
def zv_FL (own : String) (idx c j : Nat) : Prop := ∃ (C : String) (T : u_T) (N : Nat), zv_cl[c]? = some (C, T, N) ∧ j < N ∧ N = zv_nf c ∧ (∀ w ∈ u_ws C T N, w ∈ zv_gw) ∧ (∀ k, k < N → parseFieldDescriptor (T k).2.2.1 = some (zv_cty c k)) ∧ (∀ a, a < N → ∀ b, b < N → a ≠ b → (T a).2.1 ≠ (T b).2.1) ∧ (T j).1 = C ∧
  (Cond.fieldLink own idx (T j).1 (T j).2.1 (T j).2.2.1 ∈ zv_gw ∨ ∃ host, Cond.fieldLinkNest own idx (T j).1 (T j).2.1 (T j).2.2.1 host ∈ zv_nw)
/-- .. and the field isn't final, or it is, and we are in a constructor of its class -/
def zv_FW (own nm : String) (idx c j : Nat) : Prop := zv_FL own idx c j ∧ ∀ C T N, zv_cl[c]? = some (C, T, N) → ((T j).2.2.2 = false ∨ ((T j).2.2.2 = true ∧ nm = "<init>" ∧ C = own ∧ Cond.fieldLink own idx (T j).1 (T j).2.1 (T j).2.2.1 ∈ zv_gw))
theorem zv_row_i (I : zv_I) (t j : Nat) (x : Int32) : zv_u I t j x t = upd (I t) j x := by
  funext b
  by_cases h : b = j
  · subst h; rw [zv_u_s]; simp [upd]
  · rw [zv_u_j I x h]; simp [upd, h]
theorem zv_row_l (J : zv_J) (t j : Nat) (x : Int64) : zv_u J t j x t = vp_updL (J t) j x := by
  funext b
  by_cases h : b = j
  · subst h; rw [zv_u_s]; simp [vp_updL]
  · rw [zv_u_j J x h]; simp [vp_updL, h]
theorem zv_fs_i {adr : Nat → Nat} {c j t : Nat} {I : zv_I} {R : Nat → Option Nat} {x : Int32} (hr : zv_rfld c j = false) : (zv_fs adr c (I t) R).set j (.int x) = zv_fs adr c (zv_u I t j x t) R := by
  apply List.ext_getElem?
  intro b
  by_cases hb : b = j
  · subst hb
    by_cases hl : b < zv_nf c
    · rw [List.getElem?_set_self (by rw [zv_fs_len]; exact hl), zv_fs_at hl]
      simp [zv_fv, hr, zv_u_s]
    · rw [List.getElem?_eq_none (by simp [zv_fs_len]; omega), List.getElem?_eq_none (by rw [zv_fs_len]; omega)]
  · rw [List.getElem?_set_ne (Ne.symm hb)]
    by_cases hl : b < zv_nf c
    · rw [zv_fs_at hl, zv_fs_at hl]
      simp only [zv_fv]
      rw [zv_u_j I x hb]
    · rw [List.getElem?_eq_none (by rw [zv_fs_len]; omega), List.getElem?_eq_none (by rw [zv_fs_len]; omega)]
theorem zv_fs_r {adr : Nat → Nat} {c j t : Nat} {I : Nat → Int32} {R : zv_R} {o : Option Nat} (hr : zv_rfld c j = true) : (zv_fs adr c I (R t)).set j (va_rf (o.map adr)) = zv_fs adr c I (zv_u R t j o t) := by
  apply List.ext_getElem?
  intro b
  by_cases hb : b = j
  · subst hb
    by_cases hl : b < zv_nf c
    · rw [List.getElem?_set_self (by rw [zv_fs_len]; exact hl), zv_fs_at hl]
      simp [zv_fv, hr, zv_u_s]
    · rw [List.getElem?_eq_none (by simp [zv_fs_len]; omega), List.getElem?_eq_none (by rw [zv_fs_len]; omega)]
  · rw [List.getElem?_set_ne (Ne.symm hb)]
    by_cases hl : b < zv_nf c
    · rw [zv_fs_at hl, zv_fs_at hl]
      simp only [zv_fv]
      rw [zv_u_j R o hb]
    · rw [List.getElem?_eq_none (by rw [zv_fs_len]; omega), List.getElem?_eq_none (by rw [zv_fs_len]; omega)]
/-- one cell is changed -/
theorem zv_H_set {E : zv_E} {sh : zv_S} {I I' : zv_I} {J J' : zv_J} {R R' : zv_R} {adr : Nat → Nat} {H H1 : Heap} {ws : va_W} {q0 t : Nat} {kn : Nat × Nat} {e0 e1 : va_E} (hH : zv_H E sh I J R adr H)
    (hw : ∀ (t : Nat) (kn : Nat × Nat), sh t = some kn → ∃ k : Nat, ws[k]? = some (adr t, zv_ent E adr kn (I t) (J t) (R t))) (hq : ws[q0]? = some (adr t, e0)) (hs : sh t = some kn) (he : e1 = zv_ent E adr kn (I' t) (J' t) (R' t))
    (hi : ∀ a, a ≠ t → I' a = I a) (hj : ∀ a, a ≠ t → J' a = J a) (hr : ∀ a, a ≠ t → R' a = R a) (hc : ∀ j u, R' t j = some u → (sh u).isSome = true)
    (hP : va_P E.2.1 zv_cl (ws.set q0 (adr t, e1)) H1) (hD : va_D (zv_A E) (ws.set q0 (adr t, e1))) : zv_H E sh I' J' R' adr H1 := by
  obtain ⟨-, hinj, hcl, hro⟩ := hH
  have hl := (List.getElem?_eq_some_iff.mp hq).1
  refine ⟨⟨ws.set q0 (adr t, e1), fun a ka ha => ?_, hP, hD⟩, hinj, fun a j u ha hu => ?_, hro⟩
  · by_cases hat : a = t
    · subst hat
      cases ha.symm.trans hs
      exact ⟨q0, by rw [List.getElem?_set_self hl, he]⟩
    · obtain ⟨k, hk⟩ := hw a ka ha
      have hkq : k ≠ q0 := by
        intro e
        subst e
        rw [hq] at hk
        have e2 : adr t = adr a := congrArg Prod.fst (Option.some.inj hk)
        exact hat (hinj a t (by rw [ha]; rfl) (by rw [hs]; rfl) e2.symm)
      exact ⟨k, by rw [List.getElem?_set_ne (Ne.symm hkq), hk, hi a hat, hj a hat, hr a hat]⟩
  · by_cases hat : a = t
    · subst hat; exact hc j u hu
    · rw [hr a hat] at hu; exact hcl a j u ha hu
section ZH
variable {E : zv_E} {M : zv_M} {d kc ks pc : Nat} {lv st : List Value} {sh : zv_S} {I : zv_I} {J : zv_J} {R : zv_R} {Q : zv_Q}
theorem zv_getv {idx c j t n : Nat} (hd : decode M.2.1 pc = .ok (.getfield idx, 3)) (hf : zv_FL M.1.cls idx c j) (hs : sh t = some (10 + c, n)) {v : Value} (hv : ∀ adr : Nat → Nat, zv_fv adr c (I t) (R t) j = zv_v adr v) (hk : (∀ u, R t j = some u → (sh u).isSome = true) → zv_ok sh v) (k : zv_V E M d kc ks (pc + 3) lv (v :: st) sh I J R Q) : zv_V E M d kc ks pc lv (.ref t :: st) sh I J R Q := by
  intro p l e Rm s m args below meth c' Z mc ms sh0 adr0 C adr H locs ls cells slots P h1 h2
  obtain ⟨⟨ws, hw, hP, hD⟩, hinj, hcl, hro⟩ := P.1
  obtain ⟨q0, hq0⟩ := hw t _ hs
  rw [zv_ent_o] at hq0
  obtain ⟨Cn, T, N, hc, hj, hN, hin, hty, hnm, hT, hl⟩ := hf
  have hfs : (zv_fs adr c (I t) (R t))[j]? = some (zv_v adr v) := by rw [zv_fs_at (hN ▸ hj), hv]
  have kk := k p l e Rm s m args below meth c' Z mc ms sh0 adr0 C adr H locs ls cells slots ⟨P.1, P.2.1, P.2.2.1, ⟨hk (fun u hu => hcl t j u (by rw [hs]; rfl) hu), P.2.2.2.1.2⟩, P.2.2.2.2⟩ h1 h2
  rcases hl with hl | ⟨host, hl⟩
  · exact va_get (ci := c) C.1 C.2.1 C.2.2.2.2.1 hin C.2.2.2.1 C.2.2.2.2.2.2.1.1 hP q0 hq0 hc j hj (C.2.2.2.2.1 _ hl) (fun _ h => h) hfs hd kk
  · exact va_getN (ci := c) C.1 C.2.1 C.2.2.2.2.1 hin C.2.2.2.1 C.2.2.2.2.2.2.1.1 hP q0 hq0 hc j hj (va_Nw.use rfl (C.2.2.2.2.2.2.1.2.1 _ hl)) (fun _ h => h) hfs hd kk
theorem zv_geti {idx t n : Nat} (c j : Nat) (hd : decode M.2.1 pc = .ok (.getfield idx, 3)) (hf : zv_FL M.1.cls idx c j) (hs : sh t = some (10 + c, n)) (hr : zv_rfld c j = false) {x : Int32} (hx : I t j = x) (k : zv_V E M d kc ks (pc + 3) lv (.int x :: st) sh I J R Q) : zv_V E M d kc ks pc lv (.ref t :: st) sh I J R Q :=
  zv_getv hd hf hs (v := .int x) (fun adr => by simp [zv_fv, hr, zv_v, hx]) (fun _ => trivial) k
theorem zv_getr {idx t n u : Nat} (c j : Nat) (hd : decode M.2.1 pc = .ok (.getfield idx, 3)) (hf : zv_FL M.1.cls idx c j) (hs : sh t = some (10 + c, n)) (hr : zv_rfld c j = true) (hx : R t j = some u) (k : zv_V E M d kc ks (pc + 3) lv (.ref u :: st) sh I J R Q) : zv_V E M d kc ks pc lv (.ref t :: st) sh I J R Q :=
  zv_getv hd hf hs (v := .ref u) (fun adr => by simp [zv_fv, hr, zv_v, hx, va_rf]) (fun h => Or.inr (h u hx)) k
theorem zv_getN {idx t n : Nat} (c j : Nat) (hd : decode M.2.1 pc = .ok (.getfield idx, 3)) (hf : zv_FL M.1.cls idx c j) (hs : sh t = some (10 + c, n)) (hr : zv_rfld c j = true) (hx : R t j = none) (k : zv_V E M d kc ks (pc + 3) lv (.null :: st) sh I J R Q) : zv_V E M d kc ks pc lv (.ref t :: st) sh I J R Q :=
  zv_getv hd hf hs (v := .null) (fun adr => by simp [zv_fv, hr, zv_v, hx, va_rf]) (fun _ => trivial) k
theorem zv_put {idx c j t n : Nat} {v : Value} {I' : zv_I} {R' : zv_R} (hd : decode M.2.1 pc = .ok (.putfield idx, 3)) (hf : zv_FW M.1.cls M.1.name idx c j) (hs : sh t = some (10 + c, n)) (hn : ∀ adr, narrow (zv_cty c j) (zv_v adr v) = zv_v adr v) (hfit : ∀ adr, fits (zv_cty c j) (zv_v adr v) = true)
    (hv : ∀ adr : Nat → Nat, (zv_fs adr c (I t) (R t)).set j (zv_v adr v) = zv_fs adr c (I' t) (R' t)) (hi : ∀ a, a ≠ t → I' a = I a) (hr : ∀ a, a ≠ t → R' a = R a) (hcl' : zv_ok sh v → (∀ j u, R t j = some u → (sh u).isSome = true) → ∀ j u, R' t j = some u → (sh u).isSome = true)
    (k : zv_V E M d kc ks (pc + 3) lv st sh I' J R' Q) : zv_V E M d kc ks pc lv (v :: .ref t :: st) sh I J R Q := by
  intro p l e Rm s m args below meth c' Z mc ms sh0 adr0 C adr H locs ls cells slots P h1 h2
  obtain ⟨⟨ws, hw, hP, hD⟩, hinj, hcl, hro⟩ := P.1
  obtain ⟨q0, hq0⟩ := hw t _ hs
  have hq1 := hq0
  rw [zv_ent_o] at hq0
  obtain ⟨⟨Cn, T, N, hc, hj, hN, hin, hty, hnm, hT, hl⟩, hfw⟩ := hf
  have hlen : j < (zv_fs adr c (I t) (R t)).length := by rw [zv_fs_len, ← hN]; exact hj
  have kk : ∀ (H1 : Heap) (locs1 : List Loc), va_P E.2.1 zv_cl (ws.set q0 (adr t, .inr (c, (zv_fs adr c (I t) (R t)).set j (zv_v adr v)))) H1 → va_D (zv_A E) (ws.set q0 (adr t, .inr (c, (zv_fs adr c (I t) (R t)).set j (zv_v adr v)))) → va_S (zv_A E) s.heap H1 locs1 → W p l e Rm s m args below meth c' H1 locs1 cells slots Z (F0 m (pc + 3) ls (st.map (zv_v adr))) := by
    intro H1 locs1 hP1 hD1 hS1
    refine k p l e Rm s m args below meth c' Z mc ms sh0 adr0 C adr H1 locs1 ls cells slots ⟨?_, P.2.1, P.2.2.1, P.2.2.2.1.2.2, P.2.2.2.2.1, hS1⟩ h1 h2
    refine zv_H_set P.1 hw hq1 hs ?_ hi (fun _ _ => rfl) hr (hcl' P.2.2.2.1.1 (fun j u hu => hcl t j u (by rw [hs]; rfl) hu)) hP1 hD1
    rw [zv_ent_o, hv]
  rcases hfw Cn T N hc with hfin | ⟨hfin, hnm2, hown2, hl2⟩
  · rcases hl with hl | ⟨host, hl⟩
    · exact va_put (ci := c) C.1 C.2.1 C.2.2.2.2.1 hin (zv_cty c) hty hnm C.2.2.2.1 C.2.2.2.2.2.2.1.1 hP hD P.2.2.2.2.2 q0 hq0 hc j hj (C.2.2.2.2.1 _ hl) (fun _ h => h) hfin (hty j hj) (hn adr) (hfit adr) hlen hd kk
    · exact va_putN (ci := c) C.1 C.2.1 C.2.2.2.2.1 hin (zv_cty c) hty hnm C.2.2.2.1 C.2.2.2.2.2.2.1.1 hP hD P.2.2.2.2.2 q0 hq0 hc j hj (va_Nw.use rfl (C.2.2.2.2.2.2.1.2.1 _ hl)) (fun _ h => h) hfin (hty j hj) (hn adr) (hfit adr) hlen hd kk
  · exact va_putF (ci := c) C.1 C.2.1 C.2.2.2.2.1 hin (zv_cty c) hty hnm C.2.2.2.1 C.2.2.2.2.2.2.1.1 hP hD P.2.2.2.2.2 q0 hq0 hc j hj (C.2.2.2.2.1 _ hl2) (fun _ h => h) hfin (C.2.2.2.2.2.1 hnm2) (hT.trans hown2) (hty j hj) (hn adr) (hfit adr) hlen hd kk
theorem zv_rfld_int {c j : Nat} (h : zv_rfld c j = false) : zv_cty c j = .int := by
  unfold zv_rfld at h
  split at h
  · assumption
  · cases h
theorem zv_puti {idx t n : Nat} (c j : Nat) {x : Int32} (hd : decode M.2.1 pc = .ok (.putfield idx, 3)) (hf : zv_FW M.1.cls M.1.name idx c j) (hs : sh t = some (10 + c, n)) (hr : zv_rfld c j = false) (k : zv_V E M d kc ks (pc + 3) lv st sh (zv_u I t j x) J R Q) : zv_V E M d kc ks pc lv (.int x :: .ref t :: st) sh I J R Q :=
  zv_put (v := .int x) (R' := R) hd hf hs (fun adr => by rw [zv_rfld_int hr]; rfl) (fun adr => by rw [zv_rfld_int hr]; rfl) (fun adr => zv_fs_i hr) (fun a ha => zv_u_row I t j x ha) (fun _ _ => rfl) (fun _ h => h) k
theorem zv_putr {idx t n u : Nat} (c j : Nat) (hd : decode M.2.1 pc = .ok (.putfield idx, 3)) (hf : zv_FW M.1.cls M.1.name idx c j) (hs : sh t = some (10 + c, n)) (hr : zv_rfld c j = true) (hy : (∃ C, zv_cty c j = .object C) ∨ ∃ y, zv_cty c j = .array y) (hu : 3 ≤ u) (k : zv_V E M d kc ks (pc + 3) lv st sh I J (zv_u R t j (some u)) Q) : zv_V E M d kc ks pc lv (.ref u :: .ref t :: st) sh I J R Q :=
  zv_put (v := .ref u) (I' := I) hd hf hs (fun adr => by rcases hy with ⟨C, e⟩ | ⟨y, e⟩ <;> rw [e] <;> rfl) (fun adr => by rcases hy with ⟨C, e⟩ | ⟨y, e⟩ <;> rw [e] <;> rfl) (fun adr => zv_fs_r (o := some u) hr) (fun _ _ => rfl) (fun a ha => zv_u_row R t j (some u) ha)
    (fun hk hc b w hw => by
      by_cases hb : b = j
      · subst hb
        rw [zv_u_s] at hw
        cases hw
        exact (show u < 3 ∨ (sh u).isSome = true from hk).resolve_left (by omega)
      · rw [zv_u_j R _ hb] at hw
        exact hc b w hw) k
/-! arrays -/
theorem zv_vin {i : Int32} {j n : Nat} (hi : i = nI j) (hj : j < n) (hn : n < 2 ^ 31) : vp_in i n ∧ i.toNatClampNeg = j := by
  subst hi
  exact ⟨vp_in_nI hj hn, nI_clamp (Nat.lt_trans hj hn)⟩
theorem zv_alen {t k' n : Nat} (hd : decode M.2.1 pc = .ok (.arraylength, 1)) (hs : sh t = some (k', n)) (hk : k' < 9) (k : zv_V E M d kc ks (pc + 1) lv (.int (nI n) :: st) sh I J R Q) : zv_V E M d kc ks pc lv (.ref t :: st) sh I J R Q := by
  intro p l e Rm s m args below meth c Z mc ms sh0 adr0 C adr H locs ls cells slots P h1 h2
  obtain ⟨⟨ws, hw, hP, hD⟩, -⟩ := P.1
  obtain ⟨q0, hq0⟩ := hw t _ hs
  have kk := k p l e Rm s m args below meth c Z mc ms sh0 adr0 C adr H locs ls cells slots ⟨P.1, P.2.1, P.2.2.1, ⟨trivial, P.2.2.2.1.2⟩, P.2.2.2.2⟩ h1 h2
  have key : ∃ x : vp_A, zv_ent E adr (k', n) (I t) (J t) (R t) = .inl (E.2.2.1 k', x) ∧ x.1 = n := by
    by_cases a0 : k' = 0
    · subst a0; exact ⟨_, zv_ent_i E adr n _ _ _, rfl⟩
    by_cases a1 : k' = 1
    · subst a1; exact ⟨_, zv_ent_l E adr n _ _ _, rfl⟩
    by_cases a2 : k' = 2
    · subst a2; exact ⟨_, zv_ent_z E adr n _ _ _, rfl⟩
    exact ⟨_, zv_ent_r E adr (by omega) (by omega) n _ _ _, rfl⟩
  obtain ⟨x, hx, hxn⟩ := key
  rw [hx] at hq0
  exact va_alen (v := nI n) C.1 C.2.1 C.2.2.2.2.2.2.1.1 hP q0 k' hq0 (zv_tys_at E.2.2.1 hk) (by rw [hxn]; rfl) hd kk
theorem zv_slen (hd : decode M.2.1 pc = .ok (.arraylength, 1)) (k : zv_V E M d kc ks (pc + 1) lv (.int (nI E.2.2.2.2.1) :: st) sh I J R Q) : zv_V E M d kc ks pc lv (.ref 0 :: st) sh I J R Q := by
  intro p l e Rm s m args below meth c Z mc ms sh0 adr0 C adr H locs ls cells slots P h1 h2
  have kk := k p l e Rm s m args below meth c Z mc ms sh0 adr0 C adr H locs ls cells slots ⟨P.1, P.2.1, P.2.2.1, ⟨trivial, P.2.2.2.1.2⟩, P.2.2.2.2⟩ h1 h2
  have ha := (P.1.2.2.2 0 (by decide)).2
  show W p l e Rm s m args below meth c H locs cells slots Z (F0 m pc ls (.ref (adr 0) :: st.map (zv_v adr)))
  rw [ha]
  exact va_tlen C.1 C.2.1 C.2.2.2.2.2.2.1.2.2.2.2.2.2.2.1 P.2.2.2.2.2 rfl hd kk
theorem zv_iald {t n j : Nat} {i x : Int32} (hd : decode M.2.1 pc = .ok (.iaload, 1)) (hs : sh t = some (0, n)) (hi : i = nI j) (hj : j < n) (hn : n < 2 ^ 31) (hx : I t j = x) (k : zv_V E M d kc ks (pc + 1) lv (.int x :: st) sh I J R Q) : zv_V E M d kc ks pc lv (.int i :: .ref t :: st) sh I J R Q := by
  intro p l e Rm s m args below meth c Z mc ms sh0 adr0 C adr H locs ls cells slots P h1 h2
  obtain ⟨⟨ws, hw, hP, hD⟩, -⟩ := P.1
  obtain ⟨q0, hq0⟩ := hw t _ hs
  rw [zv_ent_i] at hq0
  obtain ⟨v1, v2⟩ := zv_vin hi hj hn
  have kk := k p l e Rm s m args below meth c Z mc ms sh0 adr0 C adr H locs ls cells slots ⟨P.1, P.2.1, P.2.2.1, ⟨trivial, P.2.2.2.1.2.2⟩, P.2.2.2.2⟩ h1 h2
  refine va_iald C.1 C.2.1 C.2.2.2.2.2.2.1.1 hP q0 0 hq0 rfl v1 hd ?_
  rw [v2, hx]
  exact kk
theorem zv_zald {t n j : Nat} {i x : Int32} (hd : decode M.2.1 pc = .ok (.baload, 1)) (hs : sh t = some (2, n)) (hi : i = nI j) (hj : j < n) (hn : n < 2 ^ 31) (hx : I t j = x) (k : zv_V E M d kc ks (pc + 1) lv (.int x :: st) sh I J R Q) : zv_V E M d kc ks pc lv (.int i :: .ref t :: st) sh I J R Q := by
  intro p l e Rm s m args below meth c Z mc ms sh0 adr0 C adr H locs ls cells slots P h1 h2
  obtain ⟨⟨ws, hw, hP, hD⟩, -⟩ := P.1
  obtain ⟨q0, hq0⟩ := hw t _ hs
  rw [zv_ent_z] at hq0
  obtain ⟨v1, v2⟩ := zv_vin hi hj hn
  have kk := k p l e Rm s m args below meth c Z mc ms sh0 adr0 C adr H locs ls cells slots ⟨P.1, P.2.1, P.2.2.1, ⟨trivial, P.2.2.2.1.2.2⟩, P.2.2.2.2⟩ h1 h2
  refine va_zald C.1 C.2.1 C.2.2.2.2.2.2.1.1 hP q0 2 hq0 rfl v1 hd ?_
  rw [v2, hx]
  exact kk
theorem zv_lald {t n j : Nat} {i : Int32} {x : Int64} (hd : decode M.2.1 pc = .ok (.laload, 1)) (hs : sh t = some (1, n)) (hi : i = nI j) (hj : j < n) (hn : n < 2 ^ 31) (hx : J t j = x) (k : zv_V E M d kc ks (pc + 1) lv (.long x :: st) sh I J R Q) : zv_V E M d kc ks pc lv (.int i :: .ref t :: st) sh I J R Q := by
  intro p l e Rm s m args below meth c Z mc ms sh0 adr0 C adr H locs ls cells slots P h1 h2
  obtain ⟨⟨ws, hw, hP, hD⟩, -⟩ := P.1
  obtain ⟨q0, hq0⟩ := hw t _ hs
  rw [zv_ent_l] at hq0
  obtain ⟨v1, v2⟩ := zv_vin hi hj hn
  have kk := k p l e Rm s m args below meth c Z mc ms sh0 adr0 C adr H locs ls cells slots ⟨P.1, P.2.1, P.2.2.1, ⟨trivial, P.2.2.2.1.2.2⟩, P.2.2.2.2⟩ h1 h2
  refine va_lald C.1 C.2.1 C.2.2.2.2.2.2.1.1 hP q0 1 hq0 rfl v1 hd ?_
  rw [v2, hx]
  exact kk
/-- the read-only rows -/
theorem zv_sald {j : Nat} {i x : Int32} (hd : decode M.2.1 pc = .ok (.iaload, 1)) (hi : i = nI j) (hj : j < E.2.2.2.2.1) (hn : E.2.2.2.2.1 < 2 ^ 31) (hx : E.2.2.2.2.2 j = x) (k : zv_V E M d kc ks (pc + 1) lv (.int x :: st) sh I J R Q) : zv_V E M d kc ks pc lv (.int i :: .ref 0 :: st) sh I J R Q := by
  intro p l e Rm s m args below meth c Z mc ms sh0 adr0 C adr H locs ls cells slots P h1 h2
  have kk := k p l e Rm s m args below meth c Z mc ms sh0 adr0 C adr H locs ls cells slots ⟨P.1, P.2.1, P.2.2.1, ⟨trivial, P.2.2.2.1.2.2⟩, P.2.2.2.2⟩ h1 h2
  obtain ⟨v1, v2⟩ := zv_vin hi hj hn
  have ha := (P.1.2.2.2 0 (by decide)).2
  show W p l e Rm s m args below meth c H locs cells slots Z (F0 m pc ls (.int i :: .ref (adr 0) :: st.map (zv_v adr)))
  rw [ha]
  exact va_ti C.1 C.2.1 C.2.2.2.2.2.2.1.2.2.2.2.2.2.2.1 P.2.2.2.2.2 v1 (v := .int x) (by rw [v2, hx]) hd kk
theorem zv_bald {j : Nat} {i x : Int32} (hd : decode M.2.1 pc = .ok (.iaload, 1)) (hi : i = nI j) (hj : j < 24) (hx : zv_bod j = x) (k : zv_V E M d kc ks (pc + 1) lv (.int x :: st) sh I J R Q) : zv_V E M d kc ks pc lv (.int i :: .ref 1 :: st) sh I J R Q := by
  intro p l e Rm s m args below meth c Z mc ms sh0 adr0 C adr H locs ls cells slots P h1 h2
  have kk := k p l e Rm s m args below meth c Z mc ms sh0 adr0 C adr H locs ls cells slots ⟨P.1, P.2.1, P.2.2.1, ⟨trivial, P.2.2.2.1.2.2⟩, P.2.2.2.2⟩ h1 h2
  obtain ⟨v1, v2⟩ := zv_vin hi hj (by decide)
  have ha := (P.1.2.2.2 1 (by decide)).2
  show W p l e Rm s m args below meth c H locs cells slots Z (F0 m pc ls (.int i :: .ref (adr 1) :: st.map (zv_v adr)))
  rw [ha]
  exact va_ti C.1 C.2.1 C.2.2.2.2.2.2.1.2.2.2.2.2.2.2.2.1 P.2.2.2.2.2 v1 (v := .int x) (by rw [v2, hx]) hd kk
theorem zv_kald {j : Nat} {i x : Int32} (hd : decode M.2.1 pc = .ok (.iaload, 1)) (hi : i = nI j) (hj : j < 6) (hx : zv_kab j = x) (k : zv_V E M d kc ks (pc + 1) lv (.int x :: st) sh I J R Q) : zv_V E M d kc ks pc lv (.int i :: .ref 2 :: st) sh I J R Q := by
  intro p l e Rm s m args below meth c Z mc ms sh0 adr0 C adr H locs ls cells slots P h1 h2
  have kk := k p l e Rm s m args below meth c Z mc ms sh0 adr0 C adr H locs ls cells slots ⟨P.1, P.2.1, P.2.2.1, ⟨trivial, P.2.2.2.1.2.2⟩, P.2.2.2.2⟩ h1 h2
  obtain ⟨v1, v2⟩ := zv_vin hi hj (by decide)
  have ha := (P.1.2.2.2 2 (by decide)).2
  show W p l e Rm s m args below meth c H locs cells slots Z (F0 m pc ls (.int i :: .ref (adr 2) :: st.map (zv_v adr)))
  rw [ha]
  exact va_ti C.1 C.2.1 C.2.2.2.2.2.2.1.2.2.2.2.2.2.2.2.2.1 P.2.2.2.2.2 v1 (v := .int x) (by rw [v2, hx]) hd kk
theorem zv_gets {idx b : Nat} (hd : decode M.2.1 pc = .ok (.getstatic idx, 3)) (hb : (b = 1 ∧ Cond.fieldLink M.1.cls idx RX7 "BODIES" "[I" ∈ zv_gw) ∨ (b = 2 ∧ Cond.fieldLink M.1.cls idx RX7 "KIND_ABOVE" "[I" ∈ zv_gw)) (k : zv_V E M d kc ks (pc + 3) lv (.ref b :: st) sh I J R Q) : zv_V E M d kc ks pc lv st sh I J R Q := by
  intro p l e Rm s m args below meth c Z mc ms sh0 adr0 C adr H locs ls cells slots P h1 h2
  have hb3 : b < 3 := by rcases hb with ⟨e, -⟩ | ⟨e, -⟩ <;> omega
  have kk := k p l e Rm s m args below meth c Z mc ms sh0 adr0 C adr H locs ls cells slots ⟨P.1, P.2.1, P.2.2.1, ⟨Or.inl hb3, P.2.2.2.1⟩, P.2.2.2.2⟩ h1 h2
  have ha := (P.1.2.2.2 b hb3).2
  have kk : W p l e Rm s m args below meth c H locs cells slots Z (F0 m (pc + 3) ls (.ref (adr b) :: st.map (zv_v adr))) := kk
  rw [ha] at kk
  rcases hb with ⟨e, hl⟩ | ⟨e, hl⟩
  · subst e
    exact va_gets C.1 C.2.1 C.2.2.2.2.2.2.1.2.2.2.2.2.1 P.2.2.2.2.2 C.2.2.2.1 (C.2.2.2.2.1 _ hl) (fun _ h => h) hd kk
  · subst e
    exact va_gets C.1 C.2.1 C.2.2.2.2.2.2.1.2.2.2.2.2.2.1 P.2.2.2.2.2 C.2.2.2.1 (C.2.2.2.2.1 _ hl) (fun _ h => h) hd kk
theorem zv_aald {t n j k' : Nat} {i : Int32} {o : Option Nat} (hd : decode M.2.1 pc = .ok (.aaload, 1)) (hs : sh t = some (k', n)) (h3 : 3 ≤ k') (h9 : k' < 9) (hi : i = nI j) (hj : j < n) (hn : n < 2 ^ 31) (hx : R t j = o) (k : zv_V E M d kc ks (pc + 1) lv (va_rf o :: st) sh I J R Q) : zv_V E M d kc ks pc lv (.int i :: .ref t :: st) sh I J R Q := by
  intro p l e Rm s m args below meth c Z mc ms sh0 adr0 C adr H locs ls cells slots P h1 h2
  obtain ⟨⟨ws, hw, hP, hD⟩, hinj, hcl, hro⟩ := P.1
  obtain ⟨q0, hq0⟩ := hw t _ hs
  rw [zv_ent_r E adr h3 (by omega)] at hq0
  obtain ⟨v1, v2⟩ := zv_vin hi hj hn
  have hok : zv_ok sh (va_rf o) := by
    cases o with
    | none => trivial
    | some u => exact Or.inr (hcl t j u (by rw [hs]; rfl) hx)
  have kk := k p l e Rm s m args below meth c Z mc ms sh0 adr0 C adr H locs ls cells slots ⟨P.1, P.2.1, P.2.2.1, ⟨hok, P.2.2.2.1.2.2⟩, P.2.2.2.2⟩ h1 h2
  have kk : W p l e Rm s m args below meth c H locs cells slots Z (F0 m (pc + 1) ls (zv_v adr (va_rf o) :: st.map (zv_v adr))) := kk
  rw [zv_v_rf] at kk
  have hlt : i.toNatClampNeg < n := by rw [v2]; exact hj
  have hty := zv_tys_at E.2.2.1 h9
  refine W.aald (v := va_rf (o.map adr)) (ty := zv_ty k') C.1 C.2.1 (hP q0 _ hq0) ((C.2.2.2.2.2.2.1.1.2 k' _ hty).1 n (fun j => va_rf ((R t j).map adr))) ?_ (fun q => by cases q) (by show ¬ (i < 0 ∨ (arrV _ _ _).slots.size ≤ _); rw [arrV_size]; exact v1) (by show (arrV _ _ _).slots[_]? = _; rw [arrV_read _ _ hlt, v2]; show some (va_rf ((R t j).map adr)) = _; rw [hx]) rfl rfl hd kk
  rcases (show k' = 3 ∨ k' = 4 ∨ k' = 5 ∨ k' = 6 ∨ k' = 7 ∨ k' = 8 by omega) with e | e | e | e | e | e <;> subst e <;> rfl
/-! stores into arrays -/
theorem zv_iast {t n j : Nat} {i x : Int32} (hd : decode M.2.1 pc = .ok (.iastore, 1)) (hs : sh t = some (0, n)) (hi : i = nI j) (hj : j < n) (hn : n < 2 ^ 31) (k : zv_V E M d kc ks (pc + 1) lv st sh (zv_u I t j x) J R Q) : zv_V E M d kc ks pc lv (.int x :: .int i :: .ref t :: st) sh I J R Q := by
  intro p l e Rm s m args below meth c Z mc ms sh0 adr0 C adr H locs ls cells slots P h1 h2
  obtain ⟨⟨ws, hw, hP, hD⟩, hinj, hcl, hro⟩ := P.1
  obtain ⟨q0, hq0⟩ := hw t _ hs
  have hq1 := hq0
  rw [zv_ent_i] at hq0
  obtain ⟨v1, v2⟩ := zv_vin hi hj hn
  refine va_iast C.1 C.2.1 C.2.2.2.2.2.2.1.1 hP hD P.2.2.2.2.2 q0 0 hq0 rfl v1 hd (fun H1 locs1 hP1 hD1 hS1 => ?_)
  refine k p l e Rm s m args below meth c Z mc ms sh0 adr0 C adr H1 locs1 ls cells slots ⟨?_, P.2.1, P.2.2.1, P.2.2.2.1.2.2.2, P.2.2.2.2.1, hS1⟩ h1 h2
  refine zv_H_set P.1 hw hq1 hs ?_ (fun a ha => zv_u_row I t j x ha) (fun _ _ => rfl) (fun _ _ => rfl) (fun j u hu => hcl t j u (by rw [hs]; rfl) hu) hP1 hD1
  rw [zv_ent_i, zv_row_i, v2]
theorem zv_zast {t n j : Nat} {i x : Int32} (hd : decode M.2.1 pc = .ok (.bastore, 1)) (hs : sh t = some (2, n)) (hi : i = nI j) (hj : j < n) (hn : n < 2 ^ 31) (hx : vp_nar .boolean x = x) (k : zv_V E M d kc ks (pc + 1) lv st sh (zv_u I t j x) J R Q) : zv_V E M d kc ks pc lv (.int x :: .int i :: .ref t :: st) sh I J R Q := by
  intro p l e Rm s m args below meth c Z mc ms sh0 adr0 C adr H locs ls cells slots P h1 h2
  obtain ⟨⟨ws, hw, hP, hD⟩, hinj, hcl, hro⟩ := P.1
  obtain ⟨q0, hq0⟩ := hw t _ hs
  have hq1 := hq0
  rw [zv_ent_z] at hq0
  obtain ⟨v1, v2⟩ := zv_vin hi hj hn
  refine va_zast C.1 C.2.1 C.2.2.2.2.2.2.1.1 hP hD P.2.2.2.2.2 q0 2 hq0 rfl v1 hd (fun H1 locs1 hP1 hD1 hS1 => ?_)
  rw [hx] at hP1 hD1
  refine k p l e Rm s m args below meth c Z mc ms sh0 adr0 C adr H1 locs1 ls cells slots ⟨?_, P.2.1, P.2.2.1, P.2.2.2.1.2.2.2, P.2.2.2.2.1, hS1⟩ h1 h2
  refine zv_H_set P.1 hw hq1 hs ?_ (fun a ha => zv_u_row I t j x ha) (fun _ _ => rfl) (fun _ _ => rfl) (fun j u hu => hcl t j u (by rw [hs]; rfl) hu) hP1 hD1
  rw [zv_ent_z, zv_row_i, v2]
theorem zv_last {t n j : Nat} {i : Int32} {x : Int64} (hd : decode M.2.1 pc = .ok (.lastore, 1)) (hs : sh t = some (1, n)) (hi : i = nI j) (hj : j < n) (hn : n < 2 ^ 31) (k : zv_V E M d kc ks (pc + 1) lv st sh I (zv_u J t j x) R Q) : zv_V E M d kc ks pc lv (.long x :: .int i :: .ref t :: st) sh I J R Q := by
  intro p l e Rm s m args below meth c Z mc ms sh0 adr0 C adr H locs ls cells slots P h1 h2
  obtain ⟨⟨ws, hw, hP, hD⟩, hinj, hcl, hro⟩ := P.1
  obtain ⟨q0, hq0⟩ := hw t _ hs
  have hq1 := hq0
  rw [zv_ent_l] at hq0
  obtain ⟨v1, v2⟩ := zv_vin hi hj hn
  refine va_last C.1 C.2.1 C.2.2.2.2.2.2.1.1 hP hD P.2.2.2.2.2 q0 1 hq0 rfl v1 hd (fun H1 locs1 hP1 hD1 hS1 => ?_)
  refine k p l e Rm s m args below meth c Z mc ms sh0 adr0 C adr H1 locs1 ls cells slots ⟨?_, P.2.1, P.2.2.1, P.2.2.2.1.2.2.2, P.2.2.2.2.1, hS1⟩ h1 h2
  refine zv_H_set P.1 hw hq1 hs ?_ (fun _ _ => rfl) (fun a ha => zv_u_row J t j x ha) (fun _ _ => rfl) (fun j u hu => hcl t j u (by rw [hs]; rfl) hu) hP1 hD1
  rw [zv_ent_l, zv_row_l, v2]
/-- a reference (or null) into a row of references: which class of value fits which row -/
def zv_fitR (sh : zv_S) (k' : Nat) (o : Option Nat) : Prop := match o with
  | none => 4 ≤ k'
  | some u => (k' = 3 ∧ ∃ n, sh u = some (0, n)) ∨ ∃ n, (k' = 4 ∧ sh u = some (13, n)) ∨ (k' = 5 ∧ sh u = some (10, n)) ∨ (k' = 6 ∧ sh u = some (12, n)) ∨ (k' = 7 ∧ sh u = some (11, n)) ∨ (k' = 8 ∧ (sh u = some (12, n) ∨ sh u = some (11, n)))
end ZH
