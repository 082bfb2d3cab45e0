/-! STORES OF REFERENCES, NEW CELLS, CASTS -/
theorem zv_row_r (adr : Nat → Nat) (R : zv_R) (t j : Nat) (o : Option Nat) : (fun b => (zv_u R t j o t b).map adr) = va_up (fun b => (R t b).map adr) j (o.map adr) := by
  funext b
  by_cases h : b = j
  · subst h; rw [zv_u_s]; simp [va_up]
  · rw [zv_u_j R o h]; simp [va_up, h]
theorem zv_ent_ext {E : zv_E} {adr adr' : Nat → Nat} {kn : Nat × Nat} {I : Nat → Int32} {J : Nat → Int64} {R : Nat → Option Nat} (h : ∀ j u, R j = some u → adr' u = adr u) : zv_ent E adr' kn I J R = zv_ent E adr kn I J R := by
  have e : (fun j => (R j).map adr') = fun j => (R j).map adr := by
    funext j
    cases hj : R j with
    | none => rfl
    | some u => simp [h j u hj]
  have e2 : zv_fs adr' (kn.1 - 10) I R = zv_fs adr (kn.1 - 10) I R := by
    unfold zv_fs
    apply List.map_congr_left
    intro j _
    have := congrFun e j
    simp only [zv_fv]
    rw [this]
  unfold zv_ent
  rw [e, e2]
theorem zv_v_ext {sh : zv_S} {adr adr' : Nat → Nat} (h : ∀ a, (a < 3 ∨ (sh a).isSome = true) → adr' a = adr a) : ∀ {lv : List Value}, zv_oks sh lv → lv.map (zv_v adr') = lv.map (zv_v adr)
  | [], _ => rfl
  | v :: lv, hk => by
    rw [List.map_cons, List.map_cons, zv_v_ext h hk.2]
    congr 1
    cases v with
    | ref t => exact congrArg Value.ref (h t hk.1)
    | _ => rfl
theorem zv_oks_mono {sh sh' : zv_S} (h : ∀ a, (sh a).isSome = true → (sh' a).isSome = true) : ∀ {lv : List Value}, zv_oks sh lv → zv_oks sh' lv
  | [], _ => trivial
  | v :: lv, hk => ⟨by cases v with
      | ref t => exact (show t < 3 ∨ (sh t).isSome = true from hk.1).elim Or.inl (fun q => Or.inr (h t q))
      | _ => trivial, zv_oks_mono h hk.2⟩
theorem zv_sn_some {sh : zv_S} {t : Nat} {kn : Nat × Nat} (a : Nat) (h : (sh a).isSome = true) : (zv_sn sh t kn a).isSome = true := by
  by_cases e : a = t
  · subst e; rw [zv_sn_s]; rfl
  · rw [zv_sn_t sh kn e]; exact h
def zv_ad (adr : Nat → Nat) (t q : Nat) : Nat → Nat := fun a => if a = t then q else adr a
theorem zv_ad_s (adr : Nat → Nat) (t q : Nat) : zv_ad adr t q t = q := if_pos rfl
theorem zv_ad_t (adr : Nat → Nat) {t q a : Nat} (h : a ≠ t) : zv_ad adr t q a = adr a := if_neg h
theorem zv_H_push {E : zv_E} {sh : zv_S} {I : zv_I} {J : zv_J} {R : zv_R} {adr : Nat → Nat} {H H1 : Heap} {ws : va_W} {t q : Nat} {kn : Nat × Nat} {e : va_E} {gi : Nat → Int32} {gj : Nat → Int64} (hH : zv_H E sh I J R adr H)
    (hw : ∀ (t : Nat) (kn : Nat × Nat), sh t = some kn → ∃ k : Nat, ws[k]? = some (adr t, zv_ent E adr kn (I t) (J t) (R t))) (ht : sh t = none) (h3 : 3 ≤ t) (he : ∀ adr', e = zv_ent E adr' kn gi gj (fun _ => none))
    (hP : va_P E.2.1 zv_cl (ws ++ [(q, e)]) H1) (hD : va_D (zv_A E) (ws ++ [(q, e)])) : zv_H E (zv_sn sh t kn) (zv_n I t gi) (zv_n J t gj) (zv_n R t (fun _ => none)) (zv_ad adr t q) H1 := by
  obtain ⟨-, hinj, hcl, hro⟩ := hH
  have hlast : (ws ++ [(q, e)])[ws.length]? = some (q, e) := by simp
  have hne : ∀ a, (sh a).isSome = true → a ≠ t := fun a ha e => by rw [e, ht] at ha; cases ha
  have hold : ∀ a, (sh a).isSome = true → zv_ad adr t q a = adr a := fun a ha => zv_ad_t adr (hne a ha)
  have hq : ∀ a, (sh a).isSome = true → adr a ≠ q := by
    intro a ha e1
    obtain ⟨ka, hka⟩ := Option.isSome_iff_exists.mp ha
    obtain ⟨k, hk⟩ := hw a ka hka
    have hl := (List.getElem?_eq_some_iff.mp hk).1
    have h1 : (ws ++ [(q, e)])[k]? = some (adr a, zv_ent E adr ka (I a) (J a) (R a)) := by rw [List.getElem?_append_left hl]; exact hk
    have := hD.1 k ws.length _ _ h1 hlast e1
    omega
  have hsn : ∀ a, (zv_sn sh t kn a).isSome = true → a = t ∨ (sh a).isSome = true := by
    intro a ha
    by_cases e : a = t
    · exact Or.inl e
    · rw [zv_sn_t sh kn e] at ha; exact Or.inr ha
  refine ⟨⟨ws ++ [(q, e)], fun a ka ha => ?_, hP, hD⟩, fun a b ha hb hab => ?_, fun a j u ha hu => ?_, fun a ha => ?_⟩
  · by_cases e1 : a = t
    · subst e1
      rw [zv_sn_s] at ha
      cases ha
      refine ⟨ws.length, ?_⟩
      rw [hlast, zv_n_s, zv_n_s, zv_n_s, zv_ad_s, ← he]
    · rw [zv_sn_t sh kn e1] at ha
      obtain ⟨k, hk⟩ := hw a ka ha
      have hl := (List.getElem?_eq_some_iff.mp hk).1
      refine ⟨k, ?_⟩
      rw [List.getElem?_append_left hl, hk, zv_n_t I gi e1, zv_n_t J gj e1, zv_n_t R _ e1, zv_ad_t adr e1]
      rw [zv_ent_ext (fun j u hu => hold u (hcl a j u (by rw [ha]; rfl) hu))]
  · rcases hsn a ha with ea | la <;> rcases hsn b hb with eb | lb
    · rw [ea, eb]
    · rw [ea, zv_ad_s, hold b lb] at hab
      exact absurd hab.symm (hq b lb)
    · rw [eb, zv_ad_s, hold a la] at hab
      exact absurd hab (hq a la)
    · rw [hold a la, hold b lb] at hab
      exact hinj a b la lb hab
  · rcases hsn a ha with ea | la
    · subst ea
      rw [zv_n_s] at hu
      cases hu
    · rw [zv_n_t R _ (hne a la)] at hu
      exact zv_sn_some u (hcl a j u la hu)
  · have e1 : a ≠ t := by omega
    exact ⟨by rw [zv_sn_t sh kn e1]; exact (hro a ha).1, by rw [zv_ad_t adr e1]; exact (hro a ha).2⟩
/-- a frame behind a new cell -/
theorem zv_P_push {E : zv_E} {M : zv_M} {lv st : List Value} {sh : zv_S} {I : zv_I} {J : zv_J} {R : zv_R} {sh0 : zv_S} {adr0 adr : Nat → Nat} {H H1 H0 : Heap} {locs : List Loc} {ls : Array Slot} {t q : Nat} {kn : Nat × Nat} {gi : Nat → Int32} {gj : Nat → Int64} (P : zv_P E M lv st sh I J R sh0 adr0 adr H H0 locs ls) (ht : sh t = none) (h3 : 3 ≤ t)
    (hH : zv_H E (zv_sn sh t kn) (zv_n I t gi) (zv_n J t gj) (zv_n R t (fun _ => none)) (zv_ad adr t q) H1) (hS : va_S (zv_A E) H0 H1 locs) :
    zv_P E M lv (.ref t :: st) (zv_sn sh t kn) (zv_n I t gi) (zv_n J t gj) (zv_n R t (fun _ => none)) sh0 adr0 (zv_ad adr t q) H1 H0 locs ls ∧ (Value.ref t :: st).map (zv_v (zv_ad adr t q)) = .ref q :: st.map (zv_v adr) := by
  have hx : ∀ a, (a < 3 ∨ (sh a).isSome = true) → zv_ad adr t q a = adr a := by
    intro a ha
    refine zv_ad_t adr fun e => ?_
    subst e
    rcases ha with ha | ha
    · omega
    · rw [ht] at ha; cases ha
  refine ⟨⟨hH, by rw [zv_v_ext hx P.2.2.1]; exact P.2.1, zv_oks_mono (fun a => zv_sn_some a) P.2.2.1, ⟨Or.inr (by rw [zv_sn_s]; rfl), zv_oks_mono (fun a => zv_sn_some a) P.2.2.2.1⟩, fun a ha => ?_, hS⟩, ?_⟩
  · obtain ⟨g1, g2⟩ := P.2.2.2.2.1 a ha
    exact ⟨zv_sn_some a g1, by rw [hx a (Or.inr g1)]; exact g2⟩
  · rw [List.map_cons, zv_v_ext hx P.2.2.2.1]
    simp [zv_v, zv_ad_s]
def zv_NL (own : String) (idx c : Nat) : Prop := ∃ (C : String) (T : u_T) (N : Nat), zv_cl[c]? = some (C, T, N) ∧ N = zv_nf c ∧ c < 8 ∧ (∀ w ∈ u_ws C T N, w ∈ zv_gw) ∧ (∀ k, k < N → parseFieldDescriptor (T k).2.2.1 = some (zv_cty c k)) ∧ Cond.classLink own idx C ∈ zv_gw ∧ Cond.instantiable C N ∈ zv_gw ∧ Cond.initialized C ∈ zv_gw
theorem zv_dflt : ∀ c, c < 8 → ∀ j, j < zv_nf c → defaultValue (zv_cty c j) = if zv_rfld c j = true then .null else .int 0 := by decide +kernel
section ZA
variable {E : zv_E} {M : zv_M} {d kc ks pc : Nat} {lv st : List Value} {sh : zv_S} {I : zv_I} {J : zv_J} {R : zv_R} {Q : zv_Q}
theorem zv_new {idx t : Nat} (c : Nat) (hd : decode M.2.1 pc = .ok (.new idx, 3)) (hl : zv_NL M.1.cls idx c) (ht : sh t = none) (h3 : 3 ≤ t) (k : zv_V E M d kc ks (pc + 3) lv (.ref t :: st) (zv_sn sh t (10 + c, 0)) (zv_n I t (fun _ => 0)) (zv_n J t (fun _ => 0)) (zv_n R t (fun _ => none)) Q) : zv_V E M d (kc + 1) (ks + zv_nf c) pc lv st sh I J R Q := by
  intro p l e Rm s m args below meth c' Z mc ms sh0 adr0 C adr H locs ls cells slots P h1 h2
  obtain ⟨⟨ws, hw, hP, hD⟩, hinj, hcl, hro⟩ := P.1
  obtain ⟨Cn, T, N, hc, hN, hc8, hin, hty, hl1, hl2, hl3⟩ := hl
  obtain ⟨c1, c2, c3, c4, c5, c6, c7, c8, c9, c10, c11, c12⟩ := id C
  subst hN
  have hA : ∀ q, s.heap.size ≤ q → zv_A E q := fun q hq => Nat.le_trans c7.2.2.2.2.2.2.2.2.2.2 hq
  refine va_new (ci := c) (fs := zv_fs adr c (fun _ => 0) (fun _ => none)) c1 c2 c5 hin (zv_cty c) hty c4 (c5 _ hl1) (c5 _ hl2) (c5 _ hl3) c7.1 hP hD P.2.2.2.2.2 hA hc (fun j hj => ?_) (by omega) (by omega) hd (fun q H1 hP1 hD1 hS1 => ?_)
  · rw [zv_dflt c hc8 j hj]
    show _ = (zv_fs adr c (fun _ => 0) (fun _ => none)).getD j .null
    rw [List.getD_eq_getElem?_getD, zv_fs_at hj]
    simp [zv_fv, va_rf]
  · have hH := zv_H_push (t := t) (kn := (10 + c, 0)) (gi := fun _ => 0) (gj := fun _ => 0) P.1 hw ht h3 (fun adr' => by
      rw [zv_ent_o]
      rfl) hP1 hD1
    obtain ⟨P1, e1⟩ := zv_P_push P ht h3 hH hS1
    have kk := k p l e Rm s m args below meth c' Z mc ms sh0 adr0 C _ H1 locs ls (cells + 1) (slots + zv_nf c) P1 (by omega) (by omega)
    rw [e1] at kk
    exact kk
/-- new rows of numbers: k' 0 int, 1 long, 2 boolean -/
theorem zv_newa {atype : ArrayType} {t k' N : Nat} {n : Int32} (hd : decode M.2.1 pc = .ok (.newarray atype, 2)) (ha : newarray.typeOf atype = zv_ty k') (hk : k' < 3) (hl : Cond.arrayClass (zv_ty k') ∈ zv_gw) (hn : n = nI N) (hN : N < 2 ^ 20) (ht : sh t = none) (h3 : 3 ≤ t) (k : zv_V E M d kc ks (pc + 2) lv (.ref t :: st) (zv_sn sh t (k', N)) (zv_n I t (fun _ => 0)) (zv_n J t (fun _ => 0)) (zv_n R t (fun _ => none)) Q) : zv_V E M d (kc + 1) (ks + N) pc lv (.int n :: st) sh I J R Q := by
  intro p l e Rm s m args below meth c' Z mc ms sh0 adr0 C adr H locs ls cells slots P h1 h2
  obtain ⟨⟨ws, hw, hP, hD⟩, hinj, hcl, hro⟩ := P.1
  obtain ⟨c1, c2, c3, c4, c5, c6, c7, c8, c9, c10, c11, c12⟩ := id C
  have hA : ∀ q, s.heap.size ≤ q → zv_A E q := fun q hq => Nat.le_trans c7.2.2.2.2.2.2.2.2.2.2 hq
  have hcl2 : n.toNatClampNeg = N := by rw [hn]; exact nI_clamp (by omega)
  have hnn : ¬ n < 0 := by rw [hn]; exact nI_pos (by omega)
  have key : ∃ a0 : vp_A, (∀ cA : ClassId, vp_cell cA a0 = arrV cA N (fun _ => defaultValue (zv_ty k'))) ∧ (∀ adr', (.inl (E.2.2.1 k', a0) : va_E) = zv_ent E adr' (k', N) (fun _ => 0) (fun _ => 0) (fun _ => none)) ∧ N * componentBytes (zv_ty k') ≤ 536870912 := by
    rcases (show k' = 0 ∨ k' = 1 ∨ k' = 2 by omega) with e | e | e <;> subst e
    · exact ⟨(N, .inl (fun _ => 0)), fun cA => rfl, fun adr' => (zv_ent_i E adr' N _ _ _).symm, by show N * 4 ≤ _; omega⟩
    · exact ⟨(N, .inr (.inl (fun _ => 0))), fun cA => rfl, fun adr' => (zv_ent_l E adr' N _ _ _).symm, by show N * 8 ≤ _; omega⟩
    · exact ⟨(N, .inl (fun _ => 0)), fun cA => rfl, fun adr' => (zv_ent_z E adr' N _ _ _).symm, by show N * 1 ≤ _; omega⟩
  obtain ⟨a0, ha0, he0, hbt⟩ := key
  refine va_newa (N' := N) (a0 := a0) c1 c2 (by rw [ha]; exact c5 _ hl) ha c7.1 hP hD P.2.2.2.2.2 hA ha0 hnn hcl2 hbt (by omega) (by omega) hd (fun q cA H1 hK1 hP1 hD1 hS1 => ?_)
  have hcA : cA = E.2.2.1 k' := by
    have h9 := (hK1.2 9 (cA, zv_ty k') (by simp [zv_tys])).2
    have h0 := (c7.1.2 k' _ (zv_tys_at E.2.2.1 (by omega))).2
    rcases (show k' = 0 ∨ k' = 1 ∨ k' = 2 by omega) with e | e | e <;> subst e <;> exact Option.some.inj (Eq.trans (Eq.symm h9) h0)
  subst hcA
  have hH := zv_H_push (t := t) (kn := (k', N)) (gi := fun _ => 0) (gj := fun _ => 0) P.1 hw ht h3 he0 hP1 hD1
  obtain ⟨P1, e1⟩ := zv_P_push (st := st) ⟨P.1, P.2.1, P.2.2.1, P.2.2.2.1.2, P.2.2.2.2⟩ ht h3 hH hS1
  have kk := k p l e Rm s m args below meth c' Z mc ms sh0 adr0 C _ H1 locs ls (cells + 1) (slots + N) P1 (by omega) (by omega)
  rw [e1] at kk
  exact kk
/-- new rows of references to objects: k' 4 .. 8 -/
theorem zv_newq {idx t k' N : Nat} {Cn : String} {n : Int32} (hd : decode M.2.1 pc = .ok (.anewarray idx, 3)) (ha : zv_ty k' = .object Cn) (h3' : 3 ≤ k') (h9 : k' < 9) (hl : Cond.classLink M.1.cls idx Cn ∈ zv_gw) (ho : Cn ∈ zv_ao) (hn : n = nI N) (hN : N < 2 ^ 20) (ht : sh t = none) (h3 : 3 ≤ t) (k : zv_V E M d kc ks (pc + 3) lv (.ref t :: st) (zv_sn sh t (k', N)) (zv_n I t (fun _ => 0)) (zv_n J t (fun _ => 0)) (zv_n R t (fun _ => none)) Q) : zv_V E M d (kc + 1) (ks + N) pc lv (.int n :: st) sh I J R Q := by
  intro p l e Rm s m args below meth c' Z mc ms sh0 adr0 C adr H locs ls cells slots P h1 h2
  obtain ⟨⟨ws, hw, hP, hD⟩, hinj, hcl, hro⟩ := P.1
  obtain ⟨c1, c2, c3, c4, c5, c6, c7, c8, c9, c10, c11, c12⟩ := id C
  have hA : ∀ q, s.heap.size ≤ q → zv_A E q := fun q hq => Nat.le_trans c7.2.2.2.2.2.2.2.2.2.2 hq
  have hcl2 : n.toNatClampNeg = N := by rw [hn]; exact nI_clamp (by omega)
  have hnn : ¬ n < 0 := by rw [hn]; exact nI_pos (by omega)
  refine va_newq (N' := N) c1 c2 c4 (c5 _ hl) (c7.2.2.1 _ ho) c7.1 hP hD P.2.2.2.2.2 hA hnn hcl2 (by omega) (by omega) (by omega) hd (fun q cA H1 hK1 hP1 hD1 hS1 => ?_)
  have hcA : cA = E.2.2.1 k' := by
    have h9 := (hK1.2 9 (cA, .object Cn) (by simp [zv_tys])).2
    have h0 := (c7.1.2 k' _ (zv_tys_at E.2.2.1 (by omega))).2
    rw [ha] at h0
    obtain ⟨_, _, _, _, _, g1⟩ := h9
    obtain ⟨_, _, _, _, _, g2⟩ := h0
    exact Option.some.inj (g1.symm.trans g2)
  subst hcA
  have hH := zv_H_push (t := t) (kn := (k', N)) (gi := fun _ => 0) (gj := fun _ => 0) P.1 hw ht h3 (fun adr' => by rw [zv_ent_r E adr' h3' (by omega)]; rfl) hP1 hD1
  obtain ⟨P1, e1⟩ := zv_P_push (st := st) ⟨P.1, P.2.1, P.2.2.1, P.2.2.2.1.2, P.2.2.2.2⟩ ht h3 hH hS1
  have kk := k p l e Rm s m args below meth c' Z mc ms sh0 adr0 C _ H1 locs ls (cells + 1) (slots + N) P1 (by omega) (by omega)
  rw [e1] at kk
  exact kk
theorem zv_aoa {t : FieldType} {A B : Array Value} {U : State} (h : (Cond.arrayOver (.array t)).before A U = true) : (Cond.arrayOver (.array t)).before B U = true := h
/-- new rows of int rows -/
theorem zv_newA {idx t N : Nat} {n : Int32} (hd : decode M.2.1 pc = .ok (.anewarray idx, 3)) (hl : Cond.classLink M.1.cls idx "[I" ∈ zv_gw) (hn : n = nI N) (hN : N < 2 ^ 20) (ht : sh t = none) (h3 : 3 ≤ t) (k : zv_V E M d kc ks (pc + 3) lv (.ref t :: st) (zv_sn sh t (3, N)) (zv_n I t (fun _ => 0)) (zv_n J t (fun _ => 0)) (zv_n R t (fun _ => none)) Q) : zv_V E M d (kc + 1) (ks + N) pc lv (.int n :: st) sh I J R Q := by
  intro p l e Rm s m args below meth c' Z mc ms sh0 adr0 C adr H locs ls cells slots P h1 h2
  obtain ⟨⟨ws, hw, hP, hD⟩, hinj, hcl, hro⟩ := P.1
  obtain ⟨c1, c2, c3, c4, c5, c6, c7, c8, c9, c10, c11, c12⟩ := id C
  have hA : ∀ q, s.heap.size ≤ q → zv_A E q := fun q hq => Nat.le_trans c7.2.2.2.2.2.2.2.2.2.2 hq
  have hcl2 : n.toNatClampNeg = N := by rw [hn]; exact nI_clamp (by omega)
  have hnn : ¬ n < 0 := by rw [hn]; exact nI_pos (by omega)
  have hS := P.2.2.2.2.2
  have hlk : (Cond.classLink M.1.cls idx (FieldType.array .int).toString).before args s = true := by
    have e1 : (FieldType.array .int).toString = "[I" := by decide +kernel
    rw [e1]
    exact c5 _ hl
  refine W.anewA (t := .int) c1 c2 c4 hlk (zv_aoa c7.2.2.2.1) rfl hd rfl hnn (by rw [hcl2]; omega) (by omega) (by rw [hcl2]; omega) fun cA kA comp f1 f2 f3 f4 => ?_
  rw [hcl2]
  generalize hH1 : H.push ({ cls := cA, slots := Array.replicate N .null, vm := .none } : Cell) = H1
  have z1 : H1.size = H.size + 1 := by rw [← hH1, Array.size_push]
  have e1 : H1[H.size]? = some (arrV cA N (fun _ => .null)) := by rw [← hH1, Array.getElem?_push_size, ← arrV_new]
  have o1 : ∀ q : Nat, q < H.size → H1[q]? = H[q]? := fun q hq => by rw [← hH1, Array.getElem?_push, if_neg (Nat.ne_of_lt hq)]
  have hcA : cA = E.2.2.1 3 := by
    have h0 : va_RA s (E.2.2.1 3) (.array .int) := (c7.1.2 3 (E.2.2.1 3, .array .int) rfl).2
    have h0 : s.vm.findClass ("[" ++ (FieldType.array .int).toString) = some (E.2.2.1 3) := h0
    exact Option.some.inj (f1.symm.trans h0)
  subst hcA
  have hk : ∀ (k : Nat) (x : Nat × va_E), ws[k]? = some x → H1[x.1]? = H[x.1]? := fun k x hx => o1 x.1 ((hP k x hx).lt)
  have hP1 : va_P E.2.1 zv_cl (ws ++ [(H.size, .inl (E.2.2.1 3, N, .inr (.inr (.inr (.inr (fun _ => none))))))]) H1 := (hP.kept hk).app (fun k x hx => by
    have hz : k < 1 := (List.getElem?_eq_some_iff.mp hx).1
    rw [show k = 0 by omega] at hx
    cases hx
    exact e1)
  have hD1 : va_D (zv_A E) (ws ++ [(H.size, .inl (E.2.2.1 3, N, .inr (.inr (.inr (.inr (fun _ => none))))))]) := hD.push hP rfl (hA _ hS.1)
  have hS1 : va_S (zv_A E) s.heap H1 locs := ⟨Nat.le_trans hS.1 (by omega), fun x h1 h2 => (o1 x (Nat.lt_of_lt_of_le h1 hS.1)).trans (hS.2.1 x h1 h2), hS.2.2⟩
  have hH := zv_H_push (t := t) (kn := (3, N)) (gi := fun _ => 0) (gj := fun _ => 0) P.1 hw ht h3 (fun adr' => by rw [zv_ent_r E adr' (by omega) (by omega)]; rfl) hP1 hD1
  obtain ⟨P1, e2⟩ := zv_P_push (st := st) ⟨P.1, P.2.1, P.2.2.1, P.2.2.2.1.2, P.2.2.2.2⟩ ht h3 hH hS1
  have kk := k p l e Rm s m args below meth c' Z mc ms sh0 adr0 C _ H1 locs ls (cells + 1) (slots + N) P1 (by omega) (by omega)
  rw [e2] at kk
  exact kk
/-- int[].clone() -/
theorem zv_clone {idx t t0 N : Nat} (hd : decode M.2.1 pc = .ok (.invokevirtual idx, 3)) (hl : Cond.methodLink M.1.cls idx ⟨"[I", "clone", "()Ljava/lang/Object;"⟩ ∈ zv_gw) (hs : sh t0 = some (0, N)) (hN : N < 2 ^ 20) (hsame : Cond.sameMethod "[I" "java/lang/Object" "clone" "()Ljava/lang/Object;" ∈ zv_gw) (hnat : Cond.native ⟨"java/lang/Object", "clone", "()Ljava/lang/Object;"⟩ ∈ zv_gw) (hinst : Cond.instanceMethod ⟨"java/lang/Object", "clone", "()Ljava/lang/Object;"⟩ ∈ zv_gw) (hsel : Cond.selects "[I" ⟨"[I", "clone", "()Ljava/lang/Object;"⟩ ⟨"java/lang/Object", "clone", "()Ljava/lang/Object;"⟩ ∈ zv_gw) (hcast : Cond.castable "[I" "java/lang/Cloneable" ∈ zv_nw)
    (hdd : 1 ≤ d) (hcat : (st.map fun v => v.category).sum + 14 ≤ 40) (ht : sh t = none) (h3 : 3 ≤ t) (k : zv_V E M d kc ks (pc + 3) lv (.ref t :: st) (zv_sn sh t (0, N)) (zv_n I t (I t0)) (zv_n J t (J t0)) (zv_n R t (fun _ => none)) Q) : zv_V E M d (kc + 1) (ks + N) pc lv (.ref t0 :: st) sh I J R Q := by
  intro p l e Rm s m args below meth c' Z mc ms sh0 adr0 C adr H locs ls cells slots P h1 h2
  obtain ⟨⟨ws, hw, hP, hD⟩, hinj, hcl, hro⟩ := P.1
  obtain ⟨q0, hq0⟩ := hw t0 _ hs
  rw [zv_ent_i] at hq0
  obtain ⟨c1, c2, c3, c4, c5, c6, c7, c8, c9, c10, c11, c12⟩ := id C
  have hA : ∀ q, s.heap.size ≤ q → zv_A E q := fun q hq => Nat.le_trans c7.2.2.2.2.2.2.2.2.2.2 hq
  have h0 := (c7.1.2 0 _ (zv_tys_at E.2.2.1 (by omega))).2
  refine va_clone (x := (N, .inl (I t0))) c1 c2 (c3.trans P.2.1.1.1.symm) c4 (c5 _ hl) (c5 _ hsame) (c5 _ hnat) (c5 _ hinst) (c5 _ hsel) (c7.2.1 _ hcast) c7.1 hP hD P.2.2.2.2.2 hA q0 0 hq0 rfl (va_nm_int h0) (va_fit (fun i _ => rfl)) (by omega) (by rw [zv_cats]; omega) (by omega) (by show slots + N ≤ _; omega) hd (fun q H1 hK1 hP1 hD1 hS1 => ?_)
  have hH := zv_H_push (t := t) (kn := (0, N)) (gi := I t0) (gj := J t0) P.1 hw ht h3 (fun adr' => (zv_ent_i E adr' N _ _ _).symm) hP1 hD1
  obtain ⟨P1, e1⟩ := zv_P_push (st := st) ⟨P.1, P.2.1, P.2.2.1, P.2.2.2.1.2, P.2.2.2.2⟩ ht h3 hH hS1
  have kk := k p l e Rm s m args below meth c' Z mc ms sh0 adr0 C _ H1 locs ls (cells + 1) (slots + N) P1 (by omega) (by omega)
  rw [e1] at kk
  exact kk
/-! casts -/
theorem zv_castA {idx t N : Nat} (hd : decode M.2.1 pc = .ok (.checkcast idx, 3)) (hl : Cond.classLink M.1.cls idx "[I" ∈ zv_gw) (hs : sh t = some (0, N)) (k : zv_V E M d kc ks (pc + 3) lv (.ref t :: st) sh I J R Q) : zv_V E M d kc ks pc lv (.ref t :: st) sh I J R Q := by
  intro p l e Rm s m args below meth c' Z mc ms sh0 adr0 C adr H locs ls cells slots P h1 h2
  obtain ⟨⟨ws, hw, hP, hD⟩, hinj, hcl, hro⟩ := P.1
  obtain ⟨q0, hq0⟩ := hw t _ hs
  rw [zv_ent_i] at hq0
  obtain ⟨c1, c2, c3, c4, c5, c6, c7, c8⟩ := id C
  have h0 := (c7.1.2 0 _ (zv_tys_at E.2.2.1 (by omega))).2
  exact va_castA c1 c2 c4 (c5 _ hl) hP q0 hq0 (va_nm_int h0) hd (k p l e Rm s m args below meth c' Z mc ms sh0 adr0 C adr H locs ls cells slots P h1 h2)
theorem zv_recv {s : State} {H : Heap} {adr : Nat → Nat} {t c n : Nat} {q : vw_C} (hH : zv_H E sh I J R adr H) (hT : zv_T E s) (hs : sh t = some (10 + c, n)) (hc : zv_cl[c]? = some q) : ∃ cell : Cell, H[adr t]? = some cell ∧ cell.vm.isStatics = false ∧ s.vm.findClass q.1 = some cell.cls := by
  obtain ⟨⟨ws, hw, hP, hD⟩, -⟩ := hH
  obtain ⟨q0, hq0⟩ := hw t _ hs
  rw [zv_ent_o] at hq0
  exact va_recv hT.1 hP hc hq0
theorem zv_cast {idx t c n : Nat} {q : vw_C} (hd : decode M.2.1 pc = .ok (.checkcast idx, 3)) (hs : sh t = some (10 + c, n)) (hc : zv_cl[c]? = some q) (hl : Cond.classLink M.1.cls idx q.1 ∈ zv_gw) (k : zv_V E M d kc ks (pc + 3) lv (.ref t :: st) sh I J R Q) : zv_V E M d kc ks pc lv (.ref t :: st) sh I J R Q := by
  intro p l e Rm s m args below meth c' Z mc ms sh0 adr0 C adr H locs ls cells slots P h1 h2
  obtain ⟨c1, c2, c3, c4, c5, c6, c7, c8⟩ := id C
  exact va_castS c1 c2 c4 (c5 _ hl) (c7.1.1 c q hc).2 (zv_recv P.1 c7 hs hc) hd (k p l e Rm s m args below meth c' Z mc ms sh0 adr0 C adr H locs ls cells slots P h1 h2)
theorem zv_instY {idx t c n : Nat} {q : vw_C} (hd : decode M.2.1 pc = .ok (.instanceof idx, 3)) (hs : sh t = some (10 + c, n)) (hc : zv_cl[c]? = some q) (hl : Cond.classLink M.1.cls idx q.1 ∈ zv_gw) (k : zv_V E M d kc ks (pc + 3) lv (.int 1 :: st) sh I J R Q) : zv_V E M d kc ks pc lv (.ref t :: st) sh I J R Q := by
  intro p l e Rm s m args below meth c' Z mc ms sh0 adr0 C adr H locs ls cells slots P h1 h2
  obtain ⟨c1, c2, c3, c4, c5, c6, c7, c8⟩ := id C
  exact va_instS c1 c2 c4 (c5 _ hl) (c7.1.1 c q hc).2 (zv_recv P.1 c7 hs hc) hd (k p l e Rm s m args below meth c' Z mc ms sh0 adr0 C adr H locs ls cells slots ⟨P.1, P.2.1, P.2.2.1, ⟨trivial, P.2.2.2.1.2⟩, P.2.2.2.2⟩ h1 h2)
theorem zv_instNo {idx t c n : Nat} {q : vw_C} {nm : String} (hd : decode M.2.1 pc = .ok (.instanceof idx, 3)) (hs : sh t = some (10 + c, n)) (hc : zv_cl[c]? = some q) (hn : (q.1, nm) ∈ zv_nc) (hl : Cond.classLink M.1.cls idx nm ∈ zv_gw) (k : zv_V E M d kc ks (pc + 3) lv (.int 0 :: st) sh I J R Q) : zv_V E M d kc ks pc lv (.ref t :: st) sh I J R Q := by
  intro p l e Rm s m args below meth c' Z mc ms sh0 adr0 C adr H locs ls cells slots P h1 h2
  obtain ⟨c1, c2, c3, c4, c5, c6, c7, c8⟩ := id C
  exact va_instNo c1 c2 c4 (c5 _ hl) (c7.2.2.2.2.1 _ hn) (zv_recv P.1 c7 hs hc) hd (k p l e Rm s m args below meth c' Z mc ms sh0 adr0 C adr H locs ls cells slots ⟨P.1, P.2.1, P.2.2.1, ⟨trivial, P.2.2.2.1.2⟩, P.2.2.2.2⟩ h1 h2)
theorem zv_instN {idx : Nat} (hd : decode M.2.1 pc = .ok (.instanceof idx, 3)) (k : zv_V E M d kc ks (pc + 3) lv (.int 0 :: st) sh I J R Q) : zv_V E M d kc ks pc lv (.null :: st) sh I J R Q := by
  intro p l e Rm s m args below meth c' Z mc ms sh0 adr0 C adr H locs ls cells slots P h1 h2
  exact lv_instN C.1 C.2.1 hd (k p l e Rm s m args below meth c' Z mc ms sh0 adr0 C adr H locs ls cells slots ⟨P.1, P.2.1, P.2.2.1, ⟨trivial, P.2.2.2.1.2⟩, P.2.2.2.2⟩ h1 h2)
theorem zv_acmp_eq {off : Int} {tgt : Nat} {a b : Option Nat} (hd : decode M.2.1 pc = .ok (.if_acmp .eq off, 3)) (ht : (pc : Int) + off = (tgt : Int)) (ha : ∀ x, a = some x → 3 ≤ x) (hb : ∀ x, b = some x → 3 ≤ x) (kt : a = b → zv_V E M d kc ks tgt lv st sh I J R Q) (kf : ¬ a = b → zv_V E M d kc ks (pc + 3) lv st sh I J R Q) : zv_V E M d kc ks pc lv (va_rf b :: va_rf a :: st) sh I J R Q := by
  intro p l e Rm s m args below meth c' Z mc ms sh0 adr0 C adr H locs ls cells slots P h1 h2
  have hok := P.2.2.2.1
  have hinj : a.map adr = b.map adr ↔ a = b := by
    refine ⟨fun h => ?_, fun h => by rw [h]⟩
    cases a with
    | none => cases b with
      | none => rfl
      | some y => cases h
    | some x => cases b with
      | none => cases h
      | some y =>
        have e1 : adr x = adr y := Option.some.inj h
        have hy : y < 3 ∨ (sh y).isSome = true := hok.1
        have hx : x < 3 ∨ (sh x).isSome = true := hok.2.1
        have := ha x rfl
        have := hb y rfl
        rw [P.1.2.1 x y (hx.resolve_left (by omega)) (hy.resolve_left (by omega)) e1]
  show W p l e Rm s m args below meth c' H locs cells slots Z (F0 m pc ls (zv_v adr (va_rf b) :: zv_v adr (va_rf a) :: st.map (zv_v adr)))
  rw [zv_v_rf, zv_v_rf]
  exact lv_acmp_eq C.1 C.2.1 hd ht (fun h => kt (hinj.mp h) p l e Rm s m args below meth c' Z mc ms sh0 adr0 C adr H locs ls cells slots ⟨P.1, P.2.1, P.2.2.1, P.2.2.2.1.2.2, P.2.2.2.2⟩ h1 h2) (fun h => kf (fun q => h (hinj.mpr q)) p l e Rm s m args below meth c' Z mc ms sh0 adr0 C adr H locs ls cells slots ⟨P.1, P.2.1, P.2.2.1, P.2.2.2.1.2.2, P.2.2.2.2⟩ h1 h2)
theorem zv_acmp_ne {off : Int} {tgt : Nat} {a b : Option Nat} (hd : decode M.2.1 pc = .ok (.if_acmp .ne off, 3)) (ht : (pc : Int) + off = (tgt : Int)) (ha : ∀ x, a = some x → 3 ≤ x) (hb : ∀ x, b = some x → 3 ≤ x) (kt : ¬ a = b → zv_V E M d kc ks tgt lv st sh I J R Q) (kf : a = b → zv_V E M d kc ks (pc + 3) lv st sh I J R Q) : zv_V E M d kc ks pc lv (va_rf b :: va_rf a :: st) sh I J R Q := by
  intro p l e Rm s m args below meth c' Z mc ms sh0 adr0 C adr H locs ls cells slots P h1 h2
  have hok := P.2.2.2.1
  have hinj : a.map adr = b.map adr ↔ a = b := by
    refine ⟨fun h => ?_, fun h => by rw [h]⟩
    cases a with
    | none => cases b with
      | none => rfl
      | some y => cases h
    | some x => cases b with
      | none => cases h
      | some y =>
        have e1 : adr x = adr y := Option.some.inj h
        have hy : y < 3 ∨ (sh y).isSome = true := hok.1
        have hx : x < 3 ∨ (sh x).isSome = true := hok.2.1
        have := ha x rfl
        have := hb y rfl
        rw [P.1.2.1 x y (hx.resolve_left (by omega)) (hy.resolve_left (by omega)) e1]
  show W p l e Rm s m args below meth c' H locs cells slots Z (F0 m pc ls (zv_v adr (va_rf b) :: zv_v adr (va_rf a) :: st.map (zv_v adr)))
  rw [zv_v_rf, zv_v_rf]
  exact lv_acmp_ne C.1 C.2.1 hd ht (fun h => kt (fun q => h (hinj.mpr q)) p l e Rm s m args below meth c' Z mc ms sh0 adr0 C adr H locs ls cells slots ⟨P.1, P.2.1, P.2.2.1, P.2.2.2.1.2.2, P.2.2.2.2⟩ h1 h2) (fun h => kf (hinj.mp h) p l e Rm s m args below meth c' Z mc ms sh0 adr0 C adr H locs ls cells slots ⟨P.1, P.2.1, P.2.2.1, P.2.2.2.1.2.2, P.2.2.2.2⟩ h1 h2)
end ZA
