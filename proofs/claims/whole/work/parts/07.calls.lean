/-! STORES OF REFERENCES INTO ROWS; CALLS -/
section ZS
variable {E : zv_E} {M : zv_M} {d kc ks pc : Nat} {lv st : List Value} {sh : zv_S} {I : zv_I} {J : zv_J} {R : zv_R} {Q : zv_Q}
theorem zv_nwm {w : Cond} {s U : State} (h : zv_isN w = true) (hW : s.WarmedH U.vm) (hZ : va_Nw w s) : va_Nw w U := by
  cases w <;> first | exact va_Nw.warmF hW hZ | exact va_Nw.warmM hW hZ | exact va_Nw.warmC hW hZ | cases h
theorem zv_nwo {w : Cond} (h : zv_isN w = true) : w.onTables = true := by
  cases w <;> first | rfl | cases h
theorem zv_nw_is {w : Cond} (h : w ∈ zv_nw) : zv_isN w = true := (List.mem_filter.mp h).2
theorem zv_aast {t n j k' : Nat} {i : Int32} {o : Option Nat} (hd : decode M.2.1 pc = .ok (.aastore, 1)) (hs : sh t = some (k', n)) (h9 : k' < 9) (hf : zv_fitR sh k' o) (hcst : k' = 8 → Cond.castable RX2 RX5 ∈ zv_nw ∧ Cond.castable RX1 RX5 ∈ zv_nw) (hi : i = nI j) (hj : j < n) (hn : n < 2 ^ 31) (k : zv_V E M d kc ks (pc + 1) lv st sh I J (zv_u R t j o) Q) : zv_V E M d kc ks pc lv (va_rf o :: .int i :: .ref t :: st) sh I J R Q := by
  intro p l e Rm s m args below meth c Z mc ms sh0 adr0 C adr H locs ls cells slots P h1 h2
  obtain ⟨⟨ws, hw, hP, hD⟩, hinj, hcl, hro⟩ := P.1
  obtain ⟨q0, hq0⟩ := hw t _ hs
  have hq1 := hq0
  have h3 : 3 ≤ k' := by
    cases o with
    | none => exact Nat.le_trans (by decide) (show 4 ≤ k' from hf)
    | some u => rcases hf with ⟨e, -⟩ | ⟨n, ⟨e, -⟩ | ⟨e, -⟩ | ⟨e, -⟩ | ⟨e, -⟩ | ⟨e, -⟩⟩ <;> omega
  rw [zv_ent_r E adr h3 (by omega)] at hq0
  obtain ⟨v1, v2⟩ := zv_vin hi hj hn
  obtain ⟨c1, c2, c3, c4, c5, c6, c7, c8⟩ := id C
  have hS := P.2.2.2.2.2
  have hlive : ∀ u, o = some u → (sh u).isSome = true := by
    intro u hu
    subst hu
    rcases hf with ⟨-, n, e⟩ | ⟨n, ⟨-, e⟩ | ⟨-, e⟩ | ⟨-, e⟩ | ⟨-, e⟩ | ⟨-, e | e⟩⟩ <;> rw [e] <;> rfl
  have kk : ∀ (H1 : Heap) (locs1 : List Loc), va_P E.2.1 zv_cl (ws.set q0 (adr t, .inl (E.2.2.1 k', n, .inr (.inr (.inr (.inr (va_up (fun b => (R t b).map adr) i.toNatClampNeg (o.map adr)))))))) H1 → va_D (zv_A E) (ws.set q0 (adr t, .inl (E.2.2.1 k', n, .inr (.inr (.inr (.inr (va_up (fun b => (R t b).map adr) i.toNatClampNeg (o.map adr)))))))) → va_S (zv_A E) s.heap H1 locs1 → W p l e Rm s m args below meth c H1 locs1 cells slots Z (F0 m (pc + 1) ls (st.map (zv_v adr))) := by
    intro H1 locs1 hP1 hD1 hS1
    refine k p l e Rm s m args below meth c Z mc ms sh0 adr0 C adr H1 locs1 ls cells slots ⟨?_, P.2.1, P.2.2.1, P.2.2.2.1.2.2.2, P.2.2.2.2.1, hS1⟩ h1 h2
    refine zv_H_set P.1 hw hq1 hs ?_ (fun _ _ => rfl) (fun _ _ => rfl) (fun a ha => zv_u_row R t j o ha) (fun b u hu => ?_) hP1 hD1
    · rw [zv_ent_r E adr h3 (by omega), zv_row_r, v2]
    · by_cases hb : b = j
      · subst hb
        rw [zv_u_s] at hu
        exact hlive u hu
      · rw [zv_u_j R o hb] at hu
        exact hcl t b u (by rw [hs]; rfl) hu
  show W p l e Rm s m args below meth c H locs cells slots Z (F0 m pc ls (zv_v adr (va_rf o) :: .int i :: .ref (adr t) :: st.map (zv_v adr)))
  rw [zv_v_rf]
  cases o with
  | none =>
    have h4 : 4 ≤ k' := hf
    rcases (show k' = 4 ∨ k' = 5 ∨ k' = 6 ∨ k' = 7 ∨ k' = 8 by omega) with e | e | e | e | e <;> subst e
    · exact va_astqN (C := RX3) c1 c2 c7.1 hP hD hS q0 4 hq0 rfl v1 hd kk
    · exact va_astqN (C := RX0) c1 c2 c7.1 hP hD hS q0 5 hq0 rfl v1 hd kk
    · exact va_astqN (C := RX2) c1 c2 c7.1 hP hD hS q0 6 hq0 rfl v1 hd kk
    · exact va_astqN (C := RX1) c1 c2 c7.1 hP hD hS q0 7 hq0 rfl v1 hd kk
    · exact va_astqN (C := RX5) c1 c2 c7.1 hP hD hS q0 8 hq0 rfl v1 hd kk
  | some u =>
    have at' : ∀ {c n : Nat}, sh u = some (10 + c, n) → ∃ qk : Nat, ws[qk]? = some ((adr u, .inr (c, zv_fs adr c (I u) (R u))) : Nat × va_E) := by
      intro c n hu
      obtain ⟨qk, hk⟩ := hw u _ hu
      rw [zv_ent_o] at hk
      exact ⟨qk, hk⟩
    rcases hf with ⟨e, m2, hu⟩ | ⟨m2, ⟨e, hu⟩ | ⟨e, hu⟩ | ⟨e, hu⟩ | ⟨e, hu⟩ | ⟨e, hu | hu⟩⟩
    · subst e
      obtain ⟨qk, hk⟩ := hw u _ hu
      rw [zv_ent_i] at hk
      have hlt : i.toNatClampNeg < n := by rw [v2]; exact hj
      have h0 : ¬ i < 0 := fun q => v1 (Or.inl q)
      obtain ⟨comp, cA2, kA, k3, -, k1, k2, k4⟩ := arrayOverA_spec (zv_aoa (B := args) c7.2.2.2.1)
      have hRA : va_RA s (E.2.2.1 3) (.array .int) := (c7.1.2 3 (E.2.2.1 3, .array .int) rfl).2
      have hRA : s.vm.findClass ("[" ++ (FieldType.array .int).toString) = some (E.2.2.1 3) := hRA
      have eA : E.2.2.1 3 = cA2 := Option.some.inj (hRA.symm.trans k4)
      have hRI : va_RA s (E.2.2.1 0) .int := (c7.1.2 0 (E.2.2.1 0, .int) rfl).2
      have hRI : s.vm.findClass "[I" = some (E.2.2.1 0) := va_nm_int hRI
      have e1 : (FieldType.array .int).toString = "[I" := by decide +kernel
      rw [e1] at k3
      have eC : comp = E.2.2.1 0 := Option.some.inj (k3.symm.trans hRI)
      subst eC
      obtain ⟨kE, hkE, -⟩ := Vm.findClass_spec k3
      refine W.aast c1 c2 (hP q0 _ hq0) (fun q h => by cases h) (fun h => by cases h) (by show s.vm.classes[E.2.2.1 3]? = some kA; rw [eA]; exact k1) k2 rfl hkE ⟨h0, by show _ < (arrV _ _ _).slots.size; rw [arrV_size]; exact hlt⟩ (hP qk _ hk) (fun q h => by cases h) hkE (va_asg _ _) rfl rfl hd fun H1 e z oq => ?_
      refine kk H1 _ (hP.set hD hq0 ?_ oq) (hD.set hq0) (hS.put z oq (hD.2 q0 _ hq0))
      show H1[adr t]? = some (vp_cell _ _)
      rw [e]
      rw [vp_cell_q, vp_cell_q, arrV_store]
      congr 2
      funext q
      by_cases hq : q = i.toNatClampNeg
      · subst hq
        simp [updV, va_up, va_rf]
      · simp [updV, va_up, hq]
    · subst e
      obtain ⟨qk, hk⟩ := at' (c := 3) hu
      exact va_astq c1 c2 c7.1 hP hD hS q0 4 qk 3 hq0 rfl hk rfl v1 hd kk
    · subst e
      obtain ⟨qk, hk⟩ := at' (c := 0) hu
      exact va_astq c1 c2 c7.1 hP hD hS q0 5 qk 0 hq0 rfl hk rfl v1 hd kk
    · subst e
      obtain ⟨qk, hk⟩ := at' (c := 2) hu
      exact va_astq c1 c2 c7.1 hP hD hS q0 6 qk 2 hq0 rfl hk rfl v1 hd kk
    · subst e
      obtain ⟨qk, hk⟩ := at' (c := 1) hu
      exact va_astq c1 c2 c7.1 hP hD hS q0 7 qk 1 hq0 rfl hk rfl v1 hd kk
    · subst e
      obtain ⟨qk, hk⟩ := at' (c := 2) hu
      exact va_astqO (E := RX5) c1 c2 c7.1 hP hD hS q0 8 qk 2 hq0 rfl (c7.2.1 _ (hcst rfl).1) hk rfl v1 hd kk
    · subst e
      obtain ⟨qk, hk⟩ := at' (c := 1) hu
      exact va_astqO (E := RX5) c1 c2 c7.1 hP hD hS q0 8 qk 1 hq0 rfl (c7.2.1 _ (hcst rfl).2) hk rfl v1 hd kk
/-! what the tables say moves along -/
theorem zv_aoam {t : FieldType} {u U : State} (hvm : u.vm.Alike U.vm) (h : (Cond.arrayOver (.array t)).before #[] u = true) : (Cond.arrayOver (.array t)).before #[] U = true := by
  obtain ⟨comp, c, k, h1, h2, h3, h4, h5⟩ := arrayOverA_spec h
  obtain ⟨k', hk', he⟩ := hvm.2.2 _ _ h3
  have hi : (U.vm.classes.findIdx? fun (x : Class) => match x.kind with | .array component _ => component == comp | _ => false) = some c := by
    refine (va_idx_bare U.vm comp).symm.trans ?_
    first | rw [hvm.bare_eq] | rw [← hvm.bare_eq]
    exact (va_idx_bare u.vm comp).trans h2
  have hkind : k'.kind = .array comp (.array t) := by rw [he]; exact h4
  have f1 : U.vm.findClass (FieldType.array t).toString = some comp := by rw [hvm.findClass]; exact h1
  have f2 : U.vm.findClass ("[" ++ (FieldType.array t).toString) = some c := by rw [hvm.findClass]; exact h5
  unfold Cond.before Cond.holds
  simp only [Cond.value]
  rw [f1, Option.bind_some]
  refine (congrArg (fun o : Option Nat => (o.bind (fun c => (U.vm.classes[c]?).map fun (k : Class) => match k.kind with | .array _ ty => decide (ty = FieldType.array t) && decide (U.vm.findClass ("[" ++ (FieldType.array t).toString) = some c) | _ => false) == some true)) hi).trans ?_
  simp [hk', hkind, f2]
theorem zv_T_mov {s U : State} {H : Heap} {locs : List Loc} (h : zv_T E s) (hvm : s.vm.Alike U.vm) (hN : ∀ w ∈ zv_nw, va_Nw w s → va_Nw w U) (hS : va_S (zv_A E) s.heap H locs) (hH : U.heap = H) : zv_T E U := by
  obtain ⟨t1, t2, t3, t4, t5, t6, t7, t8, t9, t10, t11⟩ := h
  have hq : ∀ a : Nat, a < s.heap.size → ¬ zv_A E a → H[a]? = s.heap[a]? := hS.2.1
  subst hH
  exact ⟨va_K.moved hvm t1, fun w hw => hN w hw (t2 w hw), fun C hC => va_AO.moved hvm (t3 C hC), zv_aoam hvm t4, fun q hq => va_Nc.moved hvm (t5 q hq), (va_Z.moved hvm t6).kept hq, (va_Z.moved hvm t7).kept hq, (va_T.moved hvm t8).kept hq, (va_T.moved hvm t9).kept hq, (va_T.moved hvm t10).kept hq, Nat.le_trans t11 hS.1⟩
theorem zv_T_warm {s U : State} {H : Heap} {locs : List Loc} (h : zv_T E s) (hW : s.WarmedH U.vm) (hS : va_S (zv_A E) s.heap H locs) (hH : U.heap = H) : zv_T E U :=
  zv_T_mov h hW.alike (fun w hw => zv_nwm (zv_nw_is hw) hW) hS hH
theorem zv_T_same {s U : State} (h : zv_T E s) (hv : s.vm = U.vm) (hH : U.heap = s.heap) : zv_T E U :=
  zv_T_mov h (by rw [hv]; exact Vm.Alike.refl _) (fun w hw => va_Nw.same (zv_nwo (zv_nw_is hw)) hv) (va_S.rf (A := zv_A E)) hH
/-- a method's contract, in the kit's words -/
def zv_Pm (E : zv_E) (As : List Value) (sh : zv_S) (I : zv_I) (J : zv_J) (R : zv_R) (adr : Nat → Nat) : Array Value → State → Prop := va_Pc (As.map (zv_v adr)) (fun U => zv_H E sh I J R adr U.heap ∧ zv_T E U)
def zv_Qm (E : zv_E) (sh : zv_S) (adr : Nat → Nat) (Q : zv_Q) : Array Value → State → Outcome → State → Prop := fun _ st oc t =>
  ∃ (v : Option Value) (sh' : zv_S) (I' : zv_I) (J' : zv_J) (R' : zv_R) (adr' : Nat → Nat), oc = .returned (v.map (zv_v adr')) ∧ Q v sh' I' J' R' ∧ zv_H E sh' I' J' R' adr' t.heap ∧ zv_ag sh adr sh' adr' ∧ (∀ x, v = some x → zv_ok sh' x) ∧ va_F (zv_A E) st t
def zv_rm (d kc ks : Nat) : Room := { frames := d, cells := kc, slots := ks, locals := 40 * d }
abbrev zv_ws (M : zv_M) : List Cond := .code M.1 M.2.1 M.2.2.1 M.2.2.2 :: zv_gw
theorem zv_pm_blind {As : List Value} {adr : Nat → Nat} : FrameBlind (zv_Pm E As sh I J R adr) := fun a U g mk q => ⟨q.1, q.2.1, zv_T_same (U := U.calling g mk a) q.2.2 rfl rfl⟩
theorem zv_lg : ∀ (vs : List Value), (∀ w ∈ vs, w.category = 1) → (lg_sl vs).length = vs.length
  | [], _ => rfl
  | v :: vs, h => by
    have hv : ¬ v.category = 2 := by rw [h v List.mem_cons_self]; decide
    have := zv_lg vs fun w hw => h w (List.mem_cons_of_mem _ hw)
    simp only [lg_sl, List.flatMap_cons, if_neg hv] at this ⊢
    simp [this]
theorem zv_met {As : List Value} (h : zv_V E M d kc ks 0 As [] sh I J R Q) (hp : plainFor M.1 = true) (hn : As.length ≤ M.2.2.1) (hc : ∀ w ∈ As, w.category = 1) (hok : zv_oks sh As) (l : Launch) (adr : Nat → Nat) : Met l M.1 (zv_ws M) (zv_rm d kc ks) (zv_Pm E As sh I J R adr) (zv_Qm E sh adr Q) kc ks (zv_A E) := by
  refine va_MetF (cc := M.2.1) (maxL := M.2.2.1) (ret := M.2.2.2) hp rfl ?_
  intro p e s m args below meth c s₁ B hml hv
  obtain ⟨rfl, hH, hT⟩ := hv
  have hts := atoms_spec (ws := zv_ws M) B.pre
  have hlocks := B.notSynchronized
  have hcm : ∀ w ∈ As.map (zv_v adr), w.category = 1 := by
    intro w hw
    obtain ⟨x, hx, rfl⟩ := List.mem_map.mp hw
    rw [zv_v_cat]
    exact hc x hx
  have hl := lv_entry (As.map (zv_v adr)) (n := M.2.2.1) (by rw [zv_lg _ hcm, List.length_map]; exact hn)
  rw [zv_z_args _ 0 hcm] at hl
  rw [lg_entry_eq]
  refine h p l e _ s m _ below meth c _ kc ks sh adr ⟨B.exec, B.bytes, hml, findClass_of_methodNamed B.named, fun w hw => hts w (List.mem_cons_of_mem _ hw), fun hi => ?_, hT, Nat.le_refl _, Nat.le_refl _, Nat.le_refl _, Nat.le_refl _, ?_⟩ adr s.heap [] _ 0 0 ⟨hH, ⟨hl, hcm⟩, hok, trivial, fun t ht => ⟨ht, rfl⟩, va_S.rf⟩ (by omega) (by omega)
  · rw [(name_of_methodNamed B.named B.method).1]
    exact hi
  · intro v sh' I' J' R' adr' H' locs' ls' cells' slots' pc' hq hH' hag hok' hS' hce hsl hri
    refine W.widen hce hsl ?_
    have hQ : ∀ t : State, t.heap = H' → s.WarmedH t.vm → zv_Qm E sh adr Q (As.map (zv_v adr)).toArray s (.returned (v.map (zv_v adr'))) t := fun t ht hW =>
      ⟨v, sh', I', J', R', adr', rfl, hq, by rw [ht]; exact hH', hag, hok', hS'.F ht⟩
    cases v with
    | none => exact W.vret B.exec B.bytes (by rw [B.returns]; exact hri.2) hQ hS'.2.2 hri.1
    | some v =>
      cases v with
      | int x =>
        obtain ⟨hd, ty, ht, hn⟩ := hri
        exact W.zret (ty := ty) B.exec B.bytes (by rw [B.returns]; exact ht) hn hQ hS'.2.2 hd
      | ref t =>
        obtain ⟨hd, ty, ht, hn⟩ := hri
        exact W.aret (rt := ty) B.exec B.bytes (by rw [B.returns]; exact ht) hn (Or.inr ⟨_, rfl⟩) hQ hS'.2.2 hd
      | null =>
        obtain ⟨hd, ty, ht, hn⟩ := hri
        exact W.aret (rt := ty) B.exec B.bytes (by rw [B.returns]; exact ht) hn (Or.inl rfl) hQ hS'.2.2 hd
      | _ => exact hri.elim
/-- behind a call -/
theorem zv_after {p : Program} {l : Launch} {e : Env} {Rm : Room} {s : State} {m : MethodId} {args : Array Value} {below : List Frame} {meth : Method} {c : Code} {Z : State → Prop} {mc ms : Nat} {sh0 : zv_S} {adr0 adr : Nat → Nat} {H : Heap} {locs : List Loc} {ls : Array Slot} {cells slots kc1 ks1 : Nat} {a : Array Value} {st0 st1 : List Value} {Q1 : zv_Q}
    (C : zv_C E M d mc ms sh0 adr0 Q p l e Rm s m args below meth c Z) (P : zv_P E M lv st1 sh I J R sh0 adr0 adr H s.heap locs ls) (hst : zv_oks sh st) (h1 : cells + (kc1 + kc) ≤ mc) (h2 : slots + (ks1 + ks) ≤ ms)
    (hr : va_Run p l e Rm s m args below meth c H locs cells slots kc1 ks1 (F0 m pc ls st0) (st.map (zv_v adr)) (zv_Qm E sh adr Q1 a) (zv_A E))
    (k : ∀ v sh' I' J' R', Q1 v sh' I' J' R' → zv_V E M d kc ks (pc + 3) lv (v.toList ++ st) sh' I' J' R' Q) : W p l e Rm s m args below meth c H locs cells slots Z (F0 m pc ls st0) := by
  intro T hT X
  obtain ⟨v, st₀, t, T', L, h0, X', hL, e1, e2, ⟨v', sh', I', J', R', adr', hv, hQ, hH', hag, hok, hz, hk⟩, go⟩ := hr T hT X
  have hv : v = v'.map (zv_v adr') := by cases hv; rfl
  subst hv
  rw [h0] at hz hk
  have hS := P.2.2.2.2.2
  have hS' : va_S (zv_A E) s.heap T'.heap (locs ++ L) := ⟨Nat.le_trans hS.1 (by rw [e1]; exact hz), fun q g1 g2 => by rw [e1, hk q (Nat.lt_of_lt_of_le g1 hS.1) g2]; exact hS.2.1 q g1 g2, fun q hq => by
      rcases List.mem_append.mp hq with g | g
      · exact hS.2.2 q g
      · exact hL q g⟩
  have hx : ∀ q, (q < 3 ∨ (sh q).isSome = true) → adr' q = adr q := by
    intro q hq
    rcases hq with hq | hq
    · rw [(hH'.2.2.2 q hq).2, (P.1.2.2.2 q hq).2]
    · exact (hag q hq).2
  have hm : ∀ q, (sh q).isSome = true → (sh' q).isSome = true := fun q hq => (hag q hq).1
  have P' : zv_P E M lv (v'.toList ++ st) sh' I' J' R' sh0 adr0 adr' T'.heap s.heap (locs ++ L) ls := by
    refine ⟨by rw [e1]; exact hH', by rw [zv_v_ext hx P.2.2.1]; exact P.2.1, zv_oks_mono hm P.2.2.1, zv_oks_app ?_ (zv_oks_mono hm hst), fun q hq => ?_, hS'⟩
    · cases v' with
      | none => trivial
      | some x => exact ⟨hok x rfl, trivial⟩
    · obtain ⟨g1, g2⟩ := P.2.2.2.2.1 q hq
      exact ⟨hm q g1, by rw [hx q (Or.inr g1)]; exact g2⟩
  obtain ⟨t2, a1, b1⟩ := k v' sh' I' J' R' hQ p l e Rm s m args below meth c Z mc ms sh0 adr0 C adr' T'.heap (locs ++ L) ls (cells + kc1) (slots + ks1) P' (by omega) (by omega) T' rfl X'
  refine ⟨t2, go t2 ?_, b1⟩
  have e3 : (v'.toList ++ st).map (zv_v adr') = (v'.map (zv_v adr')).toList ++ st.map (zv_v adr) := by
    rw [List.map_append, zv_v_ext hx hst]
    cases v' <;> rfl
  rw [e3] at a1
  exact a1
theorem zv_good : GoodIn zv_gw zv_gw := fun w hw => ⟨hw, good_of_word (List.mem_filter.mp hw).2⟩
theorem zv_good1 {ws : List Cond} (h : ∀ w ∈ ws, w ∈ zv_gw) : GoodIn zv_gw ws := fun w hw => ⟨h w hw, good_of_word (List.mem_filter.mp (h w hw)).2⟩
/-- what the tables must say of a callee: its code, and that its class can be used -/
def zv_ML (M1 : zv_M) (n : Nat) : Prop := Cond.code M1.1 M1.2.1 M1.2.2.1 M1.2.2.2 ∈ zv_gw ∧ Cond.initialized M1.1.cls ∈ zv_gw ∧ plainFor M1.1 = true ∧ M1.2.2.1 ≤ 21 ∧ M1.1.cls ≠ "java/lang/invoke/MethodHandle" ∧ M1.1.cls ≠ "java/lang/invoke/VarHandle" ∧ (parseMethodDescriptor M1.1.desc).map (fun d => d.parameters.length) = some n
theorem zv_goodw {M1 : zv_M} {n : Nat} (h : zv_ML M1 n) : GoodIn zv_gw (zv_ws M1) := zv_good1 fun w hw => (List.mem_cons.mp hw).elim (fun e => e ▸ h.1) id
theorem zv_callV {M1 : zv_M} {idx b c n kc1 ks1 : Nat} {As : List Value} {Q1 : zv_Q} {q : vw_C} (hd : decode M.2.1 pc = .ok (.invokevirtual idx, 3)) (hm : zv_ML M1 As.length) (hlk : (Cond.methodLink M.1.cls idx M1.1 ∈ zv_gw) ∨ ∃ host, Cond.methodLinkNest M.1.cls idx M1.1 host ∈ zv_nw) (hin : Cond.instanceMethod M1.1 ∈ zv_gw) (hse : Cond.selects M1.1.cls M1.1 M1.1 ∈ zv_gw)
    (hs : sh b = some (10 + c, n)) (hc : zv_cl[c]? = some q) (hq : q.1 = M1.1.cls) (hA : As.length + 1 ≤ M1.2.2.1) (hcat : ∀ w ∈ As, w.category = 1) (hst : (st.map fun v => v.category).sum ≤ 8)
    (hV : zv_V E M1 d kc1 ks1 0 (.ref b :: As) [] sh I J R Q1) (k : ∀ v sh' I' J' R', Q1 v sh' I' J' R' → zv_V E M (d + 1) kc ks (pc + 3) lv (v.toList ++ st) sh' I' J' R' Q) : zv_V E M (d + 1) (kc1 + kc) (ks1 + ks) pc lv (As.reverse ++ .ref b :: st) sh I J R Q := by
  intro p l e Rm s m args below meth c' Z mc ms sh0 adr0 C adr H locs ls cells slots P h1 h2
  obtain ⟨c1, c2, c3, c4, c5, c6, c7, c8, c9, c10, c11, c12⟩ := id C
  have hoks := P.2.2.2.1
  have hokA : zv_oks sh As := zv_oks_mem fun v hv => zv_oks_all hoks v (List.mem_append_left _ (List.mem_reverse.mpr hv))
  have hokb : zv_ok sh (.ref b) := zv_oks_all hoks _ (List.mem_append_right _ List.mem_cons_self)
  have hokr : zv_oks sh st := zv_oks_mem fun v hv => zv_oks_all hoks v (List.mem_append_right _ (List.mem_cons_of_mem _ hv))
  have hmet := zv_met (As := .ref b :: As) hV hm.2.2.1 hA (fun w hw => (List.mem_cons.mp hw).elim (fun e => by rw [e]; rfl) (hcat w)) ⟨hokb, hokA⟩ l adr
  have hG := zv_goodw hm
  have hlo : 8 + (M1.2.2.1 + 11) + 40 * d ≤ Rm.locals := by have := hm.2.2.2.1; omega
  have hstk : (As.reverse ++ .ref b :: st).map (zv_v adr) = (As.map (zv_v adr)).reverse ++ .ref (adr b) :: st.map (zv_v adr) := by
    rw [List.map_append, List.map_reverse]
    rfl
  rw [hstk]
  have hpre : PreV s H M1.1.cls (adr b) (zv_Pm E (.ref b :: As) sh I J R adr) (As.map (zv_v adr)) := ⟨zv_pm_blind, by rw [← hq]; exact zv_recv P.1 c7 hs hc, fun U hU hW => ⟨rfl, by rw [hU]; exact P.1, zv_T_warm c7 hW P.2.2.2.2.2 hU⟩⟩
  have hcs : 2 * (F0 m pc ls ((As.map (zv_v adr)).reverse ++ .ref (adr b) :: st.map (zv_v adr))).monitorRoom + ((st.map (zv_v adr)).map fun v => v.category).sum ≤ 8 := lv_room (by rw [zv_cats]; exact hst)
  rcases hlk with hl | ⟨host, hl⟩
  · refine zv_after C P hokr h1 h2 (va_runV (nL := M.2.2.1) (n := As.length) (index := idx) ⟨c1, c2, c3, c4, c5⟩ hmet ⟨⟨rfl, rfl, by show d + 1 ≤ _; omega, hlo, pay_in c5 hG, List.mem_cons_self, c5 _ hm.1, c5 _ hm.2.1, ⟨hm.2.2.2.2.1, hm.2.2.2.2.2.1⟩, fun sig hsig => ?_, c5 _ hl⟩, c5 _ hin, c5 _ hse⟩ hpre rfl (by rw [List.length_map]) P.2.1.1.1 rfl hcs hd ⟨by omega, by omega⟩) k
    have h3 := hm.2.2.2.2.2.2
    rw [hsig] at h3
    exact (Option.some.inj h3).symm
  · refine zv_after C P hokr h1 h2 (va_runVN (nL := M.2.2.1) (n := As.length) (index := idx) (host := host) ⟨c1, c2, c3, c4, c5⟩ hmet ⟨⟨⟨rfl, rfl, by show d + 1 ≤ _; omega, hlo, pay_in c5 hG, List.mem_cons_self⟩, c5 _ hm.1, c5 _ hm.2.1, ⟨hm.2.2.2.2.1, hm.2.2.2.2.2.1⟩, fun sig hsig => ?_, va_Nw.use rfl (c7.2.1 _ hl)⟩, c5 _ hin, c5 _ hse⟩ hpre rfl (by rw [List.length_map]) P.2.1.1.1 rfl hcs hd ⟨by omega, by omega⟩) k
    have h3 := hm.2.2.2.2.2.2
    rw [hsig] at h3
    exact (Option.some.inj h3).symm
theorem zv_callS {M1 : zv_M} {idx kc1 ks1 : Nat} {As : List Value} {Q1 : zv_Q} (hd : decode M.2.1 pc = .ok (.invokestatic idx, 3)) (hm : zv_ML M1 As.length) (hlk : (Cond.methodLink M.1.cls idx M1.1 ∈ zv_gw) ∨ ∃ host, Cond.methodLinkNest M.1.cls idx M1.1 host ∈ zv_nw) (hin : Cond.static M1.1 ∈ zv_gw)
    (hA : As.length ≤ M1.2.2.1) (hcat : ∀ w ∈ As, w.category = 1) (hst : (st.map fun v => v.category).sum ≤ 8)
    (hV : zv_V E M1 d kc1 ks1 0 As [] sh I J R Q1) (k : ∀ v sh' I' J' R', Q1 v sh' I' J' R' → zv_V E M (d + 1) kc ks (pc + 3) lv (v.toList ++ st) sh' I' J' R' Q) : zv_V E M (d + 1) (kc1 + kc) (ks1 + ks) pc lv (As.reverse ++ st) sh I J R Q := by
  intro p l e Rm s m args below meth c' Z mc ms sh0 adr0 C adr H locs ls cells slots P h1 h2
  obtain ⟨c1, c2, c3, c4, c5, c6, c7, c8, c9, c10, c11, c12⟩ := id C
  have hoks := P.2.2.2.1
  have hokA : zv_oks sh As := zv_oks_mem fun v hv => zv_oks_all hoks v (List.mem_append_left _ (List.mem_reverse.mpr hv))
  have hokr : zv_oks sh st := zv_oks_mem fun v hv => zv_oks_all hoks v (List.mem_append_right _ hv)
  have hmet := zv_met (As := As) hV hm.2.2.1 hA hcat hokA l adr
  have hG := zv_goodw hm
  have hlo : 8 + (M1.2.2.1 + 11) + 40 * d ≤ Rm.locals := by have := hm.2.2.2.1; omega
  have hstk : (As.reverse ++ st).map (zv_v adr) = (As.map (zv_v adr)).reverse ++ st.map (zv_v adr) := by
    rw [List.map_append, List.map_reverse]
  rw [hstk]
  have hpre : PreS s H (zv_Pm E As sh I J R adr) (As.map (zv_v adr)) := ⟨zv_pm_blind, fun U hU hW => ⟨rfl, by rw [hU]; exact P.1, zv_T_warm c7 hW P.2.2.2.2.2 hU⟩⟩
  have hcs : 2 * (F0 m pc ls ((As.map (zv_v adr)).reverse ++ st.map (zv_v adr))).monitorRoom + ((st.map (zv_v adr)).map fun v => v.category).sum ≤ 8 := lv_room (by rw [zv_cats]; exact hst)
  rcases hlk with hl | ⟨host, hl⟩
  · refine zv_after C P hokr h1 h2 (va_runS (nL := M.2.2.1) (n := As.length) (index := idx) ⟨c1, c2, c3, c4, c5⟩ hmet ⟨⟨rfl, rfl, by show d + 1 ≤ _; omega, hlo, pay_in c5 hG, List.mem_cons_self, c5 _ hm.1, c5 _ hm.2.1, ⟨hm.2.2.2.2.1, hm.2.2.2.2.2.1⟩, fun sig hsig => ?_, c5 _ hl⟩, c5 _ hin⟩ hpre rfl (by rw [List.length_map]) P.2.1.1.1 rfl hcs hd ⟨by omega, by omega⟩) k
    have h3 := hm.2.2.2.2.2.2
    rw [hsig] at h3
    exact (Option.some.inj h3).symm
  · refine zv_after C P hokr h1 h2 (va_runSN (nL := M.2.2.1) (n := As.length) (index := idx) (host := host) ⟨c1, c2, c3, c4, c5⟩ hmet ⟨⟨⟨rfl, rfl, by show d + 1 ≤ _; omega, hlo, pay_in c5 hG, List.mem_cons_self⟩, c5 _ hm.1, c5 _ hm.2.1, ⟨hm.2.2.2.2.1, hm.2.2.2.2.2.1⟩, fun sig hsig => ?_, va_Nw.use rfl (c7.2.1 _ hl)⟩, c5 _ hin, trivial⟩ hpre rfl (by rw [List.length_map]) P.2.1.1.1 rfl hcs hd ⟨by omega, by omega⟩) k
    have h3 := hm.2.2.2.2.2.2
    rw [hsig] at h3
    exact (Option.some.inj h3).symm
theorem zv_callI {M1 : zv_M} {idx b kc1 ks1 : Nat} {As : List Value} {Q1 : zv_Q} (hd : decode M.2.1 pc = .ok (.invokespecial idx, 3)) (hm : zv_ML M1 As.length) (hret : M1.2.2.2 = none) (hnm : M1.1.name = "<init>") (hlk : (Cond.methodLink M.1.cls idx M1.1 ∈ zv_gw) ∨ ∃ host, Cond.methodLinkNest M.1.cls idx M1.1 host ∈ zv_nw) (hin : Cond.instanceMethod M1.1 ∈ zv_gw)
    (hA : As.length + 1 ≤ M1.2.2.1) (hcat : ∀ w ∈ As, w.category = 1) (hst : (st.map fun v => v.category).sum ≤ 8)
    (hV : zv_V E M1 d kc1 ks1 0 (.ref b :: As) [] sh I J R Q1) (k : ∀ v sh' I' J' R', Q1 v sh' I' J' R' → zv_V E M (d + 1) kc ks (pc + 3) lv (v.toList ++ st) sh' I' J' R' Q) : zv_V E M (d + 1) (kc1 + kc) (ks1 + ks) pc lv (As.reverse ++ .ref b :: st) sh I J R Q := by
  intro p l e Rm s m args below meth c' Z mc ms sh0 adr0 C adr H locs ls cells slots P h1 h2
  obtain ⟨c1, c2, c3, c4, c5, c6, c7, c8, c9, c10, c11, c12⟩ := id C
  have hoks := P.2.2.2.1
  have hokA : zv_oks sh As := zv_oks_mem fun v hv => zv_oks_all hoks v (List.mem_append_left _ (List.mem_reverse.mpr hv))
  have hokb : zv_ok sh (.ref b) := zv_oks_all hoks _ (List.mem_append_right _ List.mem_cons_self)
  have hokr : zv_oks sh st := zv_oks_mem fun v hv => zv_oks_all hoks v (List.mem_append_right _ (List.mem_cons_of_mem _ hv))
  have hmet := zv_met (As := .ref b :: As) hV hm.2.2.1 hA (fun w hw => (List.mem_cons.mp hw).elim (fun e => by rw [e]; rfl) (hcat w)) ⟨hokb, hokA⟩ l adr
  have hG := zv_goodw hm
  have hlo : 8 + (M1.2.2.1 + 11) + 40 * d ≤ Rm.locals := by have := hm.2.2.2.1; omega
  have hstk : (As.reverse ++ .ref b :: st).map (zv_v adr) = (As.map (zv_v adr)).reverse ++ .ref (adr b) :: st.map (zv_v adr) := by
    rw [List.map_append, List.map_reverse]
    rfl
  rw [hstk]
  have hpre : PreS s H (zv_Pm E (.ref b :: As) sh I J R adr) (.ref (adr b) :: As.map (zv_v adr)) := ⟨zv_pm_blind, fun U hU hW => ⟨rfl, by rw [hU]; exact P.1, zv_T_warm c7 hW P.2.2.2.2.2 hU⟩⟩
  have hcs : 2 * (F0 m pc ls ((As.map (zv_v adr)).reverse ++ .ref (adr b) :: st.map (zv_v adr))).monitorRoom + ((st.map (zv_v adr)).map fun v => v.category).sum ≤ 8 := lv_room (by rw [zv_cats]; exact hst)
  have hmc : Cond.code M1.1 M1.2.1 M1.2.2.1 none ∈ zv_gw := by rw [← hret]; exact hm.1
  have hmw : Cond.code M1.1 M1.2.1 M1.2.2.1 none ∈ zv_ws M1 := by rw [← hret]; exact List.mem_cons_self
  rcases hlk with hl | ⟨host, hl⟩
  · refine zv_after C P hokr h1 h2 (va_runI (nL := M.2.2.1) (n := As.length) (index := idx) ⟨c1, c2, c3, c4, c5⟩ hmet ⟨⟨rfl, rfl, by show d + 1 ≤ _; omega, hlo, pay_in c5 hG, hmw, c5 _ hmc, c5 _ hm.2.1, ⟨hm.2.2.2.2.1, hm.2.2.2.2.2.1⟩, fun sig hsig => ?_, c5 _ hl⟩, hnm, c5 _ hin⟩ hpre rfl (by rw [List.length_map]) P.2.1.1.1 rfl hcs hd ⟨by omega, by omega⟩) k
    have h3 := hm.2.2.2.2.2.2
    rw [hsig] at h3
    exact (Option.some.inj h3).symm
  · refine zv_after C P hokr h1 h2 (va_runIN (nL := M.2.2.1) (n := As.length) (index := idx) (host := host) ⟨c1, c2, c3, c4, c5⟩ hmet ⟨⟨⟨rfl, rfl, by show d + 1 ≤ _; omega, hlo, pay_in c5 hG, hmw⟩, c5 _ hmc, c5 _ hm.2.1, ⟨hm.2.2.2.2.1, hm.2.2.2.2.2.1⟩, fun sig hsig => ?_, va_Nw.use rfl (c7.2.1 _ hl)⟩, hnm, c5 _ hin⟩ hpre rfl (by rw [List.length_map]) P.2.1.1.1 rfl hcs hd ⟨by omega, by omega⟩) k
    have h3 := hm.2.2.2.2.2.2
    rw [hsig] at h3
    exact (Option.some.inj h3).symm
theorem zv_objI {idx b : Nat} (hd : decode M.2.1 pc = .ok (.invokespecial idx, 3)) (hl : Cond.methodLink M.1.cls idx objectInit ∈ zv_gw) (hin : Cond.instanceMethod objectInit ∈ zv_gw) (hco : Cond.code objectInit ⟨#[0xb1]⟩ 1 none ∈ zv_gw) (hdd : 1 ≤ d) (hcat : (st.map fun v => v.category).sum + 12 ≤ 40) (k : zv_V E M d kc ks (pc + 3) lv st sh I J R Q) : zv_V E M d kc ks pc lv (.ref b :: st) sh I J R Q := by
  intro p l e Rm s m args below meth c' Z mc ms sh0 adr0 C adr H locs ls cells slots P h1 h2
  obtain ⟨c1, c2, c3, c4, c5, c6, c7, c8, c9, c10, c11, c12⟩ := id C
  exact W.objInit c1 c2 c4 (c5 _ hl) (c5 _ hin) (c5 _ hco) rfl (by rw [c3]; exact P.2.1.1.1) rfl hd (by omega) (by
    have h0 : (F0 m pc ls (.ref (adr b) :: st.map (zv_v adr))).monitorRoom = 0 := rfl
    show 2 * (F0 m pc ls (.ref (adr b) :: st.map (zv_v adr))).monitorRoom + _ + 12 ≤ _
    rw [h0, zv_cats]
    omega) (k p l e Rm s m args below meth c' Z mc ms sh0 adr0 C adr H locs ls cells slots ⟨P.1, P.2.1, P.2.2.1, P.2.2.2.1.2, P.2.2.2.2⟩ h1 h2)
end ZS
