def va_AOA (t : FieldType) (U : State) : Prop := (Cond.arrayOver (.array t)).before #[] U = true
theorem va_AOA.use {t : FieldType} {A : Array Value} {U : State} (h : va_AOA t U) : (Cond.arrayOver (.array t)).before A U = true := h
/-! ===== BEGIN new T[n][m]: the outer array a place, the inner ones among the pooled ===== -/
/-- f, but v at every address of l -/
def vr_up {α : Type} (f : Nat → α) (l : List Nat) (v : α) : Nat → α := fun a => if a ∈ l then v else f a
theorem vr_up_in {α : Type} {f : Nat → α} {l : List Nat} {v : α} {a : Nat} (h : a ∈ l) : vr_up f l v a = v := if_pos h
theorem vr_up_ne {α : Type} {f : Nat → α} {l : List Nat} {v : α} {a : Nat} (h : a ∉ l) : vr_up f l v a = f a := if_neg h
theorem vr_rows {L l : List Nat} {f : Nat → va_E} {e : va_E} (h : ∀ a, a ∈ l → a ∉ L) : va_pl L f ++ l.map (fun a => (a, e)) = va_pl (L ++ l) (vr_up f l e) := by
  unfold va_pl
  rw [List.map_append]
  congr 1
  · apply List.map_congr_left
    intro a ha
    rw [vr_up_ne (fun q => h a q ha)]
  · apply List.map_congr_left
    intro a ha
    rw [vr_up_in ha]
theorem vr_lay {X rows : va_W} {x : Nat × va_E} {pl : va_W} {D : va_G} {cl : List vw_C} {H : Heap} (hP : va_P D cl (((X ++ pl) ++ [x]) ++ rows) H) : va_P D cl ((X ++ [x]) ++ (pl ++ rows)) H := by
  rw [List.append_assoc (X ++ pl)] at hP
  have h := va_P.swap hP
  rw [← List.append_assoc X] at h
  have h2 := va_P.swap h
  rw [List.append_assoc (X ++ [x])] at h2
  exact h2
theorem vr_layD {X rows : va_W} {x : Nat × va_E} {pl : va_W} {A : Nat → Prop} (hD : va_D A (((X ++ pl) ++ [x]) ++ rows)) : va_D A ((X ++ [x]) ++ (pl ++ rows)) := by
  rw [List.append_assoc (X ++ pl)] at hD
  have h := va_D.swap hD
  rw [← List.append_assoc X] at h
  have h2 := va_D.swap h
  rw [List.append_assoc (X ++ [x])] at h2
  exact h2
theorem vr_outer (c : ClassId) (N h0 : Nat) : ∀ i : Nat, Jvm.Free.Multi.outerC c N h0 i = arrV c N (fun j => va_rf (if j < i then some (h0 + 1 + j) else none))
  | 0 => by
    show ({ cls := c, slots := Array.replicate N .null, vm := .none } : Cell) = _
    rw [arrV_new]
    refine congrArg (arrV c N) (funext fun j => ?_)
    simp [va_rf]
  | i + 1 => by
    show (Jvm.Free.Multi.outerC c N h0 i).setSlot i (.ref (h0 + 1 + i)) = _
    rw [vr_outer c N h0 i, arrV_store]
    refine congrArg (arrV c N) (funext fun j => ?_)
    by_cases e : j = i
    · subst e
      simp [updV, va_rf]
    · by_cases h : j < i
      · simp [updV, e, h, Nat.lt_succ_of_lt h]
      · simp [updV, e, h, show ¬ j < i + 1 by omega]
section VGM
variable {p : Program} {l : Launch} {e : Env} {R : Room} {s : State} {m : MethodId} {args : Array Value} {below : List Frame} {meth : Method} {c : Code} {H : Heap} {locs : List Loc} {cells slots : Nat} {Q : State → Prop}
variable {cc : ByteArray} {pc : Nat} {ls : Array Slot} {rest : List Value} {D : va_G} {cl : List vw_C} {A : Nat → Prop} {a : Nat} {tys : List (ClassId × FieldType)} {ws : va_W} {H0 : Heap}
theorem va_mna {X : va_W} {L : List Nat} {f : Nat → va_E} {cc : ByteArray} (hexec : p.tables.exec = Jvm.exec) (hb : c.code = cc) {own : String} {index : Nat} {ty : FieldType} {cy : ClassId} (hown : s.vm.findClass own = some m.cls) (hclink : (Cond.classLink own index ("[" ++ (FieldType.array ty).toString)).before args s = true) (hover : va_AOA ty s) (harr : (Cond.arrayClass ty).before args s = true) (hcy : s.vm.findClass (FieldType.array ty).toString = some cy)
    (hK : va_K D cl tys s) (hP : va_P D cl (X ++ va_pl L f) H) (hD : va_D A (X ++ va_pl L f)) (hS : va_S A H0 H locs) (hA : ∀ q, H0.size ≤ q → A q) {n k : Int32} {N' K' : Nat} {z : vp_A} (hn : ¬ n < 0) (hk : ¬ k < 0) (hN : n.toNatClampNeg = N') (hM : k.toNatClampNeg = K')
    (hb1 : N' * 4 ≤ 536870912) (hb2 : K' * componentBytes ty ≤ 536870912) (hb3 : K' ≤ 536870912) (hdf : fits ty (defaultValue ty) = true) (hdd : (defaultValue ty).isDefault = true) (hcells : cells + (1 + N') ≤ R.cells) (hslots : slots + (N' + N' * K') ≤ R.slots) (hz : ∀ c : ClassId, Jvm.Free.Multi.innerC c K' (defaultValue ty) = vp_cell c z) (hdg : decode cc pc = .ok (.multianewarray index 2, 4))
    (kk : ∀ (q : Nat) (r : Nat → Nat) (cA : ClassId) (H1 : Heap), (∀ i j : Nat, i < N' → j < N' → r i = r j → i = j) → (∀ i : Nat, i < N' → r i ∉ L) → va_K D cl (tys ++ [(cA, .array ty)]) s →
      va_P D cl ((X ++ [(q, .inl (cA, N', .inr (.inr (.inr (.inr (fun i => if i < N' then some (r i) else none))))))]) ++ va_pl (L ++ (List.range N').map r) (vr_up f ((List.range N').map r) (.inl (cy, z)))) H1 → va_D A ((X ++ [(q, .inl (cA, N', .inr (.inr (.inr (.inr (fun i => if i < N' then some (r i) else none))))))]) ++ va_pl (L ++ (List.range N').map r) (vr_up f ((List.range N').map r) (.inl (cy, z)))) → va_S A H0 H1 locs →
      W p l e R s m args below meth c H1 locs (cells + 1 + N') (slots + N' + N' * K') Q (F0 m (pc + 4) ls (.ref q :: rest))) : W p l e R s m args below meth c H locs cells slots Q (F0 m pc ls (.int k :: .int n :: rest)) := by
  subst hN
  subst hM
  intro T hT Xs
  obtain ⟨vm₁, cA, comp, -, fA, fC, hO, -, X', step⟩ := Xs.multianewarray2F hexec hown hclink (va_AOA.use hover) harr (g := F0 m pc ls (.int k :: .int n :: rest)) rfl (by rw [hb]; exact hdg) rfl hn hk hb1 hb2 hb3 hdf hdd hcells hslots
  have ec : some cy = some comp := hcy.symm.trans fC
  cases ec
  generalize hF : Jvm.Free.Multi.fill (T.setVm vm₁) cA cy n.toNatClampNeg k.toNatClampNeg (defaultValue ty) n.toNatClampNeg = F at X' step
  have hTh : (T.setVm vm₁).heap = H := hT
  obtain ⟨f1, f2, -, -⟩ := Jvm.Free.Multi.fill_facts (T.setVm vm₁) cA cy n.toNatClampNeg k.toNatClampNeg (defaultValue ty) n.toNatClampNeg
  rw [hF, hTh] at f1 f2
  have hold : ∀ x : Nat, x < H.size → F.heap[x]? = H[x]? := fun x hx => by
    have := Jvm.Free.Multi.fill_old (T.setVm vm₁) cA cy n.toNatClampNeg k.toNatClampNeg (defaultValue ty) (a := x) (by rw [hTh]; exact hx) n.toNatClampNeg
    rw [hF, hTh] at this
    exact this
  have hrow : ∀ j : Nat, j < n.toNatClampNeg → F.heap[H.size + 1 + j]? = some (vp_cell cy z) := fun j hj => by
    have := Jvm.Free.Multi.fill_inner (T.setVm vm₁) cA cy n.toNatClampNeg k.toNatClampNeg (defaultValue ty) n.toNatClampNeg j hj
    rw [hF, hTh, hz] at this
    exact this
  have hout : Jvm.Free.Multi.outerC cA n.toNatClampNeg H.size n.toNatClampNeg = vp_cell cA (n.toNatClampNeg, .inr (.inr (.inr (.inr (fun i => if i < n.toNatClampNeg then some (H.size + 1 + i) else none))))) := by
    rw [vp_cell_q]
    exact vr_outer cA n.toNatClampNeg H.size n.toNatClampNeg
  rw [hout] at f2
  have hlt : ∀ a, a ∈ L → a < H.size := fun a ha => by
    obtain ⟨k9, hk9⟩ := va_pl_get (X := X) (f := f) ha
    exact (hP k9 _ hk9).lt
  have hnl : ∀ i : Nat, i < n.toNatClampNeg → H.size + 1 + i ∉ L := fun i _ h => by
    have := hlt _ h
    omega
  have hnm : ∀ a, a ∈ (List.range n.toNatClampNeg).map (fun i => H.size + 1 + i) → a ∉ L := fun a ha h => by
    obtain ⟨i, -, rfl⟩ := List.mem_map.mp ha
    have := hlt _ h
    omega
  have hP0 : va_P D cl (X ++ va_pl L f) F.heap := hP.kept (fun k9 x hx => hold x.1 ((hP k9 x hx).lt))
  have hP1 : va_P D cl ((X ++ va_pl L f) ++ [(H.size, .inl (cA, n.toNatClampNeg, .inr (.inr (.inr (.inr (fun i => if i < n.toNatClampNeg then some (H.size + 1 + i) else none))))))]) F.heap := hP0.app (fun k9 x hx => by
    have h0 : k9 < 1 := (List.getElem?_eq_some_iff.mp hx).1
    rw [show k9 = 0 by omega] at hx
    cases hx
    exact f2)
  have hP2 : va_P D cl (((X ++ va_pl L f) ++ [(H.size, .inl (cA, n.toNatClampNeg, .inr (.inr (.inr (.inr (fun i => if i < n.toNatClampNeg then some (H.size + 1 + i) else none))))))]) ++ ((List.range n.toNatClampNeg).map (fun i => H.size + 1 + i)).map (fun a => (a, .inl (cy, z)))) F.heap := hP1.app (fun k9 x hx => by
    obtain ⟨a, ha, rfl⟩ := List.mem_map.mp (List.mem_of_getElem? hx)
    obtain ⟨i, hi, rfl⟩ := List.mem_map.mp ha
    exact hrow i (List.mem_range.mp hi))
  have hD2 : va_D A (((X ++ va_pl L f) ++ [(H.size, .inl (cA, n.toNatClampNeg, .inr (.inr (.inr (.inr (fun i => if i < n.toNatClampNeg then some (H.size + 1 + i) else none))))))]) ++ ((List.range n.toNatClampNeg).map (fun i => H.size + 1 + i)).map (fun a => (a, .inl (cy, z)))) := by
    have hD1 := hD.push (e := .inl (cA, n.toNatClampNeg, .inr (.inr (.inr (.inr (fun i => if i < n.toNatClampNeg then some (H.size + 1 + i) else none)))))) hP rfl (hA _ hS.1)
    generalize hW1 : (X ++ va_pl L f) ++ [(H.size, .inl (cA, n.toNatClampNeg, .inr (.inr (.inr (.inr (fun i => if i < n.toNatClampNeg then some (H.size + 1 + i) else none))))))] = W1 at hD1 hP1 ⊢
    have hle : ∀ (k9 : Nat) (x : Nat × va_E), W1[k9]? = some x → x.1 ≤ H.size := fun k9 x hx => by
      rw [← hW1] at hx
      by_cases hl : k9 < (X ++ va_pl L f).length
      · rw [List.getElem?_append_left hl] at hx
        exact Nat.le_of_lt ((hP k9 x hx).lt)
      · rw [List.getElem?_append_right (by omega)] at hx
        have h0 : k9 - (X ++ va_pl L f).length < 1 := (List.getElem?_eq_some_iff.mp hx).1
        rw [show k9 - (X ++ va_pl L f).length = 0 by omega] at hx
        cases hx
        exact Nat.le_refl _
    have hr : ∀ (k9 : Nat) (x : Nat × va_E), (((List.range n.toNatClampNeg).map (fun i => H.size + 1 + i)).map (fun a => ((a, .inl (cy, z)) : Nat × va_E)))[k9]? = some x → x.1 = H.size + 1 + k9 := fun k9 x hx => by
      rw [List.getElem?_map, List.getElem?_map] at hx
      by_cases h9 : k9 < n.toNatClampNeg
      · rw [List.getElem?_range h9] at hx
        cases hx
        rfl
      · have hn0 : (List.range n.toNatClampNeg)[k9]? = none := List.getElem?_eq_none (by rw [List.length_range]; omega)
        rw [hn0] at hx
        cases hx
    refine ⟨fun i j x y hi hj hxy => ?_, fun k9 x hx => ?_⟩
    · by_cases h1 : i < W1.length <;> by_cases h2 : j < W1.length
      · rw [List.getElem?_append_left h1] at hi
        rw [List.getElem?_append_left h2] at hj
        exact hD1.1 i j x y hi hj hxy
      · rw [List.getElem?_append_left h1] at hi
        rw [List.getElem?_append_right (by omega)] at hj
        have := hle _ _ hi
        have := hr _ _ hj
        omega
      · rw [List.getElem?_append_right (by omega)] at hi
        rw [List.getElem?_append_left h2] at hj
        have := hle _ _ hj
        have := hr _ _ hi
        omega
      · rw [List.getElem?_append_right (by omega)] at hi hj
        have := hr _ _ hi
        have := hr _ _ hj
        omega
    · by_cases h1 : k9 < W1.length
      · rw [List.getElem?_append_left h1] at hx
        exact hD1.2 k9 x hx
      · rw [List.getElem?_append_right (by omega)] at hx
        have := hr _ _ hx
        exact hA _ (by have := hS.1; omega)
  have hAr : ArrOfT s cA (.array ty) := fun N9 z9 => by
    obtain ⟨-, k9, hk9, cm9, hkk9⟩ := (hO 0 0 0).1
    exact ⟨(fun q hq => by cases hq), k9, hk9, cm9, hkk9⟩
  have hK2 : va_K D cl (tys ++ [(cA, .array ty)]) s := ⟨hK.1, fun k9 x hx => by
    by_cases hl : k9 < tys.length
    · rw [List.getElem?_append_left hl] at hx
      exact hK.2 k9 x hx
    · rw [List.getElem?_append_right (by omega)] at hx
      have h0 : k9 - tys.length < 1 := (List.getElem?_eq_some_iff.mp hx).1
      rw [show k9 - tys.length = 0 by omega] at hx
      cases hx
      exact ⟨hAr, fA⟩⟩
  obtain ⟨t, a1, b1⟩ := kk H.size (fun i => H.size + 1 + i) cA F.heap (fun i j _ _ h => by have h9 : H.size + 1 + i = H.size + 1 + j := h; omega) hnl hK2 (by rw [← vr_rows hnm]; exact vr_lay hP2) (by rw [← vr_rows hnm]; exact vr_layD hD2) ⟨by rw [f1]; have := hS.1; omega, fun x h1 h2 => (hold x (Nat.lt_of_lt_of_le h1 hS.1)).trans (hS.2.1 x h1 h2), hS.2.2⟩ F rfl X'
  refine ⟨t, step t ?_, b1⟩
  have e : T.heap.size = H.size := by rw [hT]
  rw [e]
  exact a1
end VGM
/-! ===== END ===== -/
/-! new int[n][k]: the outer row at tag t, its rows at t + 1 .. t + n -/
def zv_mS (sh : zv_S) (t N K : Nat) : zv_S := fun a => if a = t then some (3, N) else if t < a ∧ a ≤ t + N then some (0, K) else sh a
def zv_m0 {α : Type} (f : Nat → Nat → α) (t N : Nat) (z : α) : Nat → Nat → α := fun a => if t ≤ a ∧ a ≤ t + N then (fun _ => z) else f a
def zv_mR (R : zv_R) (t N : Nat) : zv_R := fun a => if a = t then (fun j => if j < N then some (t + 1 + j) else none) else if t < a ∧ a ≤ t + N then (fun _ => none) else R a
def zv_mA (adr : Nat → Nat) (t N q : Nat) (r : Nat → Nat) : Nat → Nat := fun a => if a = t then q else if t < a ∧ a ≤ t + N then r (a - t - 1) else adr a
section ZM
variable {E : zv_E} {M : zv_M} {d kc ks pc : Nat} {lv st : List Value} {sh : zv_S} {I : zv_I} {J : zv_J} {R : zv_R} {Q : zv_Q}
theorem zv_mna {idx t N K : Nat} {n k' : Int32} (hd : decode M.2.1 pc = .ok (.multianewarray idx 2, 4)) (hl : Cond.classLink M.1.cls idx "[[I" ∈ zv_gw) (hac : Cond.arrayClass .int ∈ zv_gw) (hn : n = nI N) (hk : k' = nI K) (hN : N < 2 ^ 16) (hK : K < 2 ^ 16) (ht : ∀ a, t ≤ a → a ≤ t + N → sh a = none) (h3 : 3 ≤ t)
    (k : zv_V E M d kc ks (pc + 4) lv (.ref t :: st) (zv_mS sh t N K) (zv_m0 I t N 0) (zv_m0 J t N 0) (zv_mR R t N) Q) : zv_V E M d (kc + (1 + N)) (ks + (N + N * K)) pc lv (.int k' :: .int n :: st) sh I J R Q := by
  intro p l e Rm s m args below meth c' Z mc ms sh0 adr0 C adr H locs ls cells slots P h1 h2
  obtain ⟨⟨ws, hw, hP, hD⟩, hinj, hcl, hro⟩ := P.1
  obtain ⟨c1, c2, c3, c4, c5, c6, c7, c8, c9, c10, c11, c12⟩ := id C
  have hA : ∀ q, s.heap.size ≤ q → zv_A E q := fun q hq => Nat.le_trans c7.2.2.2.2.2.2.2.2.2.2 hq
  have hc1 : n.toNatClampNeg = N := by rw [hn]; exact nI_clamp (by omega)
  have hc2 : k'.toNatClampNeg = K := by rw [hk]; exact nI_clamp (by omega)
  have hn1 : ¬ n < 0 := by rw [hn]; exact nI_pos (by omega)
  have hn2 : ¬ k' < 0 := by rw [hk]; exact nI_pos (by omega)
  have hlk : (Cond.classLink M.1.cls idx ("[" ++ (FieldType.array .int).toString)).before args s = true := by
    have e1 : "[" ++ (FieldType.array .int).toString = "[[I" := by decide +kernel
    rw [e1]
    exact c5 _ hl
  have hRI : va_RA s (E.2.2.1 0) .int := (c7.1.2 0 (E.2.2.1 0, .int) rfl).2
  have hcy : s.vm.findClass (FieldType.array .int).toString = some (E.2.2.1 0) := by
    have e1 : (FieldType.array .int).toString = "[I" := by decide +kernel
    rw [e1]
    exact va_nm_int hRI
  have hP0 : va_P E.2.1 zv_cl (ws ++ va_pl [] (fun _ => .inr (0, []))) H := by rw [show va_pl [] (fun _ => (.inr (0, []) : va_E)) = [] from rfl, List.append_nil]; exact hP
  have hD0 : va_D (zv_A E) (ws ++ va_pl [] (fun _ => .inr (0, []))) := by rw [show va_pl [] (fun _ => (.inr (0, []) : va_E)) = [] from rfl, List.append_nil]; exact hD
  refine va_mna (ty := .int) (N' := N) (K' := K) (z := (K, .inl (fun _ => 0))) c1 c2 c4 hlk c7.2.2.2.1 (c5 _ hac) hcy c7.1 hP0 hD0 P.2.2.2.2.2 hA hn1 hn2 hc1 hc2 (by omega) (by show K * 4 ≤ _; omega) (by omega) rfl rfl (by omega) (by omega) (fun c => (arrV_new c K (.int 0))) hd (fun q r cA H1 hri hrL hK1 hP1 hD1 hS1 => ?_)
  have hcA : cA = E.2.2.1 3 := by
    have h9 : va_RA s cA (.array .int) := (hK1.2 9 (cA, .array .int) (by simp [zv_tys])).2
    have h0 : va_RA s (E.2.2.1 3) (.array .int) := (c7.1.2 3 (E.2.2.1 3, .array .int) rfl).2
    have h9 : s.vm.findClass ("[" ++ (FieldType.array .int).toString) = some cA := h9
    have h0 : s.vm.findClass ("[" ++ (FieldType.array .int).toString) = some (E.2.2.1 3) := h0
    exact Option.some.inj (h9.symm.trans h0)
  subst hcA
  rw [List.nil_append] at hP1 hD1
  generalize hF : vr_up (fun _ => (.inr (0, []) : va_E)) ((List.range N).map r) (.inl (E.2.2.1 0, K, .inl (fun _ => 0))) = F at hP1 hD1
  have hFr : ∀ i, i < N → F (r i) = .inl (E.2.2.1 0, K, .inl (fun _ => 0)) := by
    intro i hi
    rw [← hF]
    exact vr_up_in (List.mem_map.mpr ⟨i, List.mem_range.mpr hi, rfl⟩)
  generalize hO : (.inl (E.2.2.1 3, N, .inr (.inr (.inr (.inr (fun i => if i < N then some (r i) else none))))) : va_E) = O at hP1 hD1
  have hposO : ((ws ++ [(q, O)]) ++ va_pl ((List.range N).map r) F)[ws.length]? = some (q, O) := by
    rw [List.getElem?_append_left (by simp), List.getElem?_append_right (Nat.le_refl _)]
    simp
  have hposR : ∀ i, i < N → ((ws ++ [(q, O)]) ++ va_pl ((List.range N).map r) F)[ws.length + 1 + i]? = some (r i, .inl (E.2.2.1 0, K, .inl (fun _ => 0))) := by
    intro i hi
    rw [List.getElem?_append_right (by rw [List.length_append]; show ws.length + 1 ≤ _; omega)]
    have e1 : ws.length + 1 + i - (ws ++ [(q, O)]).length = i := by rw [List.length_append]; show ws.length + 1 + i - (ws.length + 1) = i; omega
    rw [e1]
    unfold va_pl
    rw [List.getElem?_map, List.getElem?_map, List.getElem?_range hi]
    simp [hFr i hi]
  have hposW : ∀ (k : Nat) (x : Nat × va_E), ws[k]? = some x → ((ws ++ [(q, O)]) ++ va_pl ((List.range N).map r) F)[k]? = some x := by
    intro k x hx
    have hlt := (List.getElem?_eq_some_iff.mp hx).1
    rw [List.append_assoc, List.getElem?_append_left hlt]
    exact hx
  generalize hWS : (ws ++ [(q, O)]) ++ va_pl ((List.range N).map r) F = WS at hP1 hD1 hposO hposR hposW
  have live : ∀ a, (sh a).isSome = true → ¬ (t ≤ a ∧ a ≤ t + N) := fun a ha q => by rw [ht a q.1 q.2] at ha; cases ha
  have adrO : ∀ a, ¬ (t ≤ a ∧ a ≤ t + N) → zv_mA adr t N q r a = adr a := by
    intro a ha
    unfold zv_mA
    rw [if_neg (fun e => ha (by omega)), if_neg (fun e => ha (by omega))]
  have adrT : zv_mA adr t N q r t = q := by unfold zv_mA; rw [if_pos rfl]
  have adrR : ∀ i, i < N → zv_mA adr t N q r (t + 1 + i) = r i := by
    intro i hi
    unfold zv_mA
    rw [if_neg (by omega), if_pos (by omega)]
    congr 1
    omega
  have shO : ∀ a, ¬ (t ≤ a ∧ a ≤ t + N) → zv_mS sh t N K a = sh a := by
    intro a ha
    unfold zv_mS
    rw [if_neg (fun e => ha (by omega)), if_neg (fun e => ha (by omega))]
  have cases3 : ∀ a, a = t ∨ (∃ i, i < N ∧ a = t + 1 + i) ∨ ¬ (t ≤ a ∧ a ≤ t + N) := by
    intro a
    by_cases e1 : a = t
    · exact Or.inl e1
    by_cases e2 : t ≤ a ∧ a ≤ t + N
    · exact Or.inr (Or.inl ⟨a - t - 1, by omega, by omega⟩)
    · exact Or.inr (Or.inr e2)
  have sm : ∀ a, (sh a).isSome = true → (zv_mS sh t N K a).isSome = true := fun a ha => by rw [shO a (live a ha)]; exact ha
  have sR : ∀ i, i < N → (zv_mS sh t N K (t + 1 + i)).isSome = true := by
    intro i hi
    unfold zv_mS
    rw [if_neg (by omega), if_pos (by omega)]
    rfl
  have place : ∀ a ka, zv_mS sh t N K a = some ka → ∃ k : Nat, WS[k]? = some (zv_mA adr t N q r a, zv_ent E (zv_mA adr t N q r) ka (zv_m0 I t N 0 a) (zv_m0 J t N 0 a) (zv_mR R t N a)) ∧ ((a = t → k = ws.length) ∧ (∀ i, i < N → a = t + 1 + i → k = ws.length + 1 + i) ∧ (¬ (t ≤ a ∧ a ≤ t + N) → k < ws.length)) := by
    intro a ka ha
    rcases cases3 a with e1 | ⟨i, hi, e1⟩ | e1
    · subst e1
      refine ⟨ws.length, ?_, fun _ => rfl, fun i _ h => by omega, fun h => absurd ⟨Nat.le_refl _, by omega⟩ h⟩
      unfold zv_mS at ha
      rw [if_pos rfl] at ha
      cases ha
      rw [hposO, adrT, zv_ent_r E _ (by omega) (by omega), ← hO]
      congr 9
      funext j
      unfold zv_mR
      rw [if_pos rfl]
      by_cases hj : j < N
      · rw [if_pos hj, if_pos hj, Option.map_some, adrR j hj]
      · rw [if_neg hj, if_neg hj]; rfl
    · subst e1
      refine ⟨ws.length + 1 + i, ?_, fun h => by omega, fun j _ h => by omega, fun h => absurd ⟨by omega, by omega⟩ h⟩
      unfold zv_mS at ha
      rw [if_neg (by omega), if_pos (by omega)] at ha
      cases ha
      rw [hposR i hi, adrR i hi, zv_ent_i]
      unfold zv_m0
      rw [if_pos (by omega)]
    · rw [shO a e1] at ha
      obtain ⟨k, hk⟩ := hw a ka ha
      refine ⟨k, ?_, fun h => absurd (by omega) e1, fun i hi h => absurd (by omega) e1, fun _ => (List.getElem?_eq_some_iff.mp hk).1⟩
      rw [hposW k _ hk, adrO a e1]
      have i1 : zv_m0 I t N 0 a = I a := by unfold zv_m0; rw [if_neg e1]
      have i2 : zv_m0 J t N 0 a = J a := by unfold zv_m0; rw [if_neg e1]
      have i3 : zv_mR R t N a = R a := by unfold zv_mR; rw [if_neg (fun e => e1 (by omega)), if_neg (fun e => e1 (by omega))]
      rw [i1, i2, i3, zv_ent_ext (fun j u hu => adrO u (live u (hcl a j u (by rw [ha]; rfl) hu)))]
  have hH : zv_H E (zv_mS sh t N K) (zv_m0 I t N 0) (zv_m0 J t N 0) (zv_mR R t N) (zv_mA adr t N q r) H1 := by
    refine ⟨⟨WS, fun a ka ha => ?_, hP1, hD1⟩, fun a b ha hb hab => ?_, fun a j u ha hu => ?_, fun a ha => ?_⟩
    · obtain ⟨k, hk, -⟩ := place a ka ha
      exact ⟨k, hk⟩
    · obtain ⟨ka, hka⟩ := Option.isSome_iff_exists.mp ha
      obtain ⟨kb, hkb⟩ := Option.isSome_iff_exists.mp hb
      obtain ⟨i, hi, i1, i2, i3⟩ := place a ka hka
      obtain ⟨j, hj, j1, j2, j3⟩ := place b kb hkb
      have hij := hD1.1 i j _ _ hi hj hab
      rcases cases3 a with e1 | ⟨x, hx, e1⟩ | e1 <;> rcases cases3 b with e2 | ⟨y, hy, e2⟩ | e2
      · omega
      · have := i1 e1; have := j2 y hy e2; omega
      · have := i1 e1; have := j3 e2; omega
      · have := i2 x hx e1; have := j1 e2; omega
      · have := i2 x hx e1; have := j2 y hy e2; omega
      · have := i2 x hx e1; have := j3 e2; omega
      · have := i3 e1; have := j1 e2; omega
      · have := i3 e1; have := j2 y hy e2; omega
      · rw [adrO a e1, adrO b e2] at hab
        rw [shO a e1] at ha
        rw [shO b e2] at hb
        exact hinj a b ha hb hab
    · rcases cases3 a with e1 | ⟨x, hx, e1⟩ | e1
      · subst e1
        unfold zv_mR at hu
        rw [if_pos rfl] at hu
        by_cases hj : j < N
        · rw [if_pos hj] at hu
          cases hu
          exact sR j hj
        · rw [if_neg hj] at hu
          cases hu
      · subst e1
        unfold zv_mR at hu
        rw [if_neg (by omega), if_pos (by omega)] at hu
        cases hu
      · have i3 : zv_mR R t N a = R a := by unfold zv_mR; rw [if_neg (fun e => e1 (by omega)), if_neg (fun e => e1 (by omega))]
        rw [i3] at hu
        rw [shO a e1] at ha
        exact sm u (hcl a j u ha hu)
    · have e1 : ¬ (t ≤ a ∧ a ≤ t + N) := by omega
      exact ⟨by rw [shO a e1]; exact (hro a ha).1, by rw [adrO a e1]; exact (hro a ha).2⟩
  have hx : ∀ a, (a < 3 ∨ (sh a).isSome = true) → zv_mA adr t N q r a = adr a := fun a ha => adrO a (ha.elim (fun h => by omega) (fun h => live a h))
  have P1 : zv_P E M lv (.ref t :: st) (zv_mS sh t N K) (zv_m0 I t N 0) (zv_m0 J t N 0) (zv_mR R t N) sh0 adr0 (zv_mA adr t N q r) H1 s.heap locs ls := by
    refine ⟨hH, by rw [zv_v_ext hx P.2.2.1]; exact P.2.1, zv_oks_mono sm P.2.2.1, ⟨Or.inr (by unfold zv_mS; rw [if_pos rfl]; rfl), zv_oks_mono sm P.2.2.2.1.2.2⟩, fun a ha => ?_, hS1⟩
    obtain ⟨g1, g2⟩ := P.2.2.2.2.1 a ha
    exact ⟨sm a g1, by rw [hx a (Or.inr g1)]; exact g2⟩
  have kk := k p l e Rm s m args below meth c' Z mc ms sh0 adr0 C _ H1 locs ls (cells + 1 + N) (slots + N + N * K) P1 (by omega) (by omega)
  have e3 : (Value.ref t :: st).map (zv_v (zv_mA adr t N q r)) = .ref q :: st.map (zv_v adr) := by
    rw [List.map_cons, zv_v_ext hx P.2.2.2.1.2.2]
    show Value.ref (zv_mA adr t N q r t) :: _ = _
    rw [adrT]
  rw [e3] at kk
  exact kk
end ZM
