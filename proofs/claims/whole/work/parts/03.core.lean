/-! THE ABSTRACT MACHINE: cells are called by TAGS (numbers that the prover chooses); a state is four functions of tags. -/
abbrev zv_S : Type := Nat → Option (Nat × Nat)
abbrev zv_I : Type := Nat → Nat → Int32
abbrev zv_J : Type := Nat → Nat → Int64
abbrev zv_R : Type := Nat → Nat → Option Nat
abbrev zv_Q : Type := Option Value → zv_S → zv_I → zv_J → zv_R → Prop
/-- heap size at the start, classes, array classes, the three read-only rows' addresses (script, BODIES, KIND_ABOVE), the script's length and ints -/
abbrev zv_E : Type := Nat × va_G × (Nat → ClassId) × (Nat → Nat) × Nat × (Nat → Int32)
def zv_A (E : zv_E) : Nat → Prop := fun q => E.1 ≤ q
abbrev zv_cl : List vw_C := [(RX0, TX0, 3), (RX1, TX1, 2), (RX2, TX2, 13), (RX3, TX3, 10), (RX4, TX4, 1), (RX6, TX6, 2), (RX7, TX7, 10), (RX8, TX8, 28)]
def zv_nf (c : Nat) : Nat := match c with
  | 0 => 3
  | 1 => 2
  | 2 => 13
  | 3 => 10
  | 4 => 1
  | 5 => 2
  | 6 => 10
  | _ => 28
def zv_cty (c : Nat) : Nat → FieldType := match c with
  | 0 => tyX0
  | 1 => tyX1
  | 2 => tyX2
  | 3 => tyX3
  | 4 => tyX4
  | 5 => tyX6
  | 6 => tyX7
  | _ => tyX8
def zv_rfld (c j : Nat) : Bool := match zv_cty c j with
  | .int => false
  | _ => true
def zv_ty (k : Nat) : FieldType := match k with
  | 0 => .int
  | 1 => .long
  | 2 => .boolean
  | 3 => .array .int
  | 4 => .object RX3
  | 5 => .object RX0
  | 6 => .object RX2
  | 7 => .object RX1
  | _ => .object RX5
def zv_tys (dA : Nat → ClassId) : List (ClassId × FieldType) := [(dA 0, .int), (dA 1, .long), (dA 2, .boolean), (dA 3, .array .int), (dA 4, .object RX3), (dA 5, .object RX0), (dA 6, .object RX2), (dA 7, .object RX1), (dA 8, .object RX5)]
def zv_fv (adr : Nat → Nat) (c : Nat) (I : Nat → Int32) (R : Nat → Option Nat) (j : Nat) : Value := if zv_rfld c j = true then va_rf ((R j).map adr) else .int (I j)
def zv_fs (adr : Nat → Nat) (c : Nat) (I : Nat → Int32) (R : Nat → Option Nat) : List Value := (List.range (zv_nf c)).map (zv_fv adr c I R)
/-- a cell: kinds 0 int[], 1 long[], 2 boolean[], 3 .. 8 rows of references, 10 + c an object of class c -/
def zv_ent (E : zv_E) (adr : Nat → Nat) (kn : Nat × Nat) (I : Nat → Int32) (J : Nat → Int64) (R : Nat → Option Nat) : va_E :=
  if kn.1 = 0 ∨ kn.1 = 2 then .inl (E.2.2.1 kn.1, kn.2, .inl I)
  else if kn.1 = 1 then .inl (E.2.2.1 1, kn.2, .inr (.inl J))
  else if kn.1 < 10 then .inl (E.2.2.1 kn.1, kn.2, .inr (.inr (.inr (.inr (fun j => (R j).map adr)))))
  else .inr (kn.1 - 10, zv_fs adr (kn.1 - 10) I R)
theorem zv_ent_i (E : zv_E) (adr : Nat → Nat) (n : Nat) (I : Nat → Int32) (J : Nat → Int64) (R : Nat → Option Nat) : zv_ent E adr (0, n) I J R = .inl (E.2.2.1 0, n, .inl I) := by simp [zv_ent]
theorem zv_ent_z (E : zv_E) (adr : Nat → Nat) (n : Nat) (I : Nat → Int32) (J : Nat → Int64) (R : Nat → Option Nat) : zv_ent E adr (2, n) I J R = .inl (E.2.2.1 2, n, .inl I) := by simp [zv_ent]
theorem zv_ent_l (E : zv_E) (adr : Nat → Nat) (n : Nat) (I : Nat → Int32) (J : Nat → Int64) (R : Nat → Option Nat) : zv_ent E adr (1, n) I J R = .inl (E.2.2.1 1, n, .inr (.inl J)) := by simp [zv_ent]
theorem zv_ent_r (E : zv_E) (adr : Nat → Nat) {k : Nat} (h3 : 3 ≤ k) (h9 : k < 10) (n : Nat) (I : Nat → Int32) (J : Nat → Int64) (R : Nat → Option Nat) : zv_ent E adr (k, n) I J R = .inl (E.2.2.1 k, n, .inr (.inr (.inr (.inr (fun j => (R j).map adr))))) := by
  have h0 : ¬ (k = 0 ∨ k = 2) := by omega
  have h1 : ¬ k = 1 := by omega
  simp only [zv_ent, if_neg h0, if_neg h1, if_pos h9]
theorem zv_ent_o (E : zv_E) (adr : Nat → Nat) (c n : Nat) (I : Nat → Int32) (J : Nat → Int64) (R : Nat → Option Nat) : zv_ent E adr (10 + c, n) I J R = .inr (c, zv_fs adr c I R) := by
  have h0 : ¬ (10 + c = 0 ∨ 10 + c = 2) := by omega
  have h1 : ¬ 10 + c = 1 := by omega
  have h2 : ¬ 10 + c < 10 := by omega
  have h3 : 10 + c - 10 = c := by omega
  simp only [zv_ent, if_neg h0, if_neg h1, if_neg h2, h3]
theorem zv_fs_at {adr : Nat → Nat} {c : Nat} {I : Nat → Int32} {R : Nat → Option Nat} {j : Nat} (h : j < zv_nf c) : (zv_fs adr c I R)[j]? = some (zv_fv adr c I R j) := by
  unfold zv_fs
  rw [List.getElem?_map, List.getElem?_range h]
  rfl
theorem zv_fs_len {adr : Nat → Nat} {c : Nat} {I : Nat → Int32} {R : Nat → Option Nat} : (zv_fs adr c I R).length = zv_nf c := by simp [zv_fs]
/-- tags for addresses -/
def zv_v (adr : Nat → Nat) : Value → Value
  | .ref t => .ref (adr t)
  | v => v
def zv_ok (sh : zv_S) : Value → Prop
  | .ref t => t < 3 ∨ (sh t).isSome = true
  | _ => True
def zv_oks (sh : zv_S) : List Value → Prop
  | [] => True
  | v :: vs => zv_ok sh v ∧ zv_oks sh vs
def zv_z : Nat → List Value → List (Nat × Value)
  | _, [] => []
  | n, v :: vs => (n, v) :: zv_z (n + 1) vs
def zv_l (ls : Array Slot) (nL : Nat) (lv : List Value) : Prop := lv_has ls nL (zv_z 0 lv) ∧ ∀ v ∈ lv, v.category = 1
def zv_ag (sh0 : zv_S) (adr0 : Nat → Nat) (sh : zv_S) (adr : Nat → Nat) : Prop := ∀ t, (sh0 t).isSome = true → (sh t).isSome = true ∧ adr t = adr0 t
def zv_W (E : zv_E) (sh : zv_S) (I : zv_I) (J : zv_J) (R : zv_R) (adr : Nat → Nat) (H : Heap) : Prop :=
  ∃ ws : va_W, (∀ (t : Nat) (kn : Nat × Nat), sh t = some kn → ∃ k : Nat, ws[k]? = some (adr t, zv_ent E adr kn (I t) (J t) (R t))) ∧ va_P E.2.1 zv_cl ws H ∧ va_D (zv_A E) ws
def zv_H (E : zv_E) (sh : zv_S) (I : zv_I) (J : zv_J) (R : zv_R) (adr : Nat → Nat) (H : Heap) : Prop :=
  zv_W E sh I J R adr H ∧ (∀ t u : Nat, (sh t).isSome = true → (sh u).isSome = true → adr t = adr u → t = u) ∧ (∀ t j u : Nat, (sh t).isSome = true → R t j = some u → (sh u).isSome = true) ∧ ∀ t, t < 3 → sh t = none ∧ adr t = E.2.2.2.1 t
def zv_bod (j : Nat) : Int32 := ([10, 11, 12, 13, 20, 0, 0, 21, 0, 30, 31, 0, 40, 0, 0, 0, 0, 0, 50, 0, 0, 60, 0, 61] : List Int32).getD j 0
def zv_kab (j : Nat) : Int32 := ([-1, 0, 1, 0, 3, 4] : List Int32).getD j 0
/-- the words that move with every call -/
def zv_gw : List Cond := lw_tbl.filter goodWord
def zv_isN : Cond → Bool
  | .fieldLinkNest _ _ _ _ _ _ => true
  | .methodLinkNest _ _ _ _ => true
  | .castable _ _ => true
  | _ => false
def zv_nw : List Cond := tables_1.filter zv_isN
def zv_nc : List (String × String) := [(RX1, RX2), (RX2, RX1)]
def zv_ao : List String := [RX3, RX0, RX2, RX1, RX5]
def zv_T (E : zv_E) (s : State) : Prop :=
  va_K E.2.1 zv_cl (zv_tys E.2.2.1) s ∧ (∀ w ∈ zv_nw, va_Nw w s) ∧ (∀ C ∈ zv_ao, va_AO C s) ∧ (Cond.arrayOver (.array .int)).before #[] s = true ∧ (∀ q ∈ zv_nc, va_Nc q.1 q.2 s) ∧
  va_Z RX7 "BODIES" "[I" (.ref (E.2.2.2.1 1)) (zv_A E) s s.heap ∧ va_Z RX7 "KIND_ABOVE" "[I" (.ref (E.2.2.2.1 2)) (zv_A E) s s.heap ∧
  va_T .int (E.2.2.2.1 0) E.2.2.2.2.1 (fun j => .int (E.2.2.2.2.2 j)) (zv_A E) s s.heap ∧ va_T .int (E.2.2.2.1 1) 24 (fun j => .int (zv_bod j)) (zv_A E) s s.heap ∧ va_T .int (E.2.2.2.1 2) 6 (fun j => .int (zv_kab j)) (zv_A E) s s.heap ∧ E.1 ≤ s.heap.size
def zv_ri (M : zv_M) (v : Option Value) (pc : Nat) : Prop := match v with
  | none => decode M.2.1 pc = .ok (.return_, 1) ∧ M.2.2.2 = none
  | some (.int x) => decode M.2.1 pc = .ok (.ireturn, 1) ∧ ∃ ty, M.2.2.2 = some ty ∧ narrow ty (.int x) = .int x
  | some (.ref _) => decode M.2.1 pc = .ok (.areturn, 1) ∧ ∃ ty, M.2.2.2 = some ty ∧ ((∃ n, ty = .object n) ∨ ∃ t, ty = .array t)
  | some .null => decode M.2.1 pc = .ok (.areturn, 1) ∧ ∃ ty, M.2.2.2 = some ty ∧ ((∃ n, ty = .object n) ∨ ∃ t, ty = .array t)
  | _ => False
/-- what stands still while a method runs -/
def zv_C (E : zv_E) (M : zv_M) (d mc ms : Nat) (sh0 : zv_S) (adr0 : Nat → Nat) (Q : zv_Q) (p : Program) (l : Launch) (e : Env) (Rm : Room) (s : State) (m : MethodId) (args : Array Value) (below : List Frame) (meth : Method) (c : Code) (Z : State → Prop) : Prop :=
  p.tables.exec = Jvm.exec ∧ c.code = M.2.1 ∧ c.maxLocals = M.2.2.1 ∧ s.vm.findClass M.1.cls = some m.cls ∧ (∀ w ∈ zv_gw, w.before args s = true) ∧ (M.1.name = "<init>" → meth.name = "<init>") ∧ zv_T E s ∧ d ≤ Rm.frames ∧ 40 * d ≤ Rm.locals ∧ mc ≤ Rm.cells ∧ ms ≤ Rm.slots ∧
  ∀ (v : Option Value) (sh : zv_S) (I : zv_I) (J : zv_J) (R : zv_R) (adr : Nat → Nat) (H : Heap) (locs : List Loc) (ls : Array Slot) (cells slots pc : Nat), Q v sh I J R → zv_H E sh I J R adr H → zv_ag sh0 adr0 sh adr → (∀ x, v = some x → zv_ok sh x) → va_S (zv_A E) s.heap H locs → cells ≤ mc → slots ≤ ms → zv_ri M v pc → W p l e Rm s m args below meth c H locs cells slots Z (F0 m pc ls (v.toList.map (zv_v adr)))
/-- what holds at a frame -/
def zv_P (E : zv_E) (M : zv_M) (lv st : List Value) (sh : zv_S) (I : zv_I) (J : zv_J) (R : zv_R) (sh0 : zv_S) (adr0 adr : Nat → Nat) (H H0 : Heap) (locs : List Loc) (ls : Array Slot) : Prop :=
  zv_H E sh I J R adr H ∧ zv_l ls M.2.2.1 (lv.map (zv_v adr)) ∧ zv_oks sh lv ∧ zv_oks sh st ∧ zv_ag sh0 adr0 sh adr ∧ va_S (zv_A E) H0 H locs
/-- THE JUDGEMENT: from pc, with locals lv and stack st, calls d deep at most, kc cells of ks slots at most, the method comes to its end with Q -/
def zv_V (E : zv_E) (M : zv_M) (d kc ks pc : Nat) (lv st : List Value) (sh : zv_S) (I : zv_I) (J : zv_J) (R : zv_R) (Q : zv_Q) : Prop :=
  ∀ (p : Program) (l : Launch) (e : Env) (Rm : Room) (s : State) (m : MethodId) (args : Array Value) (below : List Frame) (meth : Method) (c : Code) (Z : State → Prop) (mc ms : Nat) (sh0 : zv_S) (adr0 : Nat → Nat), zv_C E M d mc ms sh0 adr0 Q p l e Rm s m args below meth c Z →
  ∀ (adr : Nat → Nat) (H : Heap) (locs : List Loc) (ls : Array Slot) (cells slots : Nat), zv_P E M lv st sh I J R sh0 adr0 adr H s.heap locs ls → cells + kc ≤ mc → slots + ks ≤ ms → W p l e Rm s m args below meth c H locs cells slots Z (F0 m pc ls (st.map (zv_v adr)))
/-! stores in the four functions -/
def zv_u {α : Type} (f : Nat → Nat → α) (t j : Nat) (x : α) : Nat → Nat → α := fun a b => if a = t ∧ b = j then x else f a b
theorem zv_u_s {α : Type} (f : Nat → Nat → α) (t j : Nat) (x : α) : zv_u f t j x t j = x := if_pos ⟨rfl, rfl⟩
theorem zv_u_t {α : Type} (f : Nat → Nat → α) {t j a b : Nat} (x : α) (h : a ≠ t) : zv_u f t j x a b = f a b := if_neg fun q => h q.1
theorem zv_u_j {α : Type} (f : Nat → Nat → α) {t j a b : Nat} (x : α) (h : b ≠ j) : zv_u f t j x a b = f a b := if_neg fun q => h q.2
theorem zv_u_row {α : Type} (f : Nat → Nat → α) (t j : Nat) (x : α) {a : Nat} (h : a ≠ t) : zv_u f t j x a = f a := funext fun _ => zv_u_t f x h
/-- a whole row anew -/
def zv_n {α : Type} (f : Nat → Nat → α) (t : Nat) (g : Nat → α) : Nat → Nat → α := fun a => if a = t then g else f a
theorem zv_n_s {α : Type} (f : Nat → Nat → α) (t : Nat) (g : Nat → α) : zv_n f t g t = g := if_pos rfl
theorem zv_n_t {α : Type} (f : Nat → Nat → α) {t a : Nat} (g : Nat → α) (h : a ≠ t) : zv_n f t g a = f a := if_neg h
def zv_sn (sh : zv_S) (t : Nat) (kn : Nat × Nat) : zv_S := fun a => if a = t then some kn else sh a
theorem zv_sn_s (sh : zv_S) (t : Nat) (kn : Nat × Nat) : zv_sn sh t kn t = some kn := if_pos rfl
theorem zv_sn_t (sh : zv_S) {t a : Nat} (kn : Nat × Nat) (h : a ≠ t) : zv_sn sh t kn a = sh a := if_neg h
/-! values and locals -/
theorem zv_v_cat (adr : Nat → Nat) (v : Value) : (zv_v adr v).category = v.category := by cases v <;> rfl
theorem zv_cats (adr : Nat → Nat) (st : List Value) : ((st.map (zv_v adr)).map fun v => v.category) = st.map fun v => v.category := by
  rw [List.map_map]
  exact List.map_congr_left fun v _ => zv_v_cat adr v
theorem zv_z_get : ∀ (lv : List Value) (n i : Nat) (v : Value), lv[i]? = some v → (n + i, v) ∈ zv_z n lv
  | [], n, i, v, h => by simp at h
  | w :: lv, n, 0, v, h => by
    simp at h
    subst h
    simp [zv_z]
  | w :: lv, n, i + 1, v, h => by
    have h1 := zv_z_get lv (n + 1) i v (by simpa using h)
    rw [show n + 1 + i = n + (i + 1) by omega] at h1
    exact List.mem_cons_of_mem _ h1
theorem zv_l_at {ls : Array Slot} {nL : Nat} {lv : List Value} (h : zv_l ls nL lv) {i : Nat} {v : Value} (hv : lv[i]? = some v) : ls[i]? = some (.val v) := by
  have h1 := zv_z_get lv 0 i v hv
  rw [Nat.zero_add] at h1
  exact h.1.2.2 _ h1
theorem zv_oks_at {sh : zv_S} : ∀ {lv : List Value} {i : Nat} {v : Value}, zv_oks sh lv → lv[i]? = some v → zv_ok sh v
  | [], i, v, _, h => by simp at h
  | w :: lv, 0, v, hk, h => by simp at h; subst h; exact hk.1
  | w :: lv, i + 1, v, hk, h => zv_oks_at (lv := lv) (i := i) hk.2 (by simpa using h)
theorem zv_oks_app {sh : zv_S} : ∀ {a b : List Value}, zv_oks sh a → zv_oks sh b → zv_oks sh (a ++ b)
  | [], b, _, h => h
  | v :: a, b, h1, h2 => ⟨h1.1, zv_oks_app (a := a) h1.2 h2⟩
theorem zv_oks_mem {sh : zv_S} : ∀ {a : List Value}, (∀ v ∈ a, zv_ok sh v) → zv_oks sh a
  | [], _ => trivial
  | v :: a, h => ⟨h v List.mem_cons_self, zv_oks_mem fun w hw => h w (List.mem_cons_of_mem _ hw)⟩
theorem zv_oks_all {sh : zv_S} : ∀ {a : List Value}, zv_oks sh a → ∀ v ∈ a, zv_ok sh v
  | [], _, v, h => by cases h
  | w :: a, hk, v, h => (List.mem_cons.mp h).elim (fun e => e ▸ hk.1) (fun h => zv_oks_all hk.2 v h)
/-- a local is set: at its place, or as the next one -/
def zv_ls : List Value → Nat → Value → Option (List Value)
  | [], 0, v => some [v]
  | [], _ + 1, _ => none
  | _ :: lv, 0, v => some (v :: lv)
  | w :: lv, i + 1, v => (zv_ls lv i v).map (w :: ·)
theorem zv_ls_map (f : Value → Value) : ∀ (lv : List Value) (i : Nat) (v : Value) (lv' : List Value), zv_ls lv i v = some lv' → zv_ls (lv.map f) i (f v) = some (lv'.map f)
  | [], 0, v, lv', h => by simp [zv_ls] at h; subst h; rfl
  | [], i + 1, v, lv', h => by simp [zv_ls] at h
  | w :: lv, 0, v, lv', h => by simp [zv_ls] at h; subst h; rfl
  | w :: lv, i + 1, v, lv', h => by
    simp only [zv_ls, Option.map_eq_some_iff] at h
    obtain ⟨l1, h1, h2⟩ := h
    subst h2
    simp only [List.map_cons, zv_ls, zv_ls_map f lv i v l1 h1, Option.map_some]
theorem zv_ls_mem : ∀ (lv : List Value) (i n : Nat) (v : Value) (lv' : List Value), zv_ls lv i v = some lv' → ∀ q ∈ zv_z n lv', q = (n + i, v) ∨ (q ∈ zv_z n lv ∧ q.1 ≠ n + i)
  | [], 0, n, v, lv', h => by simp [zv_ls] at h; subst h; intro q hq; left; simpa [zv_z] using hq
  | [], i + 1, n, v, lv', h => by simp [zv_ls] at h
  | w :: lv, 0, n, v, lv', h => by
    simp [zv_ls] at h
    subst h
    intro q hq
    rcases List.mem_cons.mp hq with e | hq
    · left; exact e
    · right
      refine ⟨List.mem_cons_of_mem _ hq, ?_⟩
      have : ∀ (l : List Value) (k : Nat) (q : Nat × Value), q ∈ zv_z k l → k ≤ q.1 := by
        intro l
        induction l with
        | nil => intro k q h; cases h
        | cons a l ih =>
          intro k q h
          rcases List.mem_cons.mp h with e | h
          · rw [e]; exact Nat.le_refl _
          · exact Nat.le_of_succ_le (ih (k + 1) q h)
      have := this lv (n + 1) q hq
      omega
  | w :: lv, i + 1, n, v, lv', h => by
    simp only [zv_ls, Option.map_eq_some_iff] at h
    obtain ⟨l1, h1, h2⟩ := h
    subst h2
    intro q hq
    rcases List.mem_cons.mp hq with e | hq
    · right
      refine ⟨by rw [e]; exact List.mem_cons_self, by rw [e]; show n ≠ n + (i + 1); omega⟩
    · rcases zv_ls_mem lv i (n + 1) v l1 h1 q hq with e | ⟨e, ne⟩
      · left; rw [e]; congr 1; omega
      · right; exact ⟨List.mem_cons_of_mem _ e, by omega⟩
theorem zv_ls_vals : ∀ (lv : List Value) (i : Nat) (v : Value) (lv' : List Value), zv_ls lv i v = some lv' → ∀ w ∈ lv', w = v ∨ w ∈ lv
  | [], 0, v, lv', h => by simp [zv_ls] at h; subst h; intro w hw; left; simpa using hw
  | [], i + 1, v, lv', h => by simp [zv_ls] at h
  | w :: lv, 0, v, lv', h => by
    simp [zv_ls] at h
    subst h
    intro q hq
    rcases List.mem_cons.mp hq with e | hq
    · left; exact e
    · right; exact List.mem_cons_of_mem _ hq
  | w :: lv, i + 1, v, lv', h => by
    simp only [zv_ls, Option.map_eq_some_iff] at h
    obtain ⟨l1, h1, h2⟩ := h
    subst h2
    intro q hq
    rcases List.mem_cons.mp hq with e | hq
    · right; rw [e]; exact List.mem_cons_self
    · rcases zv_ls_vals lv i v l1 h1 q hq with e | e
      · left; exact e
      · right; exact List.mem_cons_of_mem _ e
theorem zv_ls_oks {sh : zv_S} {lv lv' : List Value} {i : Nat} {v : Value} (h : zv_ls lv i v = some lv') (hl : zv_oks sh lv) (hv : zv_ok sh v) : zv_oks sh lv' :=
  zv_oks_mem fun w hw => (zv_ls_vals lv i v lv' h w hw).elim (fun e => e ▸ hv) (fun e => zv_oks_all hl w e)
theorem zv_z_val : ∀ (lv : List Value) (n : Nat) (q : Nat × Value), q ∈ zv_z n lv → q.2 ∈ lv
  | [], _, _, h => by cases h
  | v :: lv, n, q, h => by
    rcases List.mem_cons.mp h with e | h
    · rw [e]; exact List.mem_cons_self
    · exact List.mem_cons_of_mem _ (zv_z_val lv (n + 1) q h)
/-- from the kit's list behind a store to ours -/
theorem zv_l_set {ls' : Array Slot} {nL i : Nat} {lv lv' : List Value} {v : Value} (hc : ∀ w ∈ lv, w.category = 1) (hv : v.category = 1) (h : zv_ls lv i v = some lv') (hl : lv_has ls' nL ((i, v) :: (zv_z 0 lv).filter (fun q => !(q.1 == i) && !(q.1 + 1 == i && q.2.category == 2)))) : zv_l ls' nL lv' := by
  refine ⟨⟨hl.1, hl.2.1, fun q hq => hl.2.2 q ?_⟩, fun w hw => (zv_ls_vals lv i v lv' h w hw).elim (fun e => e ▸ hv) (hc w)⟩
  rcases zv_ls_mem lv i 0 v lv' h q hq with e | ⟨e, ne⟩
  · rw [e, Nat.zero_add]; exact List.mem_cons_self
  · refine List.mem_cons_of_mem _ (List.mem_filter.mpr ⟨e, ?_⟩)
    have h1 : q.2.category = 1 := hc _ (zv_z_val lv 0 q e)
    have h2 : ¬ q.1 = i := fun z => ne (by omega)
    simp [h1, h2]
theorem zv_z_args : ∀ (lv : List Value) (n : Nat), (∀ w ∈ lv, w.category = 1) → lv_args n lv = zv_z n lv
  | [], _, _ => rfl
  | v :: lv, n, h => by
    have hv : ¬ v.category = 2 := by rw [h v List.mem_cons_self]; decide
    simp only [lv_args, zv_z, if_neg hv]
    rw [zv_z_args lv (n + 1) fun w hw => h w (List.mem_cons_of_mem _ hw)]
