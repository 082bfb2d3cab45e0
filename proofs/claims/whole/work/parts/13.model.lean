/-! THE MODEL'S JUDGEMENT: its object has tag 3, the row of its field f tag 4 + f; a is what its rows hold (a 3 f: its number fields) -/
def rm_sz (f : Nat) : Nat := match f with
  | 2 => 6
  | 3 => 6
  | 6 => 200
  | 7 => 200
  | 8 => 200
  | 9 => 200
  | 10 => 200
  | 11 => 200
  | 12 => 200
  | 13 => 200
  | 14 => 200
  | 15 => 9600
  | 16 => 1600
  | 17 => 384
  | 18 => 48
  | 19 => 48
  | 20 => 1600
  | 21 => 8
  | 22 => 40000
  | 23 => 320
  | 25 => 60
  | 27 => 200
  | _ => 0
def rm_kd (f : Nat) : Nat := if f = 22 then 2 else 0
def rm_W (sh : zv_S) (R : zv_R) : Prop := sh 3 = some (17, 0) ∧ ∀ f, f < 28 → zv_rfld 7 f = true → R 3 f = some (4 + f) ∧ sh (4 + f) = some (rm_kd f, rm_sz f)
def rm_E (I : zv_I) (a : zv_I) : Prop := ∀ t, 3 ≤ t → t < 32 → I t = a t
def rm_Q (I0 : zv_I) (sh0 : zv_S) (J0 : zv_J) (R0 : zv_R) (Q : Option Value → zv_I → Prop) : zv_Q := fun v sh I J R => sh = sh0 ∧ J = J0 ∧ R = R0 ∧ (∀ t, ¬ (3 ≤ t ∧ t < 32) → I t = I0 t) ∧ ∃ a, rm_E I a ∧ Q v a
/-- from pc on, with the model's rows a: it comes to its end with Q; nothing else changes, nothing is made -/
def rm_V (M : zv_M) (d pc : Nat) (lv st : List Value) (a : zv_I) (Q : Option Value → zv_I → Prop) : Prop :=
  ∀ (E : zv_E) (I0 : zv_I) (sh : zv_S) (I : zv_I) (J : zv_J) (R : zv_R), rm_W sh R → rm_E I a → (∀ t, ¬ (3 ≤ t ∧ t < 32) → I t = I0 t) → zv_V E M d 0 0 pc lv st sh I J R (rm_Q I0 sh J R Q)
theorem rm_E_u {I a : zv_I} {t j : Nat} {x : Int32} (h : rm_E I a) : rm_E (zv_u I t j x) (zv_u a t j x) := by
  intro q h1 h2
  by_cases e : q = t
  · subst e
    rw [zv_row_i, zv_row_i, h q h1 h2]
  · rw [zv_u_row I t j x e, zv_u_row a t j x e, h q h1 h2]
theorem rm_F_u {I I0 : zv_I} {t j : Nat} {x : Int32} (h3 : 3 ≤ t) (h : t < 32) (hI : ∀ t, ¬ (3 ≤ t ∧ t < 32) → I t = I0 t) : ∀ q, ¬ (3 ≤ q ∧ q < 32) → zv_u I t j x q = I0 q := by
  intro q hq
  rw [zv_u_row I t j x (fun e => hq (by omega)), hI q hq]
theorem rmR2 {sh : zv_S} {R : zv_R} (h : rm_W sh R) : R 3 2 = some 6 := (h.2 2 (by decide) rfl).1
theorem rmS2 {sh : zv_S} {R : zv_R} (h : rm_W sh R) : sh 6 = some (0, 6) := (h.2 2 (by decide) rfl).2
theorem rmR3 {sh : zv_S} {R : zv_R} (h : rm_W sh R) : R 3 3 = some 7 := (h.2 3 (by decide) rfl).1
theorem rmS3 {sh : zv_S} {R : zv_R} (h : rm_W sh R) : sh 7 = some (0, 6) := (h.2 3 (by decide) rfl).2
theorem rmR6 {sh : zv_S} {R : zv_R} (h : rm_W sh R) : R 3 6 = some 10 := (h.2 6 (by decide) rfl).1
theorem rmS6 {sh : zv_S} {R : zv_R} (h : rm_W sh R) : sh 10 = some (0, 200) := (h.2 6 (by decide) rfl).2
theorem rmR7 {sh : zv_S} {R : zv_R} (h : rm_W sh R) : R 3 7 = some 11 := (h.2 7 (by decide) rfl).1
theorem rmS7 {sh : zv_S} {R : zv_R} (h : rm_W sh R) : sh 11 = some (0, 200) := (h.2 7 (by decide) rfl).2
theorem rmR8 {sh : zv_S} {R : zv_R} (h : rm_W sh R) : R 3 8 = some 12 := (h.2 8 (by decide) rfl).1
theorem rmS8 {sh : zv_S} {R : zv_R} (h : rm_W sh R) : sh 12 = some (0, 200) := (h.2 8 (by decide) rfl).2
theorem rmR9 {sh : zv_S} {R : zv_R} (h : rm_W sh R) : R 3 9 = some 13 := (h.2 9 (by decide) rfl).1
theorem rmS9 {sh : zv_S} {R : zv_R} (h : rm_W sh R) : sh 13 = some (0, 200) := (h.2 9 (by decide) rfl).2
theorem rmR10 {sh : zv_S} {R : zv_R} (h : rm_W sh R) : R 3 10 = some 14 := (h.2 10 (by decide) rfl).1
theorem rmS10 {sh : zv_S} {R : zv_R} (h : rm_W sh R) : sh 14 = some (0, 200) := (h.2 10 (by decide) rfl).2
theorem rmR11 {sh : zv_S} {R : zv_R} (h : rm_W sh R) : R 3 11 = some 15 := (h.2 11 (by decide) rfl).1
theorem rmS11 {sh : zv_S} {R : zv_R} (h : rm_W sh R) : sh 15 = some (0, 200) := (h.2 11 (by decide) rfl).2
theorem rmR12 {sh : zv_S} {R : zv_R} (h : rm_W sh R) : R 3 12 = some 16 := (h.2 12 (by decide) rfl).1
theorem rmS12 {sh : zv_S} {R : zv_R} (h : rm_W sh R) : sh 16 = some (0, 200) := (h.2 12 (by decide) rfl).2
theorem rmR13 {sh : zv_S} {R : zv_R} (h : rm_W sh R) : R 3 13 = some 17 := (h.2 13 (by decide) rfl).1
theorem rmS13 {sh : zv_S} {R : zv_R} (h : rm_W sh R) : sh 17 = some (0, 200) := (h.2 13 (by decide) rfl).2
theorem rmR14 {sh : zv_S} {R : zv_R} (h : rm_W sh R) : R 3 14 = some 18 := (h.2 14 (by decide) rfl).1
theorem rmS14 {sh : zv_S} {R : zv_R} (h : rm_W sh R) : sh 18 = some (0, 200) := (h.2 14 (by decide) rfl).2
theorem rmR15 {sh : zv_S} {R : zv_R} (h : rm_W sh R) : R 3 15 = some 19 := (h.2 15 (by decide) rfl).1
theorem rmS15 {sh : zv_S} {R : zv_R} (h : rm_W sh R) : sh 19 = some (0, 9600) := (h.2 15 (by decide) rfl).2
theorem rmR16 {sh : zv_S} {R : zv_R} (h : rm_W sh R) : R 3 16 = some 20 := (h.2 16 (by decide) rfl).1
theorem rmS16 {sh : zv_S} {R : zv_R} (h : rm_W sh R) : sh 20 = some (0, 1600) := (h.2 16 (by decide) rfl).2
theorem rmR17 {sh : zv_S} {R : zv_R} (h : rm_W sh R) : R 3 17 = some 21 := (h.2 17 (by decide) rfl).1
theorem rmS17 {sh : zv_S} {R : zv_R} (h : rm_W sh R) : sh 21 = some (0, 384) := (h.2 17 (by decide) rfl).2
theorem rmR18 {sh : zv_S} {R : zv_R} (h : rm_W sh R) : R 3 18 = some 22 := (h.2 18 (by decide) rfl).1
theorem rmS18 {sh : zv_S} {R : zv_R} (h : rm_W sh R) : sh 22 = some (0, 48) := (h.2 18 (by decide) rfl).2
theorem rmR19 {sh : zv_S} {R : zv_R} (h : rm_W sh R) : R 3 19 = some 23 := (h.2 19 (by decide) rfl).1
theorem rmS19 {sh : zv_S} {R : zv_R} (h : rm_W sh R) : sh 23 = some (0, 48) := (h.2 19 (by decide) rfl).2
theorem rmR20 {sh : zv_S} {R : zv_R} (h : rm_W sh R) : R 3 20 = some 24 := (h.2 20 (by decide) rfl).1
theorem rmS20 {sh : zv_S} {R : zv_R} (h : rm_W sh R) : sh 24 = some (0, 1600) := (h.2 20 (by decide) rfl).2
theorem rmR21 {sh : zv_S} {R : zv_R} (h : rm_W sh R) : R 3 21 = some 25 := (h.2 21 (by decide) rfl).1
theorem rmS21 {sh : zv_S} {R : zv_R} (h : rm_W sh R) : sh 25 = some (0, 8) := (h.2 21 (by decide) rfl).2
theorem rmR22 {sh : zv_S} {R : zv_R} (h : rm_W sh R) : R 3 22 = some 26 := (h.2 22 (by decide) rfl).1
theorem rmS22 {sh : zv_S} {R : zv_R} (h : rm_W sh R) : sh 26 = some (2, 40000) := (h.2 22 (by decide) rfl).2
theorem rmR23 {sh : zv_S} {R : zv_R} (h : rm_W sh R) : R 3 23 = some 27 := (h.2 23 (by decide) rfl).1
theorem rmS23 {sh : zv_S} {R : zv_R} (h : rm_W sh R) : sh 27 = some (0, 320) := (h.2 23 (by decide) rfl).2
theorem rmR25 {sh : zv_S} {R : zv_R} (h : rm_W sh R) : R 3 25 = some 29 := (h.2 25 (by decide) rfl).1
theorem rmS25 {sh : zv_S} {R : zv_R} (h : rm_W sh R) : sh 29 = some (0, 60) := (h.2 25 (by decide) rfl).2
theorem rmR27 {sh : zv_S} {R : zv_R} (h : rm_W sh R) : R 3 27 = some 31 := (h.2 27 (by decide) rfl).1
theorem rmS27 {sh : zv_S} {R : zv_R} (h : rm_W sh R) : sh 31 = some (0, 200) := (h.2 27 (by decide) rfl).2
theorem rm_sz_lt (f : Nat) : rm_sz f < 2 ^ 31 := by
  unfold rm_sz
  split <;> decide
section RM
variable {M : zv_M} {d pc : Nat} {lv st : List Value} {a : zv_I} {Q : Option Value → zv_I → Prop}
theorem rm_iconst {n : Int} {v : Int32} (hd : decode M.2.1 pc = .ok (.iconst n, 1)) (hv : Int32.ofInt n = v) (k : rm_V M d (pc + 1) lv (.int v :: st) a Q) : rm_V M d pc lv (st) a Q := fun E I0 sh I J R w e f => zv_iconst hd hv (k E I0 sh I J R w e f)
theorem rm_bipush {n : Int} {v : Int32} (hd : decode M.2.1 pc = .ok (.bipush n, 2)) (hv : (Int8.ofInt n).toInt32 = v) (k : rm_V M d (pc + 2) lv (.int v :: st) a Q) : rm_V M d pc lv (st) a Q := fun E I0 sh I J R w e f => zv_bipush hd hv (k E I0 sh I J R w e f)
theorem rm_sipush {n : Int} {v : Int32} (hd : decode M.2.1 pc = .ok (.sipush n, 3)) (hv : (Int16.ofInt n).toInt32 = v) (k : rm_V M d (pc + 3) lv (.int v :: st) a Q) : rm_V M d pc lv (st) a Q := fun E I0 sh I J R w e f => zv_sipush hd hv (k E I0 sh I J R w e f)
theorem rm_iload_n {n : Fin 4} {i : Nat} {x : Int32} (hd : decode M.2.1 pc = .ok (.iload_n n, 1)) (hi : (n : Nat) = i) (hl : lv[i]? = some (.int x)) (k : rm_V M d (pc + 1) lv (.int x :: st) a Q) : rm_V M d pc lv (st) a Q := fun E I0 sh I J R w e f => zv_iload_n hd hi hl (k E I0 sh I J R w e f)
theorem rm_iload {i : Nat} {x : Int32} (hd : decode M.2.1 pc = .ok (.iload i, 2)) (hl : lv[i]? = some (.int x)) (k : rm_V M d (pc + 2) lv (.int x :: st) a Q) : rm_V M d pc lv (st) a Q := fun E I0 sh I J R w e f => zv_iload hd hl (k E I0 sh I J R w e f)
theorem rm_aload_n {n : Fin 4} {i t : Nat} (hd : decode M.2.1 pc = .ok (.aload_n n, 1)) (hi : (n : Nat) = i) (hl : lv[i]? = some (.ref t)) (k : rm_V M d (pc + 1) lv (.ref t :: st) a Q) : rm_V M d pc lv (st) a Q := fun E I0 sh I J R w e f => zv_aload_n hd hi hl (k E I0 sh I J R w e f)
theorem rm_istore_n {n : Fin 4} {i : Nat} {x : Int32} {lv' : List Value} (hd : decode M.2.1 pc = .ok (.istore_n n, 1)) (hi : (n : Nat) = i) (hn : i < M.2.2.1) (hl : zv_ls lv i (.int x) = some lv') (k : rm_V M d (pc + 1) lv' (st) a Q) : rm_V M d pc lv (.int x :: st) a Q := fun E I0 sh I J R w e f => zv_istore_n hd hi hn hl (k E I0 sh I J R w e f)
theorem rm_istore {i : Nat} {x : Int32} {lv' : List Value} (hd : decode M.2.1 pc = .ok (.istore i, 2)) (hn : i < M.2.2.1) (hl : zv_ls lv i (.int x) = some lv') (k : rm_V M d (pc + 2) lv' (st) a Q) : rm_V M d pc lv (.int x :: st) a Q := fun E I0 sh I J R w e f => zv_istore hd hn hl (k E I0 sh I J R w e f)
theorem rm_iinc {i : Nat} {n : Int} {x v : Int32} {lv' : List Value} (hd : decode M.2.1 pc = .ok (.iinc i n, 3)) (hx : lv[i]? = some (.int x)) (hv : x + Int32.ofInt n = v) (hn : i < M.2.2.1) (hl : zv_ls lv i (.int v) = some lv') (k : rm_V M d (pc + 3) lv' (st) a Q) : rm_V M d pc lv (st) a Q := fun E I0 sh I J R w e f => zv_iinc hd hx hv hn hl (k E I0 sh I J R w e f)
theorem rm_iadd {x y : Int32} (hd : decode M.2.1 pc = .ok (.iadd, 1)) (k : rm_V M d (pc + 1) lv (.int (x + y) :: st) a Q) : rm_V M d pc lv (.int y :: .int x :: st) a Q := fun E I0 sh I J R w e f => zv_iadd hd (k E I0 sh I J R w e f)
theorem rm_isub {x y : Int32} (hd : decode M.2.1 pc = .ok (.isub, 1)) (k : rm_V M d (pc + 1) lv (.int (x - y) :: st) a Q) : rm_V M d pc lv (.int y :: .int x :: st) a Q := fun E I0 sh I J R w e f => zv_isub hd (k E I0 sh I J R w e f)
theorem rm_imul {x y : Int32} (hd : decode M.2.1 pc = .ok (.imul, 1)) (k : rm_V M d (pc + 1) lv (.int (x * y) :: st) a Q) : rm_V M d pc lv (.int y :: .int x :: st) a Q := fun E I0 sh I J R w e f => zv_imul hd (k E I0 sh I J R w e f)
theorem rm_iand {x y : Int32} (hd : decode M.2.1 pc = .ok (.iand, 1)) (k : rm_V M d (pc + 1) lv (.int (x &&& y) :: st) a Q) : rm_V M d pc lv (.int y :: .int x :: st) a Q := fun E I0 sh I J R w e f => zv_iand hd (k E I0 sh I J R w e f)
theorem rm_ior {x y : Int32} (hd : decode M.2.1 pc = .ok (.ior, 1)) (k : rm_V M d (pc + 1) lv (.int (x ||| y) :: st) a Q) : rm_V M d pc lv (.int y :: .int x :: st) a Q := fun E I0 sh I J R w e f => zv_ior hd (k E I0 sh I J R w e f)
theorem rm_ixor {x y : Int32} (hd : decode M.2.1 pc = .ok (.ixor, 1)) (k : rm_V M d (pc + 1) lv (.int (x ^^^ y) :: st) a Q) : rm_V M d pc lv (.int y :: .int x :: st) a Q := fun E I0 sh I J R w e f => zv_ixor hd (k E I0 sh I J R w e f)
theorem rm_ishl {x y : Int32} (hd : decode M.2.1 pc = .ok (.ishl, 1)) (k : rm_V M d (pc + 1) lv (.int (x <<< (y &&& 31)) :: st) a Q) : rm_V M d pc lv (.int y :: .int x :: st) a Q := fun E I0 sh I J R w e f => zv_ishl hd (k E I0 sh I J R w e f)
theorem rm_ishr {x y : Int32} (hd : decode M.2.1 pc = .ok (.ishr, 1)) (k : rm_V M d (pc + 1) lv (.int (x >>> (y &&& 31)) :: st) a Q) : rm_V M d pc lv (.int y :: .int x :: st) a Q := fun E I0 sh I J R w e f => zv_ishr hd (k E I0 sh I J R w e f)
theorem rm_idiv {x y : Int32} (hd : decode M.2.1 pc = .ok (.idiv, 1)) (hne : ¬ y = 0) (k : rm_V M d (pc + 1) lv (.int (x / y) :: st) a Q) : rm_V M d pc lv (.int y :: .int x :: st) a Q := fun E I0 sh I J R w e f => zv_idiv hd hne (k E I0 sh I J R w e f)
theorem rm_irem {x y : Int32} (hd : decode M.2.1 pc = .ok (.irem, 1)) (hne : ¬ y = 0) (k : rm_V M d (pc + 1) lv (.int (x - x / y * y) :: st) a Q) : rm_V M d pc lv (.int y :: .int x :: st) a Q := fun E I0 sh I J R w e f => zv_irem hd hne (k E I0 sh I J R w e f)
theorem rm_dup {v : Value} (hd : decode M.2.1 pc = .ok (.dup, 1)) (hv : v.category = 1) (k : rm_V M d (pc + 1) lv (v :: v :: st) a Q) : rm_V M d pc lv (v :: st) a Q := fun E I0 sh I J R w e f => zv_dup hd hv (k E I0 sh I J R w e f)
theorem rm_pop {v : Value} (hd : decode M.2.1 pc = .ok (.pop, 1)) (hv : v.category = 1) (k : rm_V M d (pc + 1) lv (st) a Q) : rm_V M d pc lv (v :: st) a Q := fun E I0 sh I J R w e f => zv_pop hd hv (k E I0 sh I J R w e f)
theorem rm_dup2 {v w : Value} (hd : decode M.2.1 pc = .ok (.dup2, 1)) (hv : v.category = 1) (hw : w.category = 1) (k : rm_V M d (pc + 1) lv (v :: w :: v :: w :: st) a Q) : rm_V M d pc lv (v :: w :: st) a Q := fun E I0 sh I J R w e f => zv_dup2 hd hv hw (k E I0 sh I J R w e f)
theorem rm_top {x y : Int32} (h : x = y) (k : rm_V M d pc lv (.int y :: st) a Q) : rm_V M d pc lv (.int x :: st) a Q := h ▸ k
theorem rm_if_eq {x : Int32} {off : Int} {tgt : Nat} (hd : decode M.2.1 pc = .ok (.ifCond .eq off, 3)) (ht : (pc : Int) + off = (tgt : Int)) (kt : x = 0 → rm_V M d tgt lv st a Q) (kf : ¬ x = 0 → rm_V M d (pc + 3) lv st a Q) : rm_V M d pc lv (.int x :: st) a Q := fun E I0 sh I J R w e f => zv_if_eq hd ht (fun h => kt h E I0 sh I J R w e f) (fun h => kf h E I0 sh I J R w e f)
theorem rm_icmp_eq {x y : Int32} {off : Int} {tgt : Nat} (hd : decode M.2.1 pc = .ok (.if_icmp .eq off, 3)) (ht : (pc : Int) + off = (tgt : Int)) (kt : x = y → rm_V M d tgt lv st a Q) (kf : ¬ x = y → rm_V M d (pc + 3) lv st a Q) : rm_V M d pc lv (.int y :: .int x :: st) a Q := fun E I0 sh I J R w e f => zv_icmp_eq hd ht (fun h => kt h E I0 sh I J R w e f) (fun h => kf h E I0 sh I J R w e f)
theorem rm_if_ne {x : Int32} {off : Int} {tgt : Nat} (hd : decode M.2.1 pc = .ok (.ifCond .ne off, 3)) (ht : (pc : Int) + off = (tgt : Int)) (kt : ¬ x = 0 → rm_V M d tgt lv st a Q) (kf : x = 0 → rm_V M d (pc + 3) lv st a Q) : rm_V M d pc lv (.int x :: st) a Q := fun E I0 sh I J R w e f => zv_if_ne hd ht (fun h => kt h E I0 sh I J R w e f) (fun h => kf h E I0 sh I J R w e f)
theorem rm_icmp_ne {x y : Int32} {off : Int} {tgt : Nat} (hd : decode M.2.1 pc = .ok (.if_icmp .ne off, 3)) (ht : (pc : Int) + off = (tgt : Int)) (kt : ¬ x = y → rm_V M d tgt lv st a Q) (kf : x = y → rm_V M d (pc + 3) lv st a Q) : rm_V M d pc lv (.int y :: .int x :: st) a Q := fun E I0 sh I J R w e f => zv_icmp_ne hd ht (fun h => kt h E I0 sh I J R w e f) (fun h => kf h E I0 sh I J R w e f)
theorem rm_if_lt {x : Int32} {off : Int} {tgt : Nat} (hd : decode M.2.1 pc = .ok (.ifCond .lt off, 3)) (ht : (pc : Int) + off = (tgt : Int)) (kt : x < 0 → rm_V M d tgt lv st a Q) (kf : ¬ x < 0 → rm_V M d (pc + 3) lv st a Q) : rm_V M d pc lv (.int x :: st) a Q := fun E I0 sh I J R w e f => zv_if_lt hd ht (fun h => kt h E I0 sh I J R w e f) (fun h => kf h E I0 sh I J R w e f)
theorem rm_icmp_lt {x y : Int32} {off : Int} {tgt : Nat} (hd : decode M.2.1 pc = .ok (.if_icmp .lt off, 3)) (ht : (pc : Int) + off = (tgt : Int)) (kt : x < y → rm_V M d tgt lv st a Q) (kf : ¬ x < y → rm_V M d (pc + 3) lv st a Q) : rm_V M d pc lv (.int y :: .int x :: st) a Q := fun E I0 sh I J R w e f => zv_icmp_lt hd ht (fun h => kt h E I0 sh I J R w e f) (fun h => kf h E I0 sh I J R w e f)
theorem rm_if_ge {x : Int32} {off : Int} {tgt : Nat} (hd : decode M.2.1 pc = .ok (.ifCond .ge off, 3)) (ht : (pc : Int) + off = (tgt : Int)) (kt : 0 ≤ x → rm_V M d tgt lv st a Q) (kf : ¬ 0 ≤ x → rm_V M d (pc + 3) lv st a Q) : rm_V M d pc lv (.int x :: st) a Q := fun E I0 sh I J R w e f => zv_if_ge hd ht (fun h => kt h E I0 sh I J R w e f) (fun h => kf h E I0 sh I J R w e f)
theorem rm_icmp_ge {x y : Int32} {off : Int} {tgt : Nat} (hd : decode M.2.1 pc = .ok (.if_icmp .ge off, 3)) (ht : (pc : Int) + off = (tgt : Int)) (kt : y ≤ x → rm_V M d tgt lv st a Q) (kf : ¬ y ≤ x → rm_V M d (pc + 3) lv st a Q) : rm_V M d pc lv (.int y :: .int x :: st) a Q := fun E I0 sh I J R w e f => zv_icmp_ge hd ht (fun h => kt h E I0 sh I J R w e f) (fun h => kf h E I0 sh I J R w e f)
theorem rm_if_gt {x : Int32} {off : Int} {tgt : Nat} (hd : decode M.2.1 pc = .ok (.ifCond .gt off, 3)) (ht : (pc : Int) + off = (tgt : Int)) (kt : 0 < x → rm_V M d tgt lv st a Q) (kf : ¬ 0 < x → rm_V M d (pc + 3) lv st a Q) : rm_V M d pc lv (.int x :: st) a Q := fun E I0 sh I J R w e f => zv_if_gt hd ht (fun h => kt h E I0 sh I J R w e f) (fun h => kf h E I0 sh I J R w e f)
theorem rm_icmp_gt {x y : Int32} {off : Int} {tgt : Nat} (hd : decode M.2.1 pc = .ok (.if_icmp .gt off, 3)) (ht : (pc : Int) + off = (tgt : Int)) (kt : y < x → rm_V M d tgt lv st a Q) (kf : ¬ y < x → rm_V M d (pc + 3) lv st a Q) : rm_V M d pc lv (.int y :: .int x :: st) a Q := fun E I0 sh I J R w e f => zv_icmp_gt hd ht (fun h => kt h E I0 sh I J R w e f) (fun h => kf h E I0 sh I J R w e f)
theorem rm_if_le {x : Int32} {off : Int} {tgt : Nat} (hd : decode M.2.1 pc = .ok (.ifCond .le off, 3)) (ht : (pc : Int) + off = (tgt : Int)) (kt : x ≤ 0 → rm_V M d tgt lv st a Q) (kf : ¬ x ≤ 0 → rm_V M d (pc + 3) lv st a Q) : rm_V M d pc lv (.int x :: st) a Q := fun E I0 sh I J R w e f => zv_if_le hd ht (fun h => kt h E I0 sh I J R w e f) (fun h => kf h E I0 sh I J R w e f)
theorem rm_icmp_le {x y : Int32} {off : Int} {tgt : Nat} (hd : decode M.2.1 pc = .ok (.if_icmp .le off, 3)) (ht : (pc : Int) + off = (tgt : Int)) (kt : x ≤ y → rm_V M d tgt lv st a Q) (kf : ¬ x ≤ y → rm_V M d (pc + 3) lv st a Q) : rm_V M d pc lv (.int y :: .int x :: st) a Q := fun E I0 sh I J R w e f => zv_icmp_le hd ht (fun h => kt h E I0 sh I J R w e f) (fun h => kf h E I0 sh I J R w e f)
theorem rm_icN_eq {i j : Nat} {off : Int} {tgt : Nat} (hd : decode M.2.1 pc = .ok (.if_icmp .eq off, 3)) (ht : (pc : Int) + off = (tgt : Int)) (hi : i < 2 ^ 31) (hj : j < 2 ^ 31) (kt : i = j → rm_V M d tgt lv st a Q) (kf : i ≠ j → rm_V M d (pc + 3) lv st a Q) : rm_V M d pc lv (.int (nI j) :: .int (nI i) :: st) a Q := rm_icmp_eq hd ht (fun h => kt ((nI_eq hi hj).mp h)) (fun h => kf (fun q => h ((nI_eq hi hj).mpr q)))
theorem rm_icN_ne {i j : Nat} {off : Int} {tgt : Nat} (hd : decode M.2.1 pc = .ok (.if_icmp .ne off, 3)) (ht : (pc : Int) + off = (tgt : Int)) (hi : i < 2 ^ 31) (hj : j < 2 ^ 31) (kt : i ≠ j → rm_V M d tgt lv st a Q) (kf : i = j → rm_V M d (pc + 3) lv st a Q) : rm_V M d pc lv (.int (nI j) :: .int (nI i) :: st) a Q := rm_icmp_ne hd ht (fun h => kt (fun q => h ((nI_eq hi hj).mpr q))) (fun h => kf ((nI_eq hi hj).mp h))
theorem rm_icN_lt {i j : Nat} {off : Int} {tgt : Nat} (hd : decode M.2.1 pc = .ok (.if_icmp .lt off, 3)) (ht : (pc : Int) + off = (tgt : Int)) (hi : i < 2 ^ 31) (hj : j < 2 ^ 31) (kt : i < j → rm_V M d tgt lv st a Q) (kf : j ≤ i → rm_V M d (pc + 3) lv st a Q) : rm_V M d pc lv (.int (nI j) :: .int (nI i) :: st) a Q := rm_icmp_lt hd ht (fun h => kt ((nI_ltI hi hj).mp h)) (fun h => kf (Nat.not_lt.mp fun q => h ((nI_ltI hi hj).mpr q)))
theorem rm_icN_ge {i j : Nat} {off : Int} {tgt : Nat} (hd : decode M.2.1 pc = .ok (.if_icmp .ge off, 3)) (ht : (pc : Int) + off = (tgt : Int)) (hi : i < 2 ^ 31) (hj : j < 2 ^ 31) (kt : j ≤ i → rm_V M d tgt lv st a Q) (kf : i < j → rm_V M d (pc + 3) lv st a Q) : rm_V M d pc lv (.int (nI j) :: .int (nI i) :: st) a Q := rm_icmp_ge hd ht (fun h => kt ((nI_leI hj hi).mp h)) (fun h => kf (Nat.not_le.mp fun q => h ((nI_leI hj hi).mpr q)))
theorem rm_icN_gt {i j : Nat} {off : Int} {tgt : Nat} (hd : decode M.2.1 pc = .ok (.if_icmp .gt off, 3)) (ht : (pc : Int) + off = (tgt : Int)) (hi : i < 2 ^ 31) (hj : j < 2 ^ 31) (kt : j < i → rm_V M d tgt lv st a Q) (kf : i ≤ j → rm_V M d (pc + 3) lv st a Q) : rm_V M d pc lv (.int (nI j) :: .int (nI i) :: st) a Q := rm_icmp_gt hd ht (fun h => kt ((nI_ltI hj hi).mp h)) (fun h => kf (Nat.not_lt.mp fun q => h ((nI_ltI hj hi).mpr q)))
theorem rm_icN_le {i j : Nat} {off : Int} {tgt : Nat} (hd : decode M.2.1 pc = .ok (.if_icmp .le off, 3)) (ht : (pc : Int) + off = (tgt : Int)) (hi : i < 2 ^ 31) (hj : j < 2 ^ 31) (kt : i ≤ j → rm_V M d tgt lv st a Q) (kf : j < i → rm_V M d (pc + 3) lv st a Q) : rm_V M d pc lv (.int (nI j) :: .int (nI i) :: st) a Q := rm_icmp_le hd ht (fun h => kt ((nI_leI hi hj).mp h)) (fun h => kf (Nat.not_le.mp fun q => h ((nI_leI hi hj).mpr q)))
theorem rm_goto {off : Int} {tgt : Nat} (hd : decode M.2.1 pc = .ok (.goto off, 3)) (ht : (pc : Int) + off = (tgt : Int)) (k : rm_V M d tgt lv st a Q) : rm_V M d pc lv st a Q := fun E I0 sh I J R w e f => zv_goto hd ht (k E I0 sh I J R w e f)
theorem rm_tableOut {dflt lo hi : Int} {offs : Array Int} {len : Nat} {x : Int32} {tgt : Nat} (hd : decode M.2.1 pc = .ok (.tableswitch dflt lo hi offs, len)) (h : x.toInt < lo ∨ hi < x.toInt) (ht : (pc : Int) + dflt = (tgt : Int)) (k : rm_V M d tgt lv st a Q) : rm_V M d pc lv (.int x :: st) a Q := fun E I0 sh I J R w e f => zv_tableOut hd h ht (k E I0 sh I J R w e f)
theorem rm_tableIn {dflt lo hi : Int} {offs : Array Int} {len : Nat} {x : Int32} {off : Int} {tgt : Nat} (hd : decode M.2.1 pc = .ok (.tableswitch dflt lo hi offs, len)) (hl : ¬ x.toInt < lo) (hh : ¬ hi < x.toInt) (ho : offs[(x.toInt - lo).toNat]? = some off) (ht : (pc : Int) + off = (tgt : Int)) (k : rm_V M d tgt lv st a Q) : rm_V M d pc lv (.int x :: st) a Q := fun E I0 sh I J R w e f => zv_tableIn hd hl hh ho ht (k E I0 sh I J R w e f)
theorem rm_less {lv' : List Value} (h : ∃ r, lv = lv' ++ r) (k : rm_V M d pc lv' st a Q) : rm_V M d pc lv st a Q := fun E I0 sh I J R w e f => zv_less h (k E I0 sh I J R w e f)
theorem rm_post {Q' : Option Value → zv_I → Prop} (h : ∀ v b, Q' v b → Q v b) (k : rm_V M d pc lv st a Q') : rm_V M d pc lv st a Q := fun E I0 sh I J R w e f => zv_post (fun v s1 I1 J1 R1 q => ⟨q.1, q.2.1, q.2.2.1, q.2.2.2.1, q.2.2.2.2.choose, q.2.2.2.2.choose_spec.1, h _ _ q.2.2.2.2.choose_spec.2⟩) (k E I0 sh I J R w e f)
theorem rm_deep {d' : Nat} (h : d' ≤ d) (k : rm_V M d' pc lv st a Q) : rm_V M d pc lv st a Q := fun E I0 sh I J R w e f => zv_deep h (k E I0 sh I J R w e f)
theorem rm_geti {idx : Nat} (j : Nat) {x : Int32} (hd : decode M.2.1 pc = .ok (.getfield idx, 3)) (hf : zv_FL M.1.cls idx 7 j) (hr : zv_rfld 7 j = false) (hx : a 3 j = x) (k : rm_V M d (pc + 3) lv (.int x :: st) a Q) : rm_V M d pc lv (.ref 3 :: st) a Q := fun E I0 sh I J R w e f => zv_geti 7 j hd hf w.1 hr ((congrFun (e 3 (by decide) (by decide)) j).trans hx) (k E I0 sh I J R w e f)
theorem rm_getr {idx : Nat} (j : Nat) {t : Nat} (hd : decode M.2.1 pc = .ok (.getfield idx, 3)) (hf : zv_FL M.1.cls idx 7 j) (hj : j < 28) (hr : zv_rfld 7 j = true) (ht : 4 + j = t) (k : rm_V M d (pc + 3) lv (.ref t :: st) a Q) : rm_V M d pc lv (.ref 3 :: st) a Q := by
  subst ht
  exact fun E I0 sh I J R w e f => zv_getr 7 j hd hf w.1 hr (w.2 j hj hr).1 (k E I0 sh I J R w e f)
theorem rm_puti {idx : Nat} (j : Nat) {x : Int32} (hd : decode M.2.1 pc = .ok (.putfield idx, 3)) (hf : zv_FW M.1.cls M.1.name idx 7 j) (hr : zv_rfld 7 j = false) (k : rm_V M d (pc + 3) lv st (zv_u a 3 j x) Q) : rm_V M d pc lv (.int x :: .ref 3 :: st) a Q := fun E I0 sh I J R w e f => zv_puti 7 j hd hf w.1 hr (k E I0 sh (zv_u I 3 j x) J R w (rm_E_u e) (rm_F_u (by decide) (by decide) f))
theorem rm_iald {t f j : Nat} {i x : Int32} (hd : decode M.2.1 pc = .ok (.iaload, 1)) (hf : t = 4 + f) (hf2 : f < 28) (hr : zv_rfld 7 f = true) (hk : rm_kd f = 0) (hi : i = nI j) (hj : j < rm_sz f) (hx : a t j = x) (k : rm_V M d (pc + 1) lv (.int x :: st) a Q) : rm_V M d pc lv (.int i :: .ref t :: st) a Q := by
  subst hf
  intro E I0 sh I J R w e g
  have hs := (w.2 f hf2 hr).2
  rw [hk] at hs
  exact zv_iald hd hs hi hj (rm_sz_lt f) ((congrFun (e (4 + f) (by omega) (by omega)) j).trans hx) (k E I0 sh I J R w e g)
theorem rm_zald {j : Nat} {i x : Int32} (hd : decode M.2.1 pc = .ok (.baload, 1)) (hi : i = nI j) (hj : j < 40000) (hx : a 26 j = x) (k : rm_V M d (pc + 1) lv (.int x :: st) a Q) : rm_V M d pc lv (.int i :: .ref 26 :: st) a Q := fun E I0 sh I J R w e g =>
  zv_zald hd (rmS22 w) hi hj (by decide) ((congrFun (e 26 (by decide) (by decide)) j).trans hx) (k E I0 sh I J R w e g)
theorem rm_iast {t f j : Nat} {i x : Int32} (hd : decode M.2.1 pc = .ok (.iastore, 1)) (hf : t = 4 + f) (hf2 : f < 28) (hr : zv_rfld 7 f = true) (hk : rm_kd f = 0) (hi : i = nI j) (hj : j < rm_sz f) (k : rm_V M d (pc + 1) lv st (zv_u a t j x) Q) : rm_V M d pc lv (.int x :: .int i :: .ref t :: st) a Q := by
  subst hf
  intro E I0 sh I J R w e g
  have hs := (w.2 f hf2 hr).2
  rw [hk] at hs
  exact zv_iast hd hs hi hj (rm_sz_lt f) (k E I0 sh (zv_u I (4 + f) j x) J R w (rm_E_u e) (rm_F_u (by omega) (by omega) g))
theorem rm_zast {j : Nat} {i x : Int32} (hd : decode M.2.1 pc = .ok (.bastore, 1)) (hi : i = nI j) (hj : j < 40000) (hx : vp_nar .boolean x = x) (k : rm_V M d (pc + 1) lv st (zv_u a 26 j x) Q) : rm_V M d pc lv (.int x :: .int i :: .ref 26 :: st) a Q := fun E I0 sh I J R w e g =>
  zv_zast hd (rmS22 w) hi hj (by decide) hx (k E I0 sh (zv_u I 26 j x) J R w (rm_E_u e) (rm_F_u (by decide) (by decide) g))
/-- ends -/
theorem rm_iret {x : Int32} {ty : FieldType} (hd : decode M.2.1 pc = .ok (.ireturn, 1)) (ht : M.2.2.2 = some ty) (hn : narrow ty (.int x) = .int x) (hq : Q (some (.int x)) a) : rm_V M d pc lv [.int x] a Q := fun E I0 sh I J R w e f => zv_iret hd ht hn ⟨rfl, rfl, rfl, f, a, e, hq⟩
theorem rm_vret (hd : decode M.2.1 pc = .ok (.return_, 1)) (ht : M.2.2.2 = none) (hq : Q none a) : rm_V M d pc lv [] a Q := fun E I0 sh I J R w e f => zv_vret hd ht ⟨rfl, rfl, rfl, f, a, e, hq⟩
/-- calls -/
theorem rm_callV {M1 : zv_M} {idx n : Nat} {As : List Value} {Q1 : Option Value → zv_I → Prop} (hd : decode M.2.1 pc = .ok (.invokevirtual idx, 3)) (hm : zv_CV M.1.cls idx M1 n) (hc : M1.1.cls = RX8) (hn : As.length = n) (hA : n + 1 ≤ M1.2.2.1) (hcat : ∀ w ∈ As, w.category = 1) (hst : (st.map fun v => v.category).sum ≤ 8)
    (hV : rm_V M1 d 0 (.ref 3 :: As) [] a Q1) (k : ∀ v b, Q1 v b → rm_V M (d + 1) (pc + 3) lv (v.toList ++ st) b Q) : rm_V M (d + 1) pc lv (As.reverse ++ .ref 3 :: st) a Q := by
  subst hn
  intro E I0 sh I J R w e f
  have h := zv_callV (lv := lv) (kc := 0) (ks := 0) (Q := rm_Q I0 sh J R Q) hd hm.1 hm.2.1 hm.2.2.1 hm.2.2.2 (c := 7) w.1 rfl hc.symm hA hcat hst (hV E I0 sh I J R w e f) (fun v s1 I1 J1 R1 q => ?_)
  · exact h
  · obtain ⟨rfl, rfl, rfl, g, b, e1, q1⟩ := q
    exact k v b q1 E I0 _ I1 _ _ w e1 g
theorem rm_callS {M1 : zv_M} {idx n : Nat} {As : List Value} {Q1 : Option Value → zv_I → Prop} (hd : decode M.2.1 pc = .ok (.invokestatic idx, 3)) (hm : zv_CS M.1.cls idx M1 n) (hn : As.length = n) (hA : n ≤ M1.2.2.1) (hcat : ∀ w ∈ As, w.category = 1) (hst : (st.map fun v => v.category).sum ≤ 8)
    (hV : rm_V M1 d 0 As [] a Q1) (k : ∀ v b, Q1 v b → rm_V M (d + 1) (pc + 3) lv (v.toList ++ st) b Q) : rm_V M (d + 1) pc lv (As.reverse ++ st) a Q := by
  subst hn
  intro E I0 sh I J R w e f
  have h := zv_callS (lv := lv) (kc := 0) (ks := 0) (Q := rm_Q I0 sh J R Q) hd hm.1 hm.2.1 hm.2.2 hA hcat hst (hV E I0 sh I J R w e f) (fun v s1 I1 J1 R1 q => ?_)
  · exact h
  · obtain ⟨rfl, rfl, rfl, g, b, e1, q1⟩ := q
    exact k v b q1 E I0 _ I1 _ _ w e1 g
end RM
