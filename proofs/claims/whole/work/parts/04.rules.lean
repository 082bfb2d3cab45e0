section ZR
variable {E : zv_E} {M : zv_M} {d kc ks pc : Nat} {lv st : List Value} {sh : zv_S} {I : zv_I} {J : zv_J} {R : zv_R} {Q : zv_Q}
theorem zv_iconst {n : Int} {v : Int32} (hd : decode M.2.1 pc = .ok (.iconst n, 1)) (hv : Int32.ofInt n = v) (k : zv_V E M d kc ks (pc + 1) lv (.int v :: st) sh I J R Q) : zv_V E M d kc ks pc lv (st) sh I J R Q := by
  intro p l e Rm s m args below meth c Z mc ms sh0 adr0 C adr H locs ls cells slots P h1 h2
  exact lv_iconst C.1 C.2.1 hd hv (k p l e Rm s m args below meth c Z mc ms sh0 adr0 C adr H locs ls cells slots ⟨P.1, P.2.1, P.2.2.1, ⟨trivial, P.2.2.2.1⟩, P.2.2.2.2⟩ h1 h2)
theorem zv_bipush {n : Int} {v : Int32} (hd : decode M.2.1 pc = .ok (.bipush n, 2)) (hv : (Int8.ofInt n).toInt32 = v) (k : zv_V E M d kc ks (pc + 2) lv (.int v :: st) sh I J R Q) : zv_V E M d kc ks pc lv (st) sh I J R Q := by
  intro p l e Rm s m args below meth c Z mc ms sh0 adr0 C adr H locs ls cells slots P h1 h2
  exact lv_bipush C.1 C.2.1 hd hv (k p l e Rm s m args below meth c Z mc ms sh0 adr0 C adr H locs ls cells slots ⟨P.1, P.2.1, P.2.2.1, ⟨trivial, P.2.2.2.1⟩, P.2.2.2.2⟩ h1 h2)
theorem zv_sipush {n : Int} {v : Int32} (hd : decode M.2.1 pc = .ok (.sipush n, 3)) (hv : (Int16.ofInt n).toInt32 = v) (k : zv_V E M d kc ks (pc + 3) lv (.int v :: st) sh I J R Q) : zv_V E M d kc ks pc lv (st) sh I J R Q := by
  intro p l e Rm s m args below meth c Z mc ms sh0 adr0 C adr H locs ls cells slots P h1 h2
  exact lv_sipush C.1 C.2.1 hd hv (k p l e Rm s m args below meth c Z mc ms sh0 adr0 C adr H locs ls cells slots ⟨P.1, P.2.1, P.2.2.1, ⟨trivial, P.2.2.2.1⟩, P.2.2.2.2⟩ h1 h2)
theorem zv_lconst {n : Fin 2} {v : Int64} (hd : decode M.2.1 pc = .ok (.lconst n, 1)) (hv : Int64.ofNat (n : Nat) = v) (k : zv_V E M d kc ks (pc + 1) lv (.long v :: st) sh I J R Q) : zv_V E M d kc ks pc lv (st) sh I J R Q := by
  intro p l e Rm s m args below meth c Z mc ms sh0 adr0 C adr H locs ls cells slots P h1 h2
  exact lv_lconst C.1 C.2.1 hd hv (k p l e Rm s m args below meth c Z mc ms sh0 adr0 C adr H locs ls cells slots ⟨P.1, P.2.1, P.2.2.1, ⟨trivial, P.2.2.2.1⟩, P.2.2.2.2⟩ h1 h2)
theorem zv_null  (hd : decode M.2.1 pc = .ok (.aconst_null, 1)) (k : zv_V E M d kc ks (pc + 1) lv (.null :: st) sh I J R Q) : zv_V E M d kc ks pc lv (st) sh I J R Q := by
  intro p l e Rm s m args below meth c Z mc ms sh0 adr0 C adr H locs ls cells slots P h1 h2
  exact lv_null C.1 C.2.1 hd (k p l e Rm s m args below meth c Z mc ms sh0 adr0 C adr H locs ls cells slots ⟨P.1, P.2.1, P.2.2.1, ⟨trivial, P.2.2.2.1⟩, P.2.2.2.2⟩ h1 h2)
theorem zv_ldc {idx : Nat} {v : Int32} (hd : decode M.2.1 pc = .ok (.ldc idx, 2)) (hw : Cond.constant M.1.cls idx v ∈ zv_gw) (k : zv_V E M d kc ks (pc + 2) lv (.int v :: st) sh I J R Q) : zv_V E M d kc ks pc lv (st) sh I J R Q := by
  intro p l e Rm s m args below meth c Z mc ms sh0 adr0 C adr H locs ls cells slots P h1 h2
  exact lv_ldc C.1 C.2.1 C.2.2.2.1 (C.2.2.2.2.1 _ hw) hd (k p l e Rm s m args below meth c Z mc ms sh0 adr0 C adr H locs ls cells slots ⟨P.1, P.2.1, P.2.2.1, ⟨trivial, P.2.2.2.1⟩, P.2.2.2.2⟩ h1 h2)
theorem zv_ldcw {idx : Nat} {v : Int32} (hd : decode M.2.1 pc = .ok (.ldc_w idx, 3)) (hw : Cond.constant M.1.cls idx v ∈ zv_gw) (k : zv_V E M d kc ks (pc + 3) lv (.int v :: st) sh I J R Q) : zv_V E M d kc ks pc lv (st) sh I J R Q := by
  intro p l e Rm s m args below meth c Z mc ms sh0 adr0 C adr H locs ls cells slots P h1 h2
  exact lv_ldcw C.1 C.2.1 C.2.2.2.1 (C.2.2.2.2.1 _ hw) hd (k p l e Rm s m args below meth c Z mc ms sh0 adr0 C adr H locs ls cells slots ⟨P.1, P.2.1, P.2.2.1, ⟨trivial, P.2.2.2.1⟩, P.2.2.2.2⟩ h1 h2)
theorem zv_ldc2 {idx : Nat} {v : Int64} (hd : decode M.2.1 pc = .ok (.ldc2_w idx, 3)) (hw : Cond.constantLong M.1.cls idx v ∈ zv_gw) (k : zv_V E M d kc ks (pc + 3) lv (.long v :: st) sh I J R Q) : zv_V E M d kc ks pc lv (st) sh I J R Q := by
  intro p l e Rm s m args below meth c Z mc ms sh0 adr0 C adr H locs ls cells slots P h1 h2
  exact lv_ldc2 C.1 C.2.1 C.2.2.2.1 (C.2.2.2.2.1 _ hw) hd (k p l e Rm s m args below meth c Z mc ms sh0 adr0 C adr H locs ls cells slots ⟨P.1, P.2.1, P.2.2.1, ⟨trivial, P.2.2.2.1⟩, P.2.2.2.2⟩ h1 h2)
theorem zv_iload_n {n : Fin 4} {i : Nat} {x : Int32} (hd : decode M.2.1 pc = .ok (.iload_n n, 1)) (hi : (n : Nat) = i) (hl : lv[i]? = some (.int x)) (k : zv_V E M d kc ks (pc + 1) lv (.int x :: st) sh I J R Q) : zv_V E M d kc ks pc lv (st) sh I J R Q := by
  intro p l e Rm s m args below meth c Z mc ms sh0 adr0 C adr H locs ls cells slots P h1 h2
  exact lv_iload_n C.1 C.2.1 hd hi (zv_l_at P.2.1 (show (lv.map (zv_v adr))[i]? = some (.int x) by rw [List.getElem?_map, hl]; rfl)) (k p l e Rm s m args below meth c Z mc ms sh0 adr0 C adr H locs ls cells slots ⟨P.1, P.2.1, P.2.2.1, ⟨trivial, P.2.2.2.1⟩, P.2.2.2.2⟩ h1 h2)
theorem zv_iload {i : Nat} {x : Int32} (hd : decode M.2.1 pc = .ok (.iload i, 2)) (hl : lv[i]? = some (.int x)) (k : zv_V E M d kc ks (pc + 2) lv (.int x :: st) sh I J R Q) : zv_V E M d kc ks pc lv (st) sh I J R Q := by
  intro p l e Rm s m args below meth c Z mc ms sh0 adr0 C adr H locs ls cells slots P h1 h2
  exact lv_iload C.1 C.2.1 hd (zv_l_at P.2.1 (show (lv.map (zv_v adr))[i]? = some (.int x) by rw [List.getElem?_map, hl]; rfl)) (k p l e Rm s m args below meth c Z mc ms sh0 adr0 C adr H locs ls cells slots ⟨P.1, P.2.1, P.2.2.1, ⟨trivial, P.2.2.2.1⟩, P.2.2.2.2⟩ h1 h2)
theorem zv_aload_n {n : Fin 4} {i t : Nat} (hd : decode M.2.1 pc = .ok (.aload_n n, 1)) (hi : (n : Nat) = i) (hl : lv[i]? = some (.ref t)) (k : zv_V E M d kc ks (pc + 1) lv (.ref t :: st) sh I J R Q) : zv_V E M d kc ks pc lv (st) sh I J R Q := by
  intro p l e Rm s m args below meth c Z mc ms sh0 adr0 C adr H locs ls cells slots P h1 h2
  exact lv_aload_n C.1 C.2.1 hd hi (zv_l_at P.2.1 (show (lv.map (zv_v adr))[i]? = some (.ref (adr t)) by rw [List.getElem?_map, hl]; rfl)) (k p l e Rm s m args below meth c Z mc ms sh0 adr0 C adr H locs ls cells slots ⟨P.1, P.2.1, P.2.2.1, ⟨zv_oks_at P.2.2.1 hl, P.2.2.2.1⟩, P.2.2.2.2⟩ h1 h2)
theorem zv_aload {i t : Nat} (hd : decode M.2.1 pc = .ok (.aload i, 2)) (hl : lv[i]? = some (.ref t)) (k : zv_V E M d kc ks (pc + 2) lv (.ref t :: st) sh I J R Q) : zv_V E M d kc ks pc lv (st) sh I J R Q := by
  intro p l e Rm s m args below meth c Z mc ms sh0 adr0 C adr H locs ls cells slots P h1 h2
  exact lv_aload C.1 C.2.1 hd (zv_l_at P.2.1 (show (lv.map (zv_v adr))[i]? = some (.ref (adr t)) by rw [List.getElem?_map, hl]; rfl)) (k p l e Rm s m args below meth c Z mc ms sh0 adr0 C adr H locs ls cells slots ⟨P.1, P.2.1, P.2.2.1, ⟨zv_oks_at P.2.2.1 hl, P.2.2.2.1⟩, P.2.2.2.2⟩ h1 h2)
theorem zv_aload_nN {n : Fin 4} {i : Nat} (hd : decode M.2.1 pc = .ok (.aload_n n, 1)) (hi : (n : Nat) = i) (hl : lv[i]? = some .null) (k : zv_V E M d kc ks (pc + 1) lv (.null :: st) sh I J R Q) : zv_V E M d kc ks pc lv (st) sh I J R Q := by
  intro p l e Rm s m args below meth c Z mc ms sh0 adr0 C adr H locs ls cells slots P h1 h2
  exact lv_aload_nN C.1 C.2.1 hd hi (zv_l_at P.2.1 (show (lv.map (zv_v adr))[i]? = some (.null) by rw [List.getElem?_map, hl]; rfl)) (k p l e Rm s m args below meth c Z mc ms sh0 adr0 C adr H locs ls cells slots ⟨P.1, P.2.1, P.2.2.1, ⟨trivial, P.2.2.2.1⟩, P.2.2.2.2⟩ h1 h2)
theorem zv_aloadN {i : Nat} (hd : decode M.2.1 pc = .ok (.aload i, 2)) (hl : lv[i]? = some .null) (k : zv_V E M d kc ks (pc + 2) lv (.null :: st) sh I J R Q) : zv_V E M d kc ks pc lv (st) sh I J R Q := by
  intro p l e Rm s m args below meth c Z mc ms sh0 adr0 C adr H locs ls cells slots P h1 h2
  exact lv_aloadN C.1 C.2.1 hd (zv_l_at P.2.1 (show (lv.map (zv_v adr))[i]? = some (.null) by rw [List.getElem?_map, hl]; rfl)) (k p l e Rm s m args below meth c Z mc ms sh0 adr0 C adr H locs ls cells slots ⟨P.1, P.2.1, P.2.2.1, ⟨trivial, P.2.2.2.1⟩, P.2.2.2.2⟩ h1 h2)
theorem zv_istore_n {n : Fin 4} {i : Nat} {x : Int32} {lv' : List Value} (hd : decode M.2.1 pc = .ok (.istore_n n, 1)) (hi : (n : Nat) = i) (hn : i < M.2.2.1) (hl : zv_ls lv i (.int x) = some lv') (k : zv_V E M d kc ks (pc + 1) lv' st sh I J R Q) : zv_V E M d kc ks pc lv (.int x :: st) sh I J R Q := by
  intro p l e Rm s m args below meth c Z mc ms sh0 adr0 C adr H locs ls cells slots P h1 h2
  refine lv_istore_n C.1 C.2.1 hd hi P.2.1.1 hn rfl (fun ls' hl' => ?_)
  exact k p l e Rm s m args below meth c Z mc ms sh0 adr0 C adr H locs ls' cells slots ⟨P.1, zv_l_set P.2.1.2 rfl (zv_ls_map (zv_v adr) lv i (.int x) lv' hl) hl', zv_ls_oks hl P.2.2.1 P.2.2.2.1.1, P.2.2.2.1.2, P.2.2.2.2⟩ h1 h2
theorem zv_istore {i : Nat} {x : Int32} {lv' : List Value} (hd : decode M.2.1 pc = .ok (.istore i, 2)) (hn : i < M.2.2.1) (hl : zv_ls lv i (.int x) = some lv') (k : zv_V E M d kc ks (pc + 2) lv' st sh I J R Q) : zv_V E M d kc ks pc lv (.int x :: st) sh I J R Q := by
  intro p l e Rm s m args below meth c Z mc ms sh0 adr0 C adr H locs ls cells slots P h1 h2
  refine lv_istore C.1 C.2.1 hd P.2.1.1 hn rfl (fun ls' hl' => ?_)
  exact k p l e Rm s m args below meth c Z mc ms sh0 adr0 C adr H locs ls' cells slots ⟨P.1, zv_l_set P.2.1.2 rfl (zv_ls_map (zv_v adr) lv i (.int x) lv' hl) hl', zv_ls_oks hl P.2.2.1 P.2.2.2.1.1, P.2.2.2.1.2, P.2.2.2.2⟩ h1 h2
theorem zv_astore_n {n : Fin 4} {i t : Nat} {lv' : List Value} (hd : decode M.2.1 pc = .ok (.astore_n n, 1)) (hi : (n : Nat) = i) (hn : i < M.2.2.1) (hl : zv_ls lv i (.ref t) = some lv') (k : zv_V E M d kc ks (pc + 1) lv' st sh I J R Q) : zv_V E M d kc ks pc lv (.ref t :: st) sh I J R Q := by
  intro p l e Rm s m args below meth c Z mc ms sh0 adr0 C adr H locs ls cells slots P h1 h2
  refine lv_astore_n C.1 C.2.1 hd hi P.2.1.1 hn rfl (fun ls' hl' => ?_)
  exact k p l e Rm s m args below meth c Z mc ms sh0 adr0 C adr H locs ls' cells slots ⟨P.1, zv_l_set P.2.1.2 rfl (zv_ls_map (zv_v adr) lv i (.ref t) lv' hl) hl', zv_ls_oks hl P.2.2.1 P.2.2.2.1.1, P.2.2.2.1.2, P.2.2.2.2⟩ h1 h2
theorem zv_astore {i t : Nat} {lv' : List Value} (hd : decode M.2.1 pc = .ok (.astore i, 2)) (hn : i < M.2.2.1) (hl : zv_ls lv i (.ref t) = some lv') (k : zv_V E M d kc ks (pc + 2) lv' st sh I J R Q) : zv_V E M d kc ks pc lv (.ref t :: st) sh I J R Q := by
  intro p l e Rm s m args below meth c Z mc ms sh0 adr0 C adr H locs ls cells slots P h1 h2
  refine lv_astore C.1 C.2.1 hd P.2.1.1 hn rfl (fun ls' hl' => ?_)
  exact k p l e Rm s m args below meth c Z mc ms sh0 adr0 C adr H locs ls' cells slots ⟨P.1, zv_l_set P.2.1.2 rfl (zv_ls_map (zv_v adr) lv i (.ref t) lv' hl) hl', zv_ls_oks hl P.2.2.1 P.2.2.2.1.1, P.2.2.2.1.2, P.2.2.2.2⟩ h1 h2
theorem zv_astore_nN {n : Fin 4} {i : Nat} {lv' : List Value} (hd : decode M.2.1 pc = .ok (.astore_n n, 1)) (hi : (n : Nat) = i) (hn : i < M.2.2.1) (hl : zv_ls lv i (.null) = some lv') (k : zv_V E M d kc ks (pc + 1) lv' st sh I J R Q) : zv_V E M d kc ks pc lv (.null :: st) sh I J R Q := by
  intro p l e Rm s m args below meth c Z mc ms sh0 adr0 C adr H locs ls cells slots P h1 h2
  refine lv_astore_nN C.1 C.2.1 hd hi P.2.1.1 hn rfl (fun ls' hl' => ?_)
  exact k p l e Rm s m args below meth c Z mc ms sh0 adr0 C adr H locs ls' cells slots ⟨P.1, zv_l_set P.2.1.2 rfl (zv_ls_map (zv_v adr) lv i (.null) lv' hl) hl', zv_ls_oks hl P.2.2.1 P.2.2.2.1.1, P.2.2.2.1.2, P.2.2.2.2⟩ h1 h2
theorem zv_astoreN {i : Nat} {lv' : List Value} (hd : decode M.2.1 pc = .ok (.astore i, 2)) (hn : i < M.2.2.1) (hl : zv_ls lv i (.null) = some lv') (k : zv_V E M d kc ks (pc + 2) lv' st sh I J R Q) : zv_V E M d kc ks pc lv (.null :: st) sh I J R Q := by
  intro p l e Rm s m args below meth c Z mc ms sh0 adr0 C adr H locs ls cells slots P h1 h2
  refine lv_astoreN C.1 C.2.1 hd P.2.1.1 hn rfl (fun ls' hl' => ?_)
  exact k p l e Rm s m args below meth c Z mc ms sh0 adr0 C adr H locs ls' cells slots ⟨P.1, zv_l_set P.2.1.2 rfl (zv_ls_map (zv_v adr) lv i (.null) lv' hl) hl', zv_ls_oks hl P.2.2.1 P.2.2.2.1.1, P.2.2.2.1.2, P.2.2.2.2⟩ h1 h2
theorem zv_iinc {i : Nat} {n : Int} {x v : Int32} {lv' : List Value} (hd : decode M.2.1 pc = .ok (.iinc i n, 3)) (hx : lv[i]? = some (.int x)) (hv : x + Int32.ofInt n = v) (hn : i < M.2.2.1) (hl : zv_ls lv i (.int v) = some lv') (k : zv_V E M d kc ks (pc + 3) lv' st sh I J R Q) : zv_V E M d kc ks pc lv st sh I J R Q := by
  intro p l e Rm s m args below meth c Z mc ms sh0 adr0 C adr H locs ls cells slots P h1 h2
  have hz := zv_z_get (lv.map (zv_v adr)) 0 i (.int x) (by rw [List.getElem?_map, hx]; rfl)
  rw [Nat.zero_add] at hz
  obtain ⟨q, hq⟩ := List.getElem?_of_mem hz
  refine lv_iinc C.1 C.2.1 hd P.2.1.1 hq hv hn rfl (fun ls' hl' => ?_)
  exact k p l e Rm s m args below meth c Z mc ms sh0 adr0 C adr H locs ls' cells slots ⟨P.1, zv_l_set P.2.1.2 rfl (zv_ls_map (zv_v adr) lv i (.int v) lv' hl) hl', zv_ls_oks hl P.2.2.1 trivial, P.2.2.2.1, P.2.2.2.2⟩ h1 h2
theorem zv_iadd {x y : Int32} (hd : decode M.2.1 pc = .ok (.iadd, 1)) (k : zv_V E M d kc ks (pc + 1) lv (.int (x + y) :: st) sh I J R Q) : zv_V E M d kc ks pc lv (.int y :: .int x :: st) sh I J R Q := by
  intro p l e Rm s m args below meth c Z mc ms sh0 adr0 C adr H locs ls cells slots P h1 h2
  exact lv_iadd C.1 C.2.1 hd (k p l e Rm s m args below meth c Z mc ms sh0 adr0 C adr H locs ls cells slots ⟨P.1, P.2.1, P.2.2.1, ⟨trivial, P.2.2.2.1.2.2⟩, P.2.2.2.2⟩ h1 h2)
theorem zv_isub {x y : Int32} (hd : decode M.2.1 pc = .ok (.isub, 1)) (k : zv_V E M d kc ks (pc + 1) lv (.int (x - y) :: st) sh I J R Q) : zv_V E M d kc ks pc lv (.int y :: .int x :: st) sh I J R Q := by
  intro p l e Rm s m args below meth c Z mc ms sh0 adr0 C adr H locs ls cells slots P h1 h2
  exact lv_isub C.1 C.2.1 hd (k p l e Rm s m args below meth c Z mc ms sh0 adr0 C adr H locs ls cells slots ⟨P.1, P.2.1, P.2.2.1, ⟨trivial, P.2.2.2.1.2.2⟩, P.2.2.2.2⟩ h1 h2)
theorem zv_imul {x y : Int32} (hd : decode M.2.1 pc = .ok (.imul, 1)) (k : zv_V E M d kc ks (pc + 1) lv (.int (x * y) :: st) sh I J R Q) : zv_V E M d kc ks pc lv (.int y :: .int x :: st) sh I J R Q := by
  intro p l e Rm s m args below meth c Z mc ms sh0 adr0 C adr H locs ls cells slots P h1 h2
  exact lv_imul C.1 C.2.1 hd (k p l e Rm s m args below meth c Z mc ms sh0 adr0 C adr H locs ls cells slots ⟨P.1, P.2.1, P.2.2.1, ⟨trivial, P.2.2.2.1.2.2⟩, P.2.2.2.2⟩ h1 h2)
theorem zv_iand {x y : Int32} (hd : decode M.2.1 pc = .ok (.iand, 1)) (k : zv_V E M d kc ks (pc + 1) lv (.int (x &&& y) :: st) sh I J R Q) : zv_V E M d kc ks pc lv (.int y :: .int x :: st) sh I J R Q := by
  intro p l e Rm s m args below meth c Z mc ms sh0 adr0 C adr H locs ls cells slots P h1 h2
  exact lv_iand C.1 C.2.1 hd (k p l e Rm s m args below meth c Z mc ms sh0 adr0 C adr H locs ls cells slots ⟨P.1, P.2.1, P.2.2.1, ⟨trivial, P.2.2.2.1.2.2⟩, P.2.2.2.2⟩ h1 h2)
theorem zv_ior {x y : Int32} (hd : decode M.2.1 pc = .ok (.ior, 1)) (k : zv_V E M d kc ks (pc + 1) lv (.int (x ||| y) :: st) sh I J R Q) : zv_V E M d kc ks pc lv (.int y :: .int x :: st) sh I J R Q := by
  intro p l e Rm s m args below meth c Z mc ms sh0 adr0 C adr H locs ls cells slots P h1 h2
  exact lv_ior C.1 C.2.1 hd (k p l e Rm s m args below meth c Z mc ms sh0 adr0 C adr H locs ls cells slots ⟨P.1, P.2.1, P.2.2.1, ⟨trivial, P.2.2.2.1.2.2⟩, P.2.2.2.2⟩ h1 h2)
theorem zv_ixor {x y : Int32} (hd : decode M.2.1 pc = .ok (.ixor, 1)) (k : zv_V E M d kc ks (pc + 1) lv (.int (x ^^^ y) :: st) sh I J R Q) : zv_V E M d kc ks pc lv (.int y :: .int x :: st) sh I J R Q := by
  intro p l e Rm s m args below meth c Z mc ms sh0 adr0 C adr H locs ls cells slots P h1 h2
  exact lv_ixor C.1 C.2.1 hd (k p l e Rm s m args below meth c Z mc ms sh0 adr0 C adr H locs ls cells slots ⟨P.1, P.2.1, P.2.2.1, ⟨trivial, P.2.2.2.1.2.2⟩, P.2.2.2.2⟩ h1 h2)
theorem zv_ishl {x y : Int32} (hd : decode M.2.1 pc = .ok (.ishl, 1)) (k : zv_V E M d kc ks (pc + 1) lv (.int (x <<< (y &&& 31)) :: st) sh I J R Q) : zv_V E M d kc ks pc lv (.int y :: .int x :: st) sh I J R Q := by
  intro p l e Rm s m args below meth c Z mc ms sh0 adr0 C adr H locs ls cells slots P h1 h2
  exact lv_ishl C.1 C.2.1 hd (k p l e Rm s m args below meth c Z mc ms sh0 adr0 C adr H locs ls cells slots ⟨P.1, P.2.1, P.2.2.1, ⟨trivial, P.2.2.2.1.2.2⟩, P.2.2.2.2⟩ h1 h2)
theorem zv_ishr {x y : Int32} (hd : decode M.2.1 pc = .ok (.ishr, 1)) (k : zv_V E M d kc ks (pc + 1) lv (.int (x >>> (y &&& 31)) :: st) sh I J R Q) : zv_V E M d kc ks pc lv (.int y :: .int x :: st) sh I J R Q := by
  intro p l e Rm s m args below meth c Z mc ms sh0 adr0 C adr H locs ls cells slots P h1 h2
  exact lv_ishr C.1 C.2.1 hd (k p l e Rm s m args below meth c Z mc ms sh0 adr0 C adr H locs ls cells slots ⟨P.1, P.2.1, P.2.2.1, ⟨trivial, P.2.2.2.1.2.2⟩, P.2.2.2.2⟩ h1 h2)
theorem zv_idiv {x y : Int32} (hd : decode M.2.1 pc = .ok (.idiv, 1)) (hne : ¬ y = 0) (k : zv_V E M d kc ks (pc + 1) lv (.int (x / y) :: st) sh I J R Q) : zv_V E M d kc ks pc lv (.int y :: .int x :: st) sh I J R Q := by
  intro p l e Rm s m args below meth c Z mc ms sh0 adr0 C adr H locs ls cells slots P h1 h2
  exact lv_idiv C.1 C.2.1 hd hne (k p l e Rm s m args below meth c Z mc ms sh0 adr0 C adr H locs ls cells slots ⟨P.1, P.2.1, P.2.2.1, ⟨trivial, P.2.2.2.1.2.2⟩, P.2.2.2.2⟩ h1 h2)
theorem zv_irem {x y : Int32} (hd : decode M.2.1 pc = .ok (.irem, 1)) (hne : ¬ y = 0) (k : zv_V E M d kc ks (pc + 1) lv (.int (x - x / y * y) :: st) sh I J R Q) : zv_V E M d kc ks pc lv (.int y :: .int x :: st) sh I J R Q := by
  intro p l e Rm s m args below meth c Z mc ms sh0 adr0 C adr H locs ls cells slots P h1 h2
  exact lv_irem C.1 C.2.1 hd hne (k p l e Rm s m args below meth c Z mc ms sh0 adr0 C adr H locs ls cells slots ⟨P.1, P.2.1, P.2.2.1, ⟨trivial, P.2.2.2.1.2.2⟩, P.2.2.2.2⟩ h1 h2)
theorem zv_iushr {x y v : Int32} (hd : decode M.2.1 pc = .ok (.iushr, 1)) (hv : (x.toUInt32 >>> (y.toUInt32 &&& Int32.toUInt32 31)).toInt32 = v) (k : zv_V E M d kc ks (pc + 1) lv (.int v :: st) sh I J R Q) : zv_V E M d kc ks pc lv (.int y :: .int x :: st) sh I J R Q := by
  intro p l e Rm s m args below meth c Z mc ms sh0 adr0 C adr H locs ls cells slots P h1 h2
  exact lv_iushr C.1 C.2.1 hd hv (k p l e Rm s m args below meth c Z mc ms sh0 adr0 C adr H locs ls cells slots ⟨P.1, P.2.1, P.2.2.1, ⟨trivial, P.2.2.2.1.2.2⟩, P.2.2.2.2⟩ h1 h2)
theorem zv_ladd {x y : Int64} (hd : decode M.2.1 pc = .ok (.ladd, 1)) (k : zv_V E M d kc ks (pc + 1) lv (.long (x + y) :: st) sh I J R Q) : zv_V E M d kc ks pc lv (.long y :: .long x :: st) sh I J R Q := by
  intro p l e Rm s m args below meth c Z mc ms sh0 adr0 C adr H locs ls cells slots P h1 h2
  exact lv_ladd C.1 C.2.1 hd (k p l e Rm s m args below meth c Z mc ms sh0 adr0 C adr H locs ls cells slots ⟨P.1, P.2.1, P.2.2.1, ⟨trivial, P.2.2.2.1.2.2⟩, P.2.2.2.2⟩ h1 h2)
theorem zv_lsub {x y : Int64} (hd : decode M.2.1 pc = .ok (.lsub, 1)) (k : zv_V E M d kc ks (pc + 1) lv (.long (x - y) :: st) sh I J R Q) : zv_V E M d kc ks pc lv (.long y :: .long x :: st) sh I J R Q := by
  intro p l e Rm s m args below meth c Z mc ms sh0 adr0 C adr H locs ls cells slots P h1 h2
  exact lv_lsub C.1 C.2.1 hd (k p l e Rm s m args below meth c Z mc ms sh0 adr0 C adr H locs ls cells slots ⟨P.1, P.2.1, P.2.2.1, ⟨trivial, P.2.2.2.1.2.2⟩, P.2.2.2.2⟩ h1 h2)
theorem zv_land {x y : Int64} (hd : decode M.2.1 pc = .ok (.land, 1)) (k : zv_V E M d kc ks (pc + 1) lv (.long (x &&& y) :: st) sh I J R Q) : zv_V E M d kc ks pc lv (.long y :: .long x :: st) sh I J R Q := by
  intro p l e Rm s m args below meth c Z mc ms sh0 adr0 C adr H locs ls cells slots P h1 h2
  exact lv_land C.1 C.2.1 hd (k p l e Rm s m args below meth c Z mc ms sh0 adr0 C adr H locs ls cells slots ⟨P.1, P.2.1, P.2.2.1, ⟨trivial, P.2.2.2.1.2.2⟩, P.2.2.2.2⟩ h1 h2)
theorem zv_lor {x y : Int64} (hd : decode M.2.1 pc = .ok (.lor, 1)) (k : zv_V E M d kc ks (pc + 1) lv (.long (x ||| y) :: st) sh I J R Q) : zv_V E M d kc ks pc lv (.long y :: .long x :: st) sh I J R Q := by
  intro p l e Rm s m args below meth c Z mc ms sh0 adr0 C adr H locs ls cells slots P h1 h2
  exact lv_lor C.1 C.2.1 hd (k p l e Rm s m args below meth c Z mc ms sh0 adr0 C adr H locs ls cells slots ⟨P.1, P.2.1, P.2.2.1, ⟨trivial, P.2.2.2.1.2.2⟩, P.2.2.2.2⟩ h1 h2)
theorem zv_lushr {x v : Int64} {y : Int32} (hd : decode M.2.1 pc = .ok (.lushr, 1)) (hv : (x.toUInt64 >>> (y.toInt64.toUInt64 &&& Int64.toUInt64 63)).toInt64 = v) (k : zv_V E M d kc ks (pc + 1) lv (.long v :: st) sh I J R Q) : zv_V E M d kc ks pc lv (.int y :: .long x :: st) sh I J R Q := by
  intro p l e Rm s m args below meth c Z mc ms sh0 adr0 C adr H locs ls cells slots P h1 h2
  exact lv_lushr C.1 C.2.1 hd hv (k p l e Rm s m args below meth c Z mc ms sh0 adr0 C adr H locs ls cells slots ⟨P.1, P.2.1, P.2.2.1, ⟨trivial, P.2.2.2.1.2.2⟩, P.2.2.2.2⟩ h1 h2)
theorem zv_lshl {x v : Int64} {y : Int32} (hd : decode M.2.1 pc = .ok (.lshl, 1)) (hv : x <<< (y.toInt64 &&& 63) = v) (k : zv_V E M d kc ks (pc + 1) lv (.long v :: st) sh I J R Q) : zv_V E M d kc ks pc lv (.int y :: .long x :: st) sh I J R Q := by
  intro p l e Rm s m args below meth c Z mc ms sh0 adr0 C adr H locs ls cells slots P h1 h2
  exact lv_lshl C.1 C.2.1 hd hv (k p l e Rm s m args below meth c Z mc ms sh0 adr0 C adr H locs ls cells slots ⟨P.1, P.2.1, P.2.2.1, ⟨trivial, P.2.2.2.1.2.2⟩, P.2.2.2.2⟩ h1 h2)
theorem zv_l2i {x : Int64} {v : Int32} (hd : decode M.2.1 pc = .ok (.l2i, 1)) (hv : x.toInt32 = v) (k : zv_V E M d kc ks (pc + 1) lv (.int v :: st) sh I J R Q) : zv_V E M d kc ks pc lv (.long x :: st) sh I J R Q := by
  intro p l e Rm s m args below meth c Z mc ms sh0 adr0 C adr H locs ls cells slots P h1 h2
  exact lv_l2i C.1 C.2.1 hd hv (k p l e Rm s m args below meth c Z mc ms sh0 adr0 C adr H locs ls cells slots ⟨P.1, P.2.1, P.2.2.1, ⟨trivial, P.2.2.2.1.2⟩, P.2.2.2.2⟩ h1 h2)
theorem zv_dup {v : Value} (hd : decode M.2.1 pc = .ok (.dup, 1)) (hv : v.category = 1) (k : zv_V E M d kc ks (pc + 1) lv (v :: v :: st) sh I J R Q) : zv_V E M d kc ks pc lv (v :: st) sh I J R Q := by
  intro p l e Rm s m args below meth c Z mc ms sh0 adr0 C adr H locs ls cells slots P h1 h2
  exact lv_dup C.1 C.2.1 hd ((zv_v_cat adr v).trans hv) (k p l e Rm s m args below meth c Z mc ms sh0 adr0 C adr H locs ls cells slots ⟨P.1, P.2.1, P.2.2.1, ⟨P.2.2.2.1.1, P.2.2.2.1⟩, P.2.2.2.2⟩ h1 h2)
theorem zv_pop {v : Value} (hd : decode M.2.1 pc = .ok (.pop, 1)) (hv : v.category = 1) (k : zv_V E M d kc ks (pc + 1) lv (st) sh I J R Q) : zv_V E M d kc ks pc lv (v :: st) sh I J R Q := by
  intro p l e Rm s m args below meth c Z mc ms sh0 adr0 C adr H locs ls cells slots P h1 h2
  exact lv_pop C.1 C.2.1 hd ((zv_v_cat adr v).trans hv) (k p l e Rm s m args below meth c Z mc ms sh0 adr0 C adr H locs ls cells slots ⟨P.1, P.2.1, P.2.2.1, P.2.2.2.1.2, P.2.2.2.2⟩ h1 h2)
theorem zv_dup2 {v w : Value} (hd : decode M.2.1 pc = .ok (.dup2, 1)) (hv : v.category = 1) (hw : w.category = 1) (k : zv_V E M d kc ks (pc + 1) lv (v :: w :: v :: w :: st) sh I J R Q) : zv_V E M d kc ks pc lv (v :: w :: st) sh I J R Q := by
  intro p l e Rm s m args below meth c Z mc ms sh0 adr0 C adr H locs ls cells slots P h1 h2
  exact lv_dup2_11 C.1 C.2.1 hd ((zv_v_cat adr v).trans hv) ((zv_v_cat adr w).trans hw) (k p l e Rm s m args below meth c Z mc ms sh0 adr0 C adr H locs ls cells slots ⟨P.1, P.2.1, P.2.2.1, ⟨P.2.2.2.1.1, P.2.2.2.1.2.1, P.2.2.2.1⟩, P.2.2.2.2⟩ h1 h2)
-- BRANCHES
theorem zv_if_eq {x : Int32} {off : Int} {tgt : Nat} (hd : decode M.2.1 pc = .ok (.ifCond .eq off, 3)) (ht : (pc : Int) + off = (tgt : Int)) (kt : x = 0 → zv_V E M d kc ks tgt lv st sh I J R Q) (kf : ¬ x = 0 → zv_V E M d kc ks (pc + 3) lv st sh I J R Q) : zv_V E M d kc ks pc lv (.int x :: st) sh I J R Q := by
  intro p l e Rm s m args below meth c Z mc ms sh0 adr0 C adr H locs ls cells slots P h1 h2
  exact lv_if_eq C.1 C.2.1 hd ht (fun hc => (kt hc p l e Rm s m args below meth c Z mc ms sh0 adr0 C adr H locs ls cells slots ⟨P.1, P.2.1, P.2.2.1, P.2.2.2.1.2, P.2.2.2.2⟩ h1 h2)) (fun hc => (kf hc p l e Rm s m args below meth c Z mc ms sh0 adr0 C adr H locs ls cells slots ⟨P.1, P.2.1, P.2.2.1, P.2.2.2.1.2, P.2.2.2.2⟩ h1 h2))
theorem zv_icmp_eq {x y : Int32} {off : Int} {tgt : Nat} (hd : decode M.2.1 pc = .ok (.if_icmp .eq off, 3)) (ht : (pc : Int) + off = (tgt : Int)) (kt : x = y → zv_V E M d kc ks tgt lv st sh I J R Q) (kf : ¬ x = y → zv_V E M d kc ks (pc + 3) lv st sh I J R Q) : zv_V E M d kc ks pc lv (.int y :: .int x :: st) sh I J R Q := by
  intro p l e Rm s m args below meth c Z mc ms sh0 adr0 C adr H locs ls cells slots P h1 h2
  exact lv_icmp_eq C.1 C.2.1 hd ht (fun hc => (kt hc p l e Rm s m args below meth c Z mc ms sh0 adr0 C adr H locs ls cells slots ⟨P.1, P.2.1, P.2.2.1, P.2.2.2.1.2.2, P.2.2.2.2⟩ h1 h2)) (fun hc => (kf hc p l e Rm s m args below meth c Z mc ms sh0 adr0 C adr H locs ls cells slots ⟨P.1, P.2.1, P.2.2.1, P.2.2.2.1.2.2, P.2.2.2.2⟩ h1 h2))
theorem zv_if_ne {x : Int32} {off : Int} {tgt : Nat} (hd : decode M.2.1 pc = .ok (.ifCond .ne off, 3)) (ht : (pc : Int) + off = (tgt : Int)) (kt : ¬ x = 0 → zv_V E M d kc ks tgt lv st sh I J R Q) (kf : x = 0 → zv_V E M d kc ks (pc + 3) lv st sh I J R Q) : zv_V E M d kc ks pc lv (.int x :: st) sh I J R Q := by
  intro p l e Rm s m args below meth c Z mc ms sh0 adr0 C adr H locs ls cells slots P h1 h2
  exact lv_if_ne C.1 C.2.1 hd ht (fun hc => (kt hc p l e Rm s m args below meth c Z mc ms sh0 adr0 C adr H locs ls cells slots ⟨P.1, P.2.1, P.2.2.1, P.2.2.2.1.2, P.2.2.2.2⟩ h1 h2)) (fun hc => (kf hc p l e Rm s m args below meth c Z mc ms sh0 adr0 C adr H locs ls cells slots ⟨P.1, P.2.1, P.2.2.1, P.2.2.2.1.2, P.2.2.2.2⟩ h1 h2))
theorem zv_icmp_ne {x y : Int32} {off : Int} {tgt : Nat} (hd : decode M.2.1 pc = .ok (.if_icmp .ne off, 3)) (ht : (pc : Int) + off = (tgt : Int)) (kt : ¬ x = y → zv_V E M d kc ks tgt lv st sh I J R Q) (kf : x = y → zv_V E M d kc ks (pc + 3) lv st sh I J R Q) : zv_V E M d kc ks pc lv (.int y :: .int x :: st) sh I J R Q := by
  intro p l e Rm s m args below meth c Z mc ms sh0 adr0 C adr H locs ls cells slots P h1 h2
  exact lv_icmp_ne C.1 C.2.1 hd ht (fun hc => (kt hc p l e Rm s m args below meth c Z mc ms sh0 adr0 C adr H locs ls cells slots ⟨P.1, P.2.1, P.2.2.1, P.2.2.2.1.2.2, P.2.2.2.2⟩ h1 h2)) (fun hc => (kf hc p l e Rm s m args below meth c Z mc ms sh0 adr0 C adr H locs ls cells slots ⟨P.1, P.2.1, P.2.2.1, P.2.2.2.1.2.2, P.2.2.2.2⟩ h1 h2))
theorem zv_if_lt {x : Int32} {off : Int} {tgt : Nat} (hd : decode M.2.1 pc = .ok (.ifCond .lt off, 3)) (ht : (pc : Int) + off = (tgt : Int)) (kt : x < 0 → zv_V E M d kc ks tgt lv st sh I J R Q) (kf : ¬ x < 0 → zv_V E M d kc ks (pc + 3) lv st sh I J R Q) : zv_V E M d kc ks pc lv (.int x :: st) sh I J R Q := by
  intro p l e Rm s m args below meth c Z mc ms sh0 adr0 C adr H locs ls cells slots P h1 h2
  exact lv_if_lt C.1 C.2.1 hd ht (fun hc => (kt hc p l e Rm s m args below meth c Z mc ms sh0 adr0 C adr H locs ls cells slots ⟨P.1, P.2.1, P.2.2.1, P.2.2.2.1.2, P.2.2.2.2⟩ h1 h2)) (fun hc => (kf hc p l e Rm s m args below meth c Z mc ms sh0 adr0 C adr H locs ls cells slots ⟨P.1, P.2.1, P.2.2.1, P.2.2.2.1.2, P.2.2.2.2⟩ h1 h2))
theorem zv_icmp_lt {x y : Int32} {off : Int} {tgt : Nat} (hd : decode M.2.1 pc = .ok (.if_icmp .lt off, 3)) (ht : (pc : Int) + off = (tgt : Int)) (kt : x < y → zv_V E M d kc ks tgt lv st sh I J R Q) (kf : ¬ x < y → zv_V E M d kc ks (pc + 3) lv st sh I J R Q) : zv_V E M d kc ks pc lv (.int y :: .int x :: st) sh I J R Q := by
  intro p l e Rm s m args below meth c Z mc ms sh0 adr0 C adr H locs ls cells slots P h1 h2
  exact lv_icmp_lt C.1 C.2.1 hd ht (fun hc => (kt hc p l e Rm s m args below meth c Z mc ms sh0 adr0 C adr H locs ls cells slots ⟨P.1, P.2.1, P.2.2.1, P.2.2.2.1.2.2, P.2.2.2.2⟩ h1 h2)) (fun hc => (kf hc p l e Rm s m args below meth c Z mc ms sh0 adr0 C adr H locs ls cells slots ⟨P.1, P.2.1, P.2.2.1, P.2.2.2.1.2.2, P.2.2.2.2⟩ h1 h2))
theorem zv_if_ge {x : Int32} {off : Int} {tgt : Nat} (hd : decode M.2.1 pc = .ok (.ifCond .ge off, 3)) (ht : (pc : Int) + off = (tgt : Int)) (kt : 0 ≤ x → zv_V E M d kc ks tgt lv st sh I J R Q) (kf : ¬ 0 ≤ x → zv_V E M d kc ks (pc + 3) lv st sh I J R Q) : zv_V E M d kc ks pc lv (.int x :: st) sh I J R Q := by
  intro p l e Rm s m args below meth c Z mc ms sh0 adr0 C adr H locs ls cells slots P h1 h2
  exact lv_if_ge C.1 C.2.1 hd ht (fun hc => (kt hc p l e Rm s m args below meth c Z mc ms sh0 adr0 C adr H locs ls cells slots ⟨P.1, P.2.1, P.2.2.1, P.2.2.2.1.2, P.2.2.2.2⟩ h1 h2)) (fun hc => (kf hc p l e Rm s m args below meth c Z mc ms sh0 adr0 C adr H locs ls cells slots ⟨P.1, P.2.1, P.2.2.1, P.2.2.2.1.2, P.2.2.2.2⟩ h1 h2))
theorem zv_icmp_ge {x y : Int32} {off : Int} {tgt : Nat} (hd : decode M.2.1 pc = .ok (.if_icmp .ge off, 3)) (ht : (pc : Int) + off = (tgt : Int)) (kt : y ≤ x → zv_V E M d kc ks tgt lv st sh I J R Q) (kf : ¬ y ≤ x → zv_V E M d kc ks (pc + 3) lv st sh I J R Q) : zv_V E M d kc ks pc lv (.int y :: .int x :: st) sh I J R Q := by
  intro p l e Rm s m args below meth c Z mc ms sh0 adr0 C adr H locs ls cells slots P h1 h2
  exact lv_icmp_ge C.1 C.2.1 hd ht (fun hc => (kt hc p l e Rm s m args below meth c Z mc ms sh0 adr0 C adr H locs ls cells slots ⟨P.1, P.2.1, P.2.2.1, P.2.2.2.1.2.2, P.2.2.2.2⟩ h1 h2)) (fun hc => (kf hc p l e Rm s m args below meth c Z mc ms sh0 adr0 C adr H locs ls cells slots ⟨P.1, P.2.1, P.2.2.1, P.2.2.2.1.2.2, P.2.2.2.2⟩ h1 h2))
theorem zv_if_gt {x : Int32} {off : Int} {tgt : Nat} (hd : decode M.2.1 pc = .ok (.ifCond .gt off, 3)) (ht : (pc : Int) + off = (tgt : Int)) (kt : 0 < x → zv_V E M d kc ks tgt lv st sh I J R Q) (kf : ¬ 0 < x → zv_V E M d kc ks (pc + 3) lv st sh I J R Q) : zv_V E M d kc ks pc lv (.int x :: st) sh I J R Q := by
  intro p l e Rm s m args below meth c Z mc ms sh0 adr0 C adr H locs ls cells slots P h1 h2
  exact lv_if_gt C.1 C.2.1 hd ht (fun hc => (kt hc p l e Rm s m args below meth c Z mc ms sh0 adr0 C adr H locs ls cells slots ⟨P.1, P.2.1, P.2.2.1, P.2.2.2.1.2, P.2.2.2.2⟩ h1 h2)) (fun hc => (kf hc p l e Rm s m args below meth c Z mc ms sh0 adr0 C adr H locs ls cells slots ⟨P.1, P.2.1, P.2.2.1, P.2.2.2.1.2, P.2.2.2.2⟩ h1 h2))
theorem zv_icmp_gt {x y : Int32} {off : Int} {tgt : Nat} (hd : decode M.2.1 pc = .ok (.if_icmp .gt off, 3)) (ht : (pc : Int) + off = (tgt : Int)) (kt : y < x → zv_V E M d kc ks tgt lv st sh I J R Q) (kf : ¬ y < x → zv_V E M d kc ks (pc + 3) lv st sh I J R Q) : zv_V E M d kc ks pc lv (.int y :: .int x :: st) sh I J R Q := by
  intro p l e Rm s m args below meth c Z mc ms sh0 adr0 C adr H locs ls cells slots P h1 h2
  exact lv_icmp_gt C.1 C.2.1 hd ht (fun hc => (kt hc p l e Rm s m args below meth c Z mc ms sh0 adr0 C adr H locs ls cells slots ⟨P.1, P.2.1, P.2.2.1, P.2.2.2.1.2.2, P.2.2.2.2⟩ h1 h2)) (fun hc => (kf hc p l e Rm s m args below meth c Z mc ms sh0 adr0 C adr H locs ls cells slots ⟨P.1, P.2.1, P.2.2.1, P.2.2.2.1.2.2, P.2.2.2.2⟩ h1 h2))
theorem zv_if_le {x : Int32} {off : Int} {tgt : Nat} (hd : decode M.2.1 pc = .ok (.ifCond .le off, 3)) (ht : (pc : Int) + off = (tgt : Int)) (kt : x ≤ 0 → zv_V E M d kc ks tgt lv st sh I J R Q) (kf : ¬ x ≤ 0 → zv_V E M d kc ks (pc + 3) lv st sh I J R Q) : zv_V E M d kc ks pc lv (.int x :: st) sh I J R Q := by
  intro p l e Rm s m args below meth c Z mc ms sh0 adr0 C adr H locs ls cells slots P h1 h2
  exact lv_if_le C.1 C.2.1 hd ht (fun hc => (kt hc p l e Rm s m args below meth c Z mc ms sh0 adr0 C adr H locs ls cells slots ⟨P.1, P.2.1, P.2.2.1, P.2.2.2.1.2, P.2.2.2.2⟩ h1 h2)) (fun hc => (kf hc p l e Rm s m args below meth c Z mc ms sh0 adr0 C adr H locs ls cells slots ⟨P.1, P.2.1, P.2.2.1, P.2.2.2.1.2, P.2.2.2.2⟩ h1 h2))
theorem zv_icmp_le {x y : Int32} {off : Int} {tgt : Nat} (hd : decode M.2.1 pc = .ok (.if_icmp .le off, 3)) (ht : (pc : Int) + off = (tgt : Int)) (kt : x ≤ y → zv_V E M d kc ks tgt lv st sh I J R Q) (kf : ¬ x ≤ y → zv_V E M d kc ks (pc + 3) lv st sh I J R Q) : zv_V E M d kc ks pc lv (.int y :: .int x :: st) sh I J R Q := by
  intro p l e Rm s m args below meth c Z mc ms sh0 adr0 C adr H locs ls cells slots P h1 h2
  exact lv_icmp_le C.1 C.2.1 hd ht (fun hc => (kt hc p l e Rm s m args below meth c Z mc ms sh0 adr0 C adr H locs ls cells slots ⟨P.1, P.2.1, P.2.2.1, P.2.2.2.1.2.2, P.2.2.2.2⟩ h1 h2)) (fun hc => (kf hc p l e Rm s m args below meth c Z mc ms sh0 adr0 C adr H locs ls cells slots ⟨P.1, P.2.1, P.2.2.1, P.2.2.2.1.2.2, P.2.2.2.2⟩ h1 h2))
theorem zv_goto {off : Int} {tgt : Nat} (hd : decode M.2.1 pc = .ok (.goto off, 3)) (ht : (pc : Int) + off = (tgt : Int)) (k : zv_V E M d kc ks tgt lv st sh I J R Q) : zv_V E M d kc ks pc lv st sh I J R Q := by
  intro p l e Rm s m args below meth c Z mc ms sh0 adr0 C adr H locs ls cells slots P h1 h2
  exact lv_goto C.1 C.2.1 hd ht (k p l e Rm s m args below meth c Z mc ms sh0 adr0 C adr H locs ls cells slots ⟨P.1, P.2.1, P.2.2.1, P.2.2.2.1, P.2.2.2.2⟩ h1 h2)
theorem zv_ifnonnull {t : Nat} {off : Int} {tgt : Nat} (hd : decode M.2.1 pc = .ok (.ifnonnull off, 3)) (ht : (pc : Int) + off = (tgt : Int)) (k : zv_V E M d kc ks tgt lv st sh I J R Q) : zv_V E M d kc ks pc lv (.ref t :: st) sh I J R Q := by
  intro p l e Rm s m args below meth c Z mc ms sh0 adr0 C adr H locs ls cells slots P h1 h2
  exact lv_ifnonnull C.1 C.2.1 hd ht (k p l e Rm s m args below meth c Z mc ms sh0 adr0 C adr H locs ls cells slots ⟨P.1, P.2.1, P.2.2.1, P.2.2.2.1.2, P.2.2.2.2⟩ h1 h2)
theorem zv_ifnull {t : Nat} {off : Int} (hd : decode M.2.1 pc = .ok (.ifnull off, 3)) (k : zv_V E M d kc ks (pc + 3) lv st sh I J R Q) : zv_V E M d kc ks pc lv (.ref t :: st) sh I J R Q := by
  intro p l e Rm s m args below meth c Z mc ms sh0 adr0 C adr H locs ls cells slots P h1 h2
  exact lv_ifnull C.1 C.2.1 hd (k p l e Rm s m args below meth c Z mc ms sh0 adr0 C adr H locs ls cells slots ⟨P.1, P.2.1, P.2.2.1, P.2.2.2.1.2, P.2.2.2.2⟩ h1 h2)
theorem zv_ifnullN {off : Int} {tgt : Nat} (hd : decode M.2.1 pc = .ok (.ifnull off, 3)) (ht : (pc : Int) + off = (tgt : Int)) (k : zv_V E M d kc ks tgt lv st sh I J R Q) : zv_V E M d kc ks pc lv (.null :: st) sh I J R Q := by
  intro p l e Rm s m args below meth c Z mc ms sh0 adr0 C adr H locs ls cells slots P h1 h2
  exact lv_ifnullN C.1 C.2.1 hd ht (k p l e Rm s m args below meth c Z mc ms sh0 adr0 C adr H locs ls cells slots ⟨P.1, P.2.1, P.2.2.1, P.2.2.2.1.2, P.2.2.2.2⟩ h1 h2)
theorem zv_ifnonnullN {off : Int} (hd : decode M.2.1 pc = .ok (.ifnonnull off, 3)) (k : zv_V E M d kc ks (pc + 3) lv st sh I J R Q) : zv_V E M d kc ks pc lv (.null :: st) sh I J R Q := by
  intro p l e Rm s m args below meth c Z mc ms sh0 adr0 C adr H locs ls cells slots P h1 h2
  exact lv_ifnonnullN C.1 C.2.1 hd (k p l e Rm s m args below meth c Z mc ms sh0 adr0 C adr H locs ls cells slots ⟨P.1, P.2.1, P.2.2.1, P.2.2.2.1.2, P.2.2.2.2⟩ h1 h2)
theorem zv_lookup {dflt : Int} {ps : Array (Int × Int)} {len : Nat} {x : Int32} {off : Int} {tgt : Nat} (hd : decode M.2.1 pc = .ok (.lookupswitch dflt ps, len)) (hp : (ps.toList.zip (ps.toList.drop 1)).all (fun (a, next) => a.1 < next.1) = true) (ho : Op.lookupswitch.offset ps.toList dflt x.toInt = off) (ht : (pc : Int) + off = (tgt : Int)) (k : zv_V E M d kc ks tgt lv st sh I J R Q) : zv_V E M d kc ks pc lv (.int x :: st) sh I J R Q := by
  intro p l e Rm s m args below meth c Z mc ms sh0 adr0 C adr H locs ls cells slots P h1 h2
  exact lv_lookup C.1 C.2.1 hd hp ho ht (k p l e Rm s m args below meth c Z mc ms sh0 adr0 C adr H locs ls cells slots ⟨P.1, P.2.1, P.2.2.1, P.2.2.2.1.2, P.2.2.2.2⟩ h1 h2)
theorem zv_tableOut {dflt lo hi : Int} {offs : Array Int} {len : Nat} {x : Int32} {tgt : Nat} (hd : decode M.2.1 pc = .ok (.tableswitch dflt lo hi offs, len)) (h : x.toInt < lo ∨ hi < x.toInt) (ht : (pc : Int) + dflt = (tgt : Int)) (k : zv_V E M d kc ks tgt lv st sh I J R Q) : zv_V E M d kc ks pc lv (.int x :: st) sh I J R Q := by
  intro p l e Rm s m args below meth c Z mc ms sh0 adr0 C adr H locs ls cells slots P h1 h2
  exact lv_tableOut C.1 C.2.1 hd h ht (k p l e Rm s m args below meth c Z mc ms sh0 adr0 C adr H locs ls cells slots ⟨P.1, P.2.1, P.2.2.1, P.2.2.2.1.2, P.2.2.2.2⟩ h1 h2)
theorem zv_tableIn {dflt lo hi : Int} {offs : Array Int} {len : Nat} {x : Int32} {off : Int} {tgt : Nat} (hd : decode M.2.1 pc = .ok (.tableswitch dflt lo hi offs, len)) (hl : ¬ x.toInt < lo) (hh : ¬ hi < x.toInt) (ho : offs[(x.toInt - lo).toNat]? = some off) (ht : (pc : Int) + off = (tgt : Int)) (k : zv_V E M d kc ks tgt lv st sh I J R Q) : zv_V E M d kc ks pc lv (.int x :: st) sh I J R Q := by
  intro p l e Rm s m args below meth c Z mc ms sh0 adr0 C adr H locs ls cells slots P h1 h2
  exact lv_tableIn C.1 C.2.1 hd hl hh ho ht (k p l e Rm s m args below meth c Z mc ms sh0 adr0 C adr H locs ls cells slots ⟨P.1, P.2.1, P.2.2.1, P.2.2.2.1.2, P.2.2.2.2⟩ h1 h2)
theorem zv_lcmp {x y : Int64} {v : Int32} (hd : decode M.2.1 pc = .ok (.lcmp, 1)) (hv : lg_cmp x y = v) (k : zv_V E M d kc ks (pc + 1) lv (.int v :: st) sh I J R Q) : zv_V E M d kc ks pc lv (.long y :: .long x :: st) sh I J R Q := by
  intro p l e Rm s m args below meth c Z mc ms sh0 adr0 C adr H locs ls cells slots P h1 h2
  subst hv
  exact W.lcmp C.1 C.2.1 hd (k p l e Rm s m args below meth c Z mc ms sh0 adr0 C adr H locs ls cells slots ⟨P.1, P.2.1, P.2.2.1, ⟨trivial, P.2.2.2.1.2.2⟩, P.2.2.2.2⟩ h1 h2)
theorem zv_less {lv' : List Value} (h : ∃ r, lv = lv' ++ r) (k : zv_V E M d kc ks pc lv' st sh I J R Q) : zv_V E M d kc ks pc lv st sh I J R Q := by
  intro p l e Rm s m args below meth c Z mc ms sh0 adr0 C adr H locs ls cells slots P h1 h2
  obtain ⟨r, rfl⟩ := h
  have hz : ∀ (a b : List Value) (n : Nat) (q : Nat × Value), q ∈ zv_z n a → q ∈ zv_z n (a ++ b) := by
    intro a
    induction a with
    | nil => intro b n q h; cases h
    | cons v a ih => intro b n q h; exact (List.mem_cons.mp h).elim (fun e => by rw [e]; exact List.mem_cons_self) (fun h => List.mem_cons_of_mem _ (ih b (n + 1) q h))
  have hok : zv_oks sh lv' := zv_oks_mem fun v hv => zv_oks_all P.2.2.1 v (List.mem_append_left _ hv)
  have hl : zv_l ls M.2.2.1 (lv'.map (zv_v adr)) := by
    have h0 := P.2.1
    rw [List.map_append] at h0
    exact ⟨⟨h0.1.1, h0.1.2.1, fun q hq => h0.1.2.2 q (hz _ _ _ q hq)⟩, fun v hv => h0.2 v (List.mem_append_left _ hv)⟩
  exact k p l e Rm s m args below meth c Z mc ms sh0 adr0 C adr H locs ls cells slots ⟨P.1, hl, hok, P.2.2.2⟩ h1 h2
theorem zv_mono {kc' ks' : Nat} (a : kc' ≤ kc) (b : ks' ≤ ks) (k : zv_V E M d kc' ks' pc lv st sh I J R Q) : zv_V E M d kc ks pc lv st sh I J R Q := by
  intro p l e Rm s m args below meth c Z mc ms sh0 adr0 C adr H locs ls cells slots P h1 h2
  exact k p l e Rm s m args below meth c Z mc ms sh0 adr0 C adr H locs ls cells slots P (by omega) (by omega)
theorem zv_deep {d' : Nat} (a : d' ≤ d) (k : zv_V E M d' kc ks pc lv st sh I J R Q) : zv_V E M d kc ks pc lv st sh I J R Q := by
  intro p l e Rm s m args below meth c Z mc ms sh0 adr0 C adr H locs ls cells slots P h1 h2
  obtain ⟨c1, c2, c3, c4, c5, c6, c7, c8, c9, c10⟩ := C
  exact k p l e Rm s m args below meth c Z mc ms sh0 adr0 ⟨c1, c2, c3, c4, c5, c6, c7, by omega, by omega, c10⟩ adr H locs ls cells slots P h1 h2
theorem zv_post {Q' : zv_Q} (a : ∀ v sh I J R, Q' v sh I J R → Q v sh I J R) (k : zv_V E M d kc ks pc lv st sh I J R Q') : zv_V E M d kc ks pc lv st sh I J R Q := by
  intro p l e Rm s m args below meth c Z mc ms sh0 adr0 C adr H locs ls cells slots P h1 h2
  obtain ⟨c1, c2, c3, c4, c5, c6, c7, c8, c9, c10, c11, c12⟩ := C
  exact k p l e Rm s m args below meth c Z mc ms sh0 adr0 ⟨c1, c2, c3, c4, c5, c6, c7, c8, c9, c10, c11, fun v sh I J R adr H locs ls cells slots pc q => c12 v sh I J R adr H locs ls cells slots pc (a _ _ _ _ _ q)⟩ adr H locs ls cells slots P h1 h2
theorem zv_ret {v : Option Value} (hr : zv_ri M v pc) (hq : Q v sh I J R) : zv_V E M d kc ks pc lv v.toList sh I J R Q := by
  intro p l e Rm s m args below meth c Z mc ms sh0 adr0 C adr H locs ls cells slots P h1 h2
  exact C.2.2.2.2.2.2.2.2.2.2.2 v sh I J R adr H locs ls cells slots pc hq P.1 P.2.2.2.2.1 (fun x e => by subst e; exact P.2.2.2.1.1) P.2.2.2.2.2 (by omega) (by omega) hr
theorem zv_iret {x : Int32} {ty : FieldType} (hd : decode M.2.1 pc = .ok (.ireturn, 1)) (ht : M.2.2.2 = some ty) (hn : narrow ty (.int x) = .int x) (hq : Q (some (.int x)) sh I J R) : zv_V E M d kc ks pc lv [.int x] sh I J R Q := zv_ret (v := some (.int x)) ⟨hd, ty, ht, hn⟩ hq
theorem zv_vret (hd : decode M.2.1 pc = .ok (.return_, 1)) (ht : M.2.2.2 = none) (hq : Q none sh I J R) : zv_V E M d kc ks pc lv [] sh I J R Q := zv_ret (v := none) ⟨hd, ht⟩ hq
theorem zv_aret {t : Nat} {ty : FieldType} (hd : decode M.2.1 pc = .ok (.areturn, 1)) (ht : M.2.2.2 = some ty) (hy : (∃ n, ty = .object n) ∨ ∃ t, ty = .array t) (hq : Q (some (.ref t)) sh I J R) : zv_V E M d kc ks pc lv [.ref t] sh I J R Q := zv_ret (v := some (.ref t)) ⟨hd, ty, ht, hy⟩ hq
theorem zv_aretN {ty : FieldType} (hd : decode M.2.1 pc = .ok (.areturn, 1)) (ht : M.2.2.2 = some ty) (hy : (∃ n, ty = .object n) ∨ ∃ t, ty = .array t) (hq : Q (some .null) sh I J R) : zv_V E M d kc ks pc lv [.null] sh I J R Q := zv_ret (v := some .null) ⟨hd, ty, ht, hy⟩ hq
end ZR
