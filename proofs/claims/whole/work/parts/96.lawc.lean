/-! THE LAW -/
theorem cr_Rm {sh : zv_S} {I I' : zv_I} {J : zv_J} {R : zv_R} {a : zv_I} {nm nc nl : Nat} (RL : cr_R sh I J R a nm nc nl) (h : ∀ t, 40 ≤ t → I' t = I t) : cr_R sh I' J R a nm nc nl := by
  refine ⟨cc_B_o (xR_B RL) (fun t _ => rfl) (fun j _ => by rw [h 40 (by omega)]) (fun l j _ _ => by rw [h (300 + 3 * l) (by omega)]), ?_, fun c hc => ?_, fun l hl => ?_, fun m hm => ?_⟩
  · have T := xR_T RL
    exact ⟨by rw [h 40 (by omega)]; exact xT_na T, by rw [h 40 (by omega)]; exact xT_st T, by rw [h 45 (by omega)]; exact xT_nt T, by rw [h 46 (by omega)]; exact xT_tr T⟩
  · have C := xR_C RL c hc
    exact ⟨by rw [h (50 + c) (by omega)]; exact xC_b C, by rw [h (50 + c) (by omega)]; exact xC_e C, by rw [h (50 + c) (by omega)]; exact xC_p C⟩
  · exact cr_L_o (xR_L RL l hl) (h _ (by omega)) (fun t _ _ => h t (by omega)) rfl rfl rfl (fun _ _ _ => rfl) (fun _ _ => rfl) (fun _ _ => rfl) (fun _ _ => rfl) rfl
  · exact cr_M_o (xR_M RL m hm) (fun t _ _ => h t (by omega)) rfl rfl rfl (fun _ _ => rfl) (fun _ _ => rfl) (fun _ _ => rfl) (fun _ _ => rfl) (fun _ _ => rfl) rfl (fun _ _ => rfl) (fun _ _ => rfl) (fun _ _ => rfl) (fun _ _ g => g) (fun _ _ => rfl)
def lw_I (sh : zv_S) (I : zv_I) (J : zv_J) (R : zv_R) : Prop := ∃ (a : zv_I) (nm nc nl : Nat), iQ a nm nc nl ∧ cr_R sh I J R a nm nc nl ∧ cr_F sh nm nc nl ∧ rm_W sh R ∧ rm_E I a
def lw_mid (M8 : zv_M) (As : List Value) (ans : Int32) (sh : zv_S) (I : zv_I) (J : zv_J) (R : zv_R) : Prop := ∃ (a b : zv_I) (nm nc nl : Nat), rm_W sh R ∧ rm_E I a ∧ rm_V M8 40 0 (.ref 3 :: As) [] a (rm_p ans b) ∧ iQ b nm nc nl ∧ cr_R sh I J R b nm nc nl ∧ cr_F sh nm nc nl
theorem lw_call7 {E : zv_E} {sh : zv_S} {I : zv_I} {J : zv_J} {R : zv_R} {M7 M8 : zv_M} {As : List Value} {idx n pc kc ks : Nat} {lv : List Value} {Q : zv_Q} (hd : decode mL_law.2.1 pc = .ok (.invokevirtual idx, 3)) (hm : zv_CV RL idx M7 n) (hq : RX7 = M7.1.cls) (hn : As.length = n) (hA : n + 1 ≤ M7.2.2.1) (hcat : ∀ w ∈ As, w.category = 1)
    (hp : ∀ a nm nc nl, iQ a nm nc nl → cr_R sh I J R a nm nc nl → cr_F sh nm nc nl → lw_p M7 M8 As E sh I J R a) (HI : lw_I sh I J R) (k : ∀ ans sh' I' J' R', lw_mid M8 As ans sh' I' J' R' → zv_V E mL_law 41 kc ks (pc + 3) lv [.int ans] sh' I' J' R' Q) : zv_V E mL_law 41 (611 + kc) (3674 + ks) pc lv (As.reverse ++ [.ref 40]) sh I J R Q := by
  obtain ⟨a, nm, nc, nl, hQ, RL, FR, hW, hE⟩ := HI
  obtain ⟨ans, b, h7, h8⟩ := hp a nm nc nl hQ RL FR
  refine cc_callVk (d := 40) (c := 6) hd hm (wW0_s40 (xR_B RL).1.1) rfl hq hn hA hcat (Nat.le_of_ble_eq_true rfl) h7 (fun v s1 I1 J1 R1 q => ?_)
  obtain ⟨rfl, ⟨nm', nc', nl', q1, q2, q3⟩, q4⟩ := q
  refine k ans s1 I1 J1 R1 ⟨a, b, nm', nc', nl', ⟨by rw [(q4 3 (by omega)).1]; exact hW.1, fun f hf hr => ?_⟩, fun t h1 h2 => by rw [(q4 t (by omega)).2.1]; exact hE t h1 h2, h8, q1, q2, q3⟩
  rw [(q4 3 (by omega)).2.2, (q4 (4 + f) (by omega)).1]
  exact hW.2 f hf hr
theorem lw_call8 {E : zv_E} {sh : zv_S} {I : zv_I} {J : zv_J} {R : zv_R} {M8 : zv_M} {As : List Value} {ans : Int32} {idx n pc kc ks : Nat} {lv : List Value} {Q : zv_Q} (hd : decode mL_law.2.1 pc = .ok (.invokevirtual idx, 3)) (hm : zv_CV RL idx M8 n) (hq : RX8 = M8.1.cls) (hn : As.length = n) (hA : n + 1 ≤ M8.2.2.1) (hcat : ∀ w ∈ As, w.category = 1)
    (HI : lw_mid M8 As ans sh I J R) (k : ∀ I', lw_I sh I' J R → zv_V E mL_law 41 kc ks (pc + 3) lv [.int ans, .int ans] sh I' J R Q) : zv_V E mL_law 41 kc ks pc lv (As.reverse ++ .ref 3 :: [.int ans]) sh I J R Q := by
  obtain ⟨a, b, nm, nc, nl, hW, hE, h8, hQ, RL, FR⟩ := HI
  refine cc_callV (d := 40) (c := 7) hd hm hW.1 rfl hq hn hA hcat (Nat.le_of_ble_eq_true rfl) (h8 E I sh I J R hW hE (fun t _ => rfl)) (fun v s1 I1 J1 R1 q => ?_)
  obtain ⟨rfl, rfl, rfl, q4, b', e1, q5, q6⟩ := q
  subst q5
  subst q6
  exact k I1 ⟨_, nm, nc, nl, hQ, cr_Rm RL (fun t ht => q4 t (by omega)), FR, hW, e1⟩
theorem lw_c0 {E : zv_E} {sh : zv_S} {I : zv_I} {J : zv_J} {R : zv_R} {q kc ks : Nat} {Q : zv_Q} (hL : E.2.2.2.2.1 ≤ 2560) (hq : 5 * q + 5 ≤ E.2.2.2.2.1) (HI : lw_I sh I J R) (k : ∀ sh' I' J' R', lw_I sh' I' J' R' → zv_V E mL_law 41 kc ks 936 [.ref 0, .ref 40, .ref 3, .int (nI (5 * q))] [] sh' I' J' R' Q) : zv_V E mL_law 41 (611 + kc) (3674 + ks) 144 [.ref 0, .ref 40, .ref 3, .int (nI (5 * q))] [] sh I J R Q := by
  refine zv_aload_n dL_law_144 rfl rfl ?_
  refine lw_call7 (M8 := mX8_member) (As := []) dL_law_145 cvL_13 rfl rfl (by decide) cc_c0 (fun a nm nc nl h1 h2 h3 => lw_member h1 h2 h3) HI (fun ans s1 I1 J1 R1 hm => ?_)
  show zv_V _ _ _ _ _ 148 [.ref 0, .ref 40, .ref 3, .int (nI (5 * q))] [.int ans] _ _ _ _ _
  refine zv_aload_n dL_law_148 rfl rfl ?_
  refine lw_call8 (As := []) dL_law_149 cvL_17 rfl rfl (by decide) cc_c0 hm (fun I2 hi => ?_)
  exact zv_icmp_eq (tgt := 936) dL_law_152 (by decide) (fun _ => k _ _ _ _ hi) (fun h => absurd rfl h)
theorem lw_c1 {E : zv_E} {sh : zv_S} {I : zv_I} {J : zv_J} {R : zv_R} {q kc ks : Nat} {Q : zv_Q} (hL : E.2.2.2.2.1 ≤ 2560) (hq : 5 * q + 5 ≤ E.2.2.2.2.1) (HI : lw_I sh I J R) (k : ∀ sh' I' J' R', lw_I sh' I' J' R' → zv_V E mL_law 41 kc ks 936 [.ref 0, .ref 40, .ref 3, .int (nI (5 * q))] [] sh' I' J' R' Q) : zv_V E mL_law 41 (611 + kc) (3674 + ks) 157 [.ref 0, .ref 40, .ref 3, .int (nI (5 * q))] [] sh I J R Q := by
  refine zv_aload_n dL_law_157 rfl rfl ?_
  refine zv_aload_n dL_law_158 rfl rfl ?_
  refine zv_iload_n dL_law_159 rfl rfl ?_
  refine zv_iconst (v := nI 1) dL_law_160 (by decide) ?_
  refine zv_iadd dL_law_161 ?_
  refine cc_top (nI_add (5 * q) 1) ?_
  refine zv_sald (j := 5 * q + 1) (x := E.2.2.2.2.2 (5 * q + 1)) dL_law_162 rfl (by omega) (by omega) rfl ?_
  refine lw_call7 (M8 := mX8_circle) (As := [.int (E.2.2.2.2.2 (5 * q + 1))]) dL_law_163 cvL_18 rfl rfl (by decide) (cc_c1 rfl cc_c0) (fun a nm nc nl h1 h2 h3 => lw_circle h1 h2 h3 _) HI (fun ans s1 I1 J1 R1 hm => ?_)
  show zv_V _ _ _ _ _ 166 [.ref 0, .ref 40, .ref 3, .int (nI (5 * q))] [.int ans] _ _ _ _ _
  refine zv_aload_n dL_law_166 rfl rfl ?_
  refine zv_aload_n dL_law_167 rfl rfl ?_
  refine zv_iload_n dL_law_168 rfl rfl ?_
  refine zv_iconst (v := nI 1) dL_law_169 (by decide) ?_
  refine zv_iadd dL_law_170 ?_
  refine cc_top (nI_add (5 * q) 1) ?_
  refine zv_sald (j := 5 * q + 1) (x := E.2.2.2.2.2 (5 * q + 1)) dL_law_171 rfl (by omega) (by omega) rfl ?_
  refine lw_call8 (As := [.int (E.2.2.2.2.2 (5 * q + 1))]) dL_law_172 cvL_22 rfl rfl (by decide) (cc_c1 rfl cc_c0) hm (fun I2 hi => ?_)
  exact zv_icmp_eq (tgt := 936) dL_law_175 (by decide) (fun _ => k _ _ _ _ hi) (fun h => absurd rfl h)
theorem lw_c2 {E : zv_E} {sh : zv_S} {I : zv_I} {J : zv_J} {R : zv_R} {q kc ks : Nat} {Q : zv_Q} (hL : E.2.2.2.2.1 ≤ 2560) (hq : 5 * q + 5 ≤ E.2.2.2.2.1) (HI : lw_I sh I J R) (k : ∀ sh' I' J' R', lw_I sh' I' J' R' → zv_V E mL_law 41 kc ks 936 [.ref 0, .ref 40, .ref 3, .int (nI (5 * q))] [] sh' I' J' R' Q) : zv_V E mL_law 41 (611 + kc) (3674 + ks) 180 [.ref 0, .ref 40, .ref 3, .int (nI (5 * q))] [] sh I J R Q := by
  refine zv_aload_n dL_law_180 rfl rfl ?_
  refine zv_aload_n dL_law_181 rfl rfl ?_
  refine zv_iload_n dL_law_182 rfl rfl ?_
  refine zv_iconst (v := nI 1) dL_law_183 (by decide) ?_
  refine zv_iadd dL_law_184 ?_
  refine cc_top (nI_add (5 * q) 1) ?_
  refine zv_sald (j := 5 * q + 1) (x := E.2.2.2.2.2 (5 * q + 1)) dL_law_185 rfl (by omega) (by omega) rfl ?_
  refine zv_aload_n dL_law_186 rfl rfl ?_
  refine zv_iload_n dL_law_187 rfl rfl ?_
  refine zv_iconst (v := nI 2) dL_law_188 (by decide) ?_
  refine zv_iadd dL_law_189 ?_
  refine cc_top (nI_add (5 * q) 2) ?_
  refine zv_sald (j := 5 * q + 2) (x := E.2.2.2.2.2 (5 * q + 2)) dL_law_190 rfl (by omega) (by omega) rfl ?_
  refine zv_aload_n dL_law_191 rfl rfl ?_
  refine zv_iload_n dL_law_192 rfl rfl ?_
  refine zv_iconst (v := nI 3) dL_law_193 (by decide) ?_
  refine zv_iadd dL_law_194 ?_
  refine cc_top (nI_add (5 * q) 3) ?_
  refine zv_sald (j := 5 * q + 3) (x := E.2.2.2.2.2 (5 * q + 3)) dL_law_195 rfl (by omega) (by omega) rfl ?_
  refine lw_call7 (M8 := mX8_write) (As := [.int (E.2.2.2.2.2 (5 * q + 1)), .int (E.2.2.2.2.2 (5 * q + 2)), .int (E.2.2.2.2.2 (5 * q + 3))]) dL_law_196 cvL_23 rfl rfl (by decide) (cc_c1 rfl (cc_c1 rfl (cc_c1 rfl cc_c0))) (fun a nm nc nl h1 h2 h3 => lw_write h1 h2 h3 _ _ _) HI (fun ans s1 I1 J1 R1 hm => ?_)
  show zv_V _ _ _ _ _ 199 [.ref 0, .ref 40, .ref 3, .int (nI (5 * q))] [.int ans] _ _ _ _ _
  refine zv_aload_n dL_law_199 rfl rfl ?_
  refine zv_aload_n dL_law_200 rfl rfl ?_
  refine zv_iload_n dL_law_201 rfl rfl ?_
  refine zv_iconst (v := nI 1) dL_law_202 (by decide) ?_
  refine zv_iadd dL_law_203 ?_
  refine cc_top (nI_add (5 * q) 1) ?_
  refine zv_sald (j := 5 * q + 1) (x := E.2.2.2.2.2 (5 * q + 1)) dL_law_204 rfl (by omega) (by omega) rfl ?_
  refine zv_aload_n dL_law_205 rfl rfl ?_
  refine zv_iload_n dL_law_206 rfl rfl ?_
  refine zv_iconst (v := nI 2) dL_law_207 (by decide) ?_
  refine zv_iadd dL_law_208 ?_
  refine cc_top (nI_add (5 * q) 2) ?_
  refine zv_sald (j := 5 * q + 2) (x := E.2.2.2.2.2 (5 * q + 2)) dL_law_209 rfl (by omega) (by omega) rfl ?_
  refine zv_aload_n dL_law_210 rfl rfl ?_
  refine zv_iload_n dL_law_211 rfl rfl ?_
  refine zv_iconst (v := nI 3) dL_law_212 (by decide) ?_
  refine zv_iadd dL_law_213 ?_
  refine cc_top (nI_add (5 * q) 3) ?_
  refine zv_sald (j := 5 * q + 3) (x := E.2.2.2.2.2 (5 * q + 3)) dL_law_214 rfl (by omega) (by omega) rfl ?_
  refine lw_call8 (As := [.int (E.2.2.2.2.2 (5 * q + 1)), .int (E.2.2.2.2.2 (5 * q + 2)), .int (E.2.2.2.2.2 (5 * q + 3))]) dL_law_215 cvL_27 rfl rfl (by decide) (cc_c1 rfl (cc_c1 rfl (cc_c1 rfl cc_c0))) hm (fun I2 hi => ?_)
  exact zv_icmp_eq (tgt := 936) dL_law_218 (by decide) (fun _ => k _ _ _ _ hi) (fun h => absurd rfl h)
theorem lw_c3 {E : zv_E} {sh : zv_S} {I : zv_I} {J : zv_J} {R : zv_R} {q kc ks : Nat} {Q : zv_Q} (hL : E.2.2.2.2.1 ≤ 2560) (hq : 5 * q + 5 ≤ E.2.2.2.2.1) (HI : lw_I sh I J R) (k : ∀ sh' I' J' R', lw_I sh' I' J' R' → zv_V E mL_law 41 kc ks 936 [.ref 0, .ref 40, .ref 3, .int (nI (5 * q))] [] sh' I' J' R' Q) : zv_V E mL_law 41 (611 + kc) (3674 + ks) 223 [.ref 0, .ref 40, .ref 3, .int (nI (5 * q))] [] sh I J R Q := by
  refine zv_aload_n dL_law_223 rfl rfl ?_
  refine zv_aload_n dL_law_224 rfl rfl ?_
  refine zv_iload_n dL_law_225 rfl rfl ?_
  refine zv_iconst (v := nI 1) dL_law_226 (by decide) ?_
  refine zv_iadd dL_law_227 ?_
  refine cc_top (nI_add (5 * q) 1) ?_
  refine zv_sald (j := 5 * q + 1) (x := E.2.2.2.2.2 (5 * q + 1)) dL_law_228 rfl (by omega) (by omega) rfl ?_
  refine zv_aload_n dL_law_229 rfl rfl ?_
  refine zv_iload_n dL_law_230 rfl rfl ?_
  refine zv_iconst (v := nI 2) dL_law_231 (by decide) ?_
  refine zv_iadd dL_law_232 ?_
  refine cc_top (nI_add (5 * q) 2) ?_
  refine zv_sald (j := 5 * q + 2) (x := E.2.2.2.2.2 (5 * q + 2)) dL_law_233 rfl (by omega) (by omega) rfl ?_
  refine zv_aload_n dL_law_234 rfl rfl ?_
  refine zv_iload_n dL_law_235 rfl rfl ?_
  refine zv_iconst (v := nI 3) dL_law_236 (by decide) ?_
  refine zv_iadd dL_law_237 ?_
  refine cc_top (nI_add (5 * q) 3) ?_
  refine zv_sald (j := 5 * q + 3) (x := E.2.2.2.2.2 (5 * q + 3)) dL_law_238 rfl (by omega) (by omega) rfl ?_
  refine lw_call7 (M8 := mX8_reply) (As := [.int (E.2.2.2.2.2 (5 * q + 1)), .int (E.2.2.2.2.2 (5 * q + 2)), .int (E.2.2.2.2.2 (5 * q + 3))]) dL_law_239 cvL_28 rfl rfl (by decide) (cc_c1 rfl (cc_c1 rfl (cc_c1 rfl cc_c0))) (fun a nm nc nl h1 h2 h3 => lw_reply h1 h2 h3 _ _ _) HI (fun ans s1 I1 J1 R1 hm => ?_)
  show zv_V _ _ _ _ _ 242 [.ref 0, .ref 40, .ref 3, .int (nI (5 * q))] [.int ans] _ _ _ _ _
  refine zv_aload_n dL_law_242 rfl rfl ?_
  refine zv_aload_n dL_law_243 rfl rfl ?_
  refine zv_iload_n dL_law_244 rfl rfl ?_
  refine zv_iconst (v := nI 1) dL_law_245 (by decide) ?_
  refine zv_iadd dL_law_246 ?_
  refine cc_top (nI_add (5 * q) 1) ?_
  refine zv_sald (j := 5 * q + 1) (x := E.2.2.2.2.2 (5 * q + 1)) dL_law_247 rfl (by omega) (by omega) rfl ?_
  refine zv_aload_n dL_law_248 rfl rfl ?_
  refine zv_iload_n dL_law_249 rfl rfl ?_
  refine zv_iconst (v := nI 2) dL_law_250 (by decide) ?_
  refine zv_iadd dL_law_251 ?_
  refine cc_top (nI_add (5 * q) 2) ?_
  refine zv_sald (j := 5 * q + 2) (x := E.2.2.2.2.2 (5 * q + 2)) dL_law_252 rfl (by omega) (by omega) rfl ?_
  refine zv_aload_n dL_law_253 rfl rfl ?_
  refine zv_iload_n dL_law_254 rfl rfl ?_
  refine zv_iconst (v := nI 3) dL_law_255 (by decide) ?_
  refine zv_iadd dL_law_256 ?_
  refine cc_top (nI_add (5 * q) 3) ?_
  refine zv_sald (j := 5 * q + 3) (x := E.2.2.2.2.2 (5 * q + 3)) dL_law_257 rfl (by omega) (by omega) rfl ?_
  refine lw_call8 (As := [.int (E.2.2.2.2.2 (5 * q + 1)), .int (E.2.2.2.2.2 (5 * q + 2)), .int (E.2.2.2.2.2 (5 * q + 3))]) dL_law_258 cvL_31 rfl rfl (by decide) (cc_c1 rfl (cc_c1 rfl (cc_c1 rfl cc_c0))) hm (fun I2 hi => ?_)
  exact zv_icmp_eq (tgt := 936) dL_law_261 (by decide) (fun _ => k _ _ _ _ hi) (fun h => absurd rfl h)
theorem lw_c4 {E : zv_E} {sh : zv_S} {I : zv_I} {J : zv_J} {R : zv_R} {q kc ks : Nat} {Q : zv_Q} (hL : E.2.2.2.2.1 ≤ 2560) (hq : 5 * q + 5 ≤ E.2.2.2.2.1) (HI : lw_I sh I J R) (k : ∀ sh' I' J' R', lw_I sh' I' J' R' → zv_V E mL_law 41 kc ks 936 [.ref 0, .ref 40, .ref 3, .int (nI (5 * q))] [] sh' I' J' R' Q) : zv_V E mL_law 41 (611 + kc) (3674 + ks) 266 [.ref 0, .ref 40, .ref 3, .int (nI (5 * q))] [] sh I J R Q := by
  refine zv_aload_n dL_law_266 rfl rfl ?_
  refine zv_aload_n dL_law_267 rfl rfl ?_
  refine zv_iload_n dL_law_268 rfl rfl ?_
  refine zv_iconst (v := nI 1) dL_law_269 (by decide) ?_
  refine zv_iadd dL_law_270 ?_
  refine cc_top (nI_add (5 * q) 1) ?_
  refine zv_sald (j := 5 * q + 1) (x := E.2.2.2.2.2 (5 * q + 1)) dL_law_271 rfl (by omega) (by omega) rfl ?_
  refine zv_aload_n dL_law_272 rfl rfl ?_
  refine zv_iload_n dL_law_273 rfl rfl ?_
  refine zv_iconst (v := nI 2) dL_law_274 (by decide) ?_
  refine zv_iadd dL_law_275 ?_
  refine cc_top (nI_add (5 * q) 2) ?_
  refine zv_sald (j := 5 * q + 2) (x := E.2.2.2.2.2 (5 * q + 2)) dL_law_276 rfl (by omega) (by omega) rfl ?_
  refine zv_aload_n dL_law_277 rfl rfl ?_
  refine zv_iload_n dL_law_278 rfl rfl ?_
  refine zv_iconst (v := nI 3) dL_law_279 (by decide) ?_
  refine zv_iadd dL_law_280 ?_
  refine cc_top (nI_add (5 * q) 3) ?_
  refine zv_sald (j := 5 * q + 3) (x := E.2.2.2.2.2 (5 * q + 3)) dL_law_281 rfl (by omega) (by omega) rfl ?_
  refine lw_call7 (M8 := mX8_seal) (As := [.int (E.2.2.2.2.2 (5 * q + 1)), .int (E.2.2.2.2.2 (5 * q + 2)), .int (E.2.2.2.2.2 (5 * q + 3))]) dL_law_282 cvL_32 rfl rfl (by decide) (cc_c1 rfl (cc_c1 rfl (cc_c1 rfl cc_c0))) (fun a nm nc nl h1 h2 h3 => lw_seal h1 h2 h3 _ _ _) HI (fun ans s1 I1 J1 R1 hm => ?_)
  show zv_V _ _ _ _ _ 285 [.ref 0, .ref 40, .ref 3, .int (nI (5 * q))] [.int ans] _ _ _ _ _
  refine zv_aload_n dL_law_285 rfl rfl ?_
  refine zv_aload_n dL_law_286 rfl rfl ?_
  refine zv_iload_n dL_law_287 rfl rfl ?_
  refine zv_iconst (v := nI 1) dL_law_288 (by decide) ?_
  refine zv_iadd dL_law_289 ?_
  refine cc_top (nI_add (5 * q) 1) ?_
  refine zv_sald (j := 5 * q + 1) (x := E.2.2.2.2.2 (5 * q + 1)) dL_law_290 rfl (by omega) (by omega) rfl ?_
  refine zv_aload_n dL_law_291 rfl rfl ?_
  refine zv_iload_n dL_law_292 rfl rfl ?_
  refine zv_iconst (v := nI 2) dL_law_293 (by decide) ?_
  refine zv_iadd dL_law_294 ?_
  refine cc_top (nI_add (5 * q) 2) ?_
  refine zv_sald (j := 5 * q + 2) (x := E.2.2.2.2.2 (5 * q + 2)) dL_law_295 rfl (by omega) (by omega) rfl ?_
  refine zv_aload_n dL_law_296 rfl rfl ?_
  refine zv_iload_n dL_law_297 rfl rfl ?_
  refine zv_iconst (v := nI 3) dL_law_298 (by decide) ?_
  refine zv_iadd dL_law_299 ?_
  refine cc_top (nI_add (5 * q) 3) ?_
  refine zv_sald (j := 5 * q + 3) (x := E.2.2.2.2.2 (5 * q + 3)) dL_law_300 rfl (by omega) (by omega) rfl ?_
  refine lw_call8 (As := [.int (E.2.2.2.2.2 (5 * q + 1)), .int (E.2.2.2.2.2 (5 * q + 2)), .int (E.2.2.2.2.2 (5 * q + 3))]) dL_law_301 cvL_35 rfl rfl (by decide) (cc_c1 rfl (cc_c1 rfl (cc_c1 rfl cc_c0))) hm (fun I2 hi => ?_)
  exact zv_icmp_eq (tgt := 936) dL_law_304 (by decide) (fun _ => k _ _ _ _ hi) (fun h => absurd rfl h)
theorem lw_c5 {E : zv_E} {sh : zv_S} {I : zv_I} {J : zv_J} {R : zv_R} {q kc ks : Nat} {Q : zv_Q} (hL : E.2.2.2.2.1 ≤ 2560) (hq : 5 * q + 5 ≤ E.2.2.2.2.1) (HI : lw_I sh I J R) (k : ∀ sh' I' J' R', lw_I sh' I' J' R' → zv_V E mL_law 41 kc ks 936 [.ref 0, .ref 40, .ref 3, .int (nI (5 * q))] [] sh' I' J' R' Q) : zv_V E mL_law 41 (611 + kc) (3674 + ks) 309 [.ref 0, .ref 40, .ref 3, .int (nI (5 * q))] [] sh I J R Q := by
  refine zv_aload_n dL_law_309 rfl rfl ?_
  refine zv_aload_n dL_law_310 rfl rfl ?_
  refine zv_iload_n dL_law_311 rfl rfl ?_
  refine zv_iconst (v := nI 1) dL_law_312 (by decide) ?_
  refine zv_iadd dL_law_313 ?_
  refine cc_top (nI_add (5 * q) 1) ?_
  refine zv_sald (j := 5 * q + 1) (x := E.2.2.2.2.2 (5 * q + 1)) dL_law_314 rfl (by omega) (by omega) rfl ?_
  refine zv_aload_n dL_law_315 rfl rfl ?_
  refine zv_iload_n dL_law_316 rfl rfl ?_
  refine zv_iconst (v := nI 2) dL_law_317 (by decide) ?_
  refine zv_iadd dL_law_318 ?_
  refine cc_top (nI_add (5 * q) 2) ?_
  refine zv_sald (j := 5 * q + 2) (x := E.2.2.2.2.2 (5 * q + 2)) dL_law_319 rfl (by omega) (by omega) rfl ?_
  refine lw_call7 (M8 := mX8_deliver) (As := [.int (E.2.2.2.2.2 (5 * q + 1)), .int (E.2.2.2.2.2 (5 * q + 2))]) dL_law_320 cvL_36 rfl rfl (by decide) (cc_c1 rfl (cc_c1 rfl cc_c0)) (fun a nm nc nl h1 h2 h3 => lw_deliver h1 h2 h3 _ _) HI (fun ans s1 I1 J1 R1 hm => ?_)
  show zv_V _ _ _ _ _ 323 [.ref 0, .ref 40, .ref 3, .int (nI (5 * q))] [.int ans] _ _ _ _ _
  refine zv_aload_n dL_law_323 rfl rfl ?_
  refine zv_aload_n dL_law_324 rfl rfl ?_
  refine zv_iload_n dL_law_325 rfl rfl ?_
  refine zv_iconst (v := nI 1) dL_law_326 (by decide) ?_
  refine zv_iadd dL_law_327 ?_
  refine cc_top (nI_add (5 * q) 1) ?_
  refine zv_sald (j := 5 * q + 1) (x := E.2.2.2.2.2 (5 * q + 1)) dL_law_328 rfl (by omega) (by omega) rfl ?_
  refine zv_aload_n dL_law_329 rfl rfl ?_
  refine zv_iload_n dL_law_330 rfl rfl ?_
  refine zv_iconst (v := nI 2) dL_law_331 (by decide) ?_
  refine zv_iadd dL_law_332 ?_
  refine cc_top (nI_add (5 * q) 2) ?_
  refine zv_sald (j := 5 * q + 2) (x := E.2.2.2.2.2 (5 * q + 2)) dL_law_333 rfl (by omega) (by omega) rfl ?_
  refine lw_call8 (As := [.int (E.2.2.2.2.2 (5 * q + 1)), .int (E.2.2.2.2.2 (5 * q + 2))]) dL_law_334 cvL_40 rfl rfl (by decide) (cc_c1 rfl (cc_c1 rfl cc_c0)) hm (fun I2 hi => ?_)
  exact zv_icmp_eq (tgt := 936) dL_law_337 (by decide) (fun _ => k _ _ _ _ hi) (fun h => absurd rfl h)
theorem lw_c6 {E : zv_E} {sh : zv_S} {I : zv_I} {J : zv_J} {R : zv_R} {q kc ks : Nat} {Q : zv_Q} (hL : E.2.2.2.2.1 ≤ 2560) (hq : 5 * q + 5 ≤ E.2.2.2.2.1) (HI : lw_I sh I J R) (k : ∀ sh' I' J' R', lw_I sh' I' J' R' → zv_V E mL_law 41 kc ks 936 [.ref 0, .ref 40, .ref 3, .int (nI (5 * q))] [] sh' I' J' R' Q) : zv_V E mL_law 41 (611 + kc) (3674 + ks) 342 [.ref 0, .ref 40, .ref 3, .int (nI (5 * q))] [] sh I J R Q := by
  refine zv_aload_n dL_law_342 rfl rfl ?_
  refine zv_aload_n dL_law_343 rfl rfl ?_
  refine zv_iload_n dL_law_344 rfl rfl ?_
  refine zv_iconst (v := nI 1) dL_law_345 (by decide) ?_
  refine zv_iadd dL_law_346 ?_
  refine cc_top (nI_add (5 * q) 1) ?_
  refine zv_sald (j := 5 * q + 1) (x := E.2.2.2.2.2 (5 * q + 1)) dL_law_347 rfl (by omega) (by omega) rfl ?_
  refine zv_aload_n dL_law_348 rfl rfl ?_
  refine zv_iload_n dL_law_349 rfl rfl ?_
  refine zv_iconst (v := nI 2) dL_law_350 (by decide) ?_
  refine zv_iadd dL_law_351 ?_
  refine cc_top (nI_add (5 * q) 2) ?_
  refine zv_sald (j := 5 * q + 2) (x := E.2.2.2.2.2 (5 * q + 2)) dL_law_352 rfl (by omega) (by omega) rfl ?_
  refine lw_call7 (M8 := mX8_deliverAll) (As := [.int (E.2.2.2.2.2 (5 * q + 1)), .int (E.2.2.2.2.2 (5 * q + 2))]) dL_law_353 cvL_41 rfl rfl (by decide) (cc_c1 rfl (cc_c1 rfl cc_c0)) (fun a nm nc nl h1 h2 h3 => lw_deliverAll h1 h2 h3 _ _) HI (fun ans s1 I1 J1 R1 hm => ?_)
  show zv_V _ _ _ _ _ 356 [.ref 0, .ref 40, .ref 3, .int (nI (5 * q))] [.int ans] _ _ _ _ _
  refine zv_aload_n dL_law_356 rfl rfl ?_
  refine zv_aload_n dL_law_357 rfl rfl ?_
  refine zv_iload_n dL_law_358 rfl rfl ?_
  refine zv_iconst (v := nI 1) dL_law_359 (by decide) ?_
  refine zv_iadd dL_law_360 ?_
  refine cc_top (nI_add (5 * q) 1) ?_
  refine zv_sald (j := 5 * q + 1) (x := E.2.2.2.2.2 (5 * q + 1)) dL_law_361 rfl (by omega) (by omega) rfl ?_
  refine zv_aload_n dL_law_362 rfl rfl ?_
  refine zv_iload_n dL_law_363 rfl rfl ?_
  refine zv_iconst (v := nI 2) dL_law_364 (by decide) ?_
  refine zv_iadd dL_law_365 ?_
  refine cc_top (nI_add (5 * q) 2) ?_
  refine zv_sald (j := 5 * q + 2) (x := E.2.2.2.2.2 (5 * q + 2)) dL_law_366 rfl (by omega) (by omega) rfl ?_
  refine lw_call8 (As := [.int (E.2.2.2.2.2 (5 * q + 1)), .int (E.2.2.2.2.2 (5 * q + 2))]) dL_law_367 cvL_44 rfl rfl (by decide) (cc_c1 rfl (cc_c1 rfl cc_c0)) hm (fun I2 hi => ?_)
  exact zv_icmp_eq (tgt := 936) dL_law_370 (by decide) (fun _ => k _ _ _ _ hi) (fun h => absurd rfl h)
theorem lw_c7 {E : zv_E} {sh : zv_S} {I : zv_I} {J : zv_J} {R : zv_R} {q kc ks : Nat} {Q : zv_Q} (hL : E.2.2.2.2.1 ≤ 2560) (hq : 5 * q + 5 ≤ E.2.2.2.2.1) (HI : lw_I sh I J R) (k : ∀ sh' I' J' R', lw_I sh' I' J' R' → zv_V E mL_law 41 kc ks 936 [.ref 0, .ref 40, .ref 3, .int (nI (5 * q))] [] sh' I' J' R' Q) : zv_V E mL_law 41 (611 + kc) (3674 + ks) 375 [.ref 0, .ref 40, .ref 3, .int (nI (5 * q))] [] sh I J R Q := by
  refine zv_aload_n dL_law_375 rfl rfl ?_
  refine zv_aload_n dL_law_376 rfl rfl ?_
  refine zv_iload_n dL_law_377 rfl rfl ?_
  refine zv_iconst (v := nI 1) dL_law_378 (by decide) ?_
  refine zv_iadd dL_law_379 ?_
  refine cc_top (nI_add (5 * q) 1) ?_
  refine zv_sald (j := 5 * q + 1) (x := E.2.2.2.2.2 (5 * q + 1)) dL_law_380 rfl (by omega) (by omega) rfl ?_
  refine lw_call7 (M8 := mX8_count) (As := [.int (E.2.2.2.2.2 (5 * q + 1))]) dL_law_381 cvL_45 rfl rfl (by decide) (cc_c1 rfl cc_c0) (fun a nm nc nl h1 h2 h3 => lw_count h1 h2 h3 _) HI (fun ans s1 I1 J1 R1 hm => ?_)
  show zv_V _ _ _ _ _ 384 [.ref 0, .ref 40, .ref 3, .int (nI (5 * q))] [.int ans] _ _ _ _ _
  refine zv_aload_n dL_law_384 rfl rfl ?_
  refine zv_aload_n dL_law_385 rfl rfl ?_
  refine zv_iload_n dL_law_386 rfl rfl ?_
  refine zv_iconst (v := nI 1) dL_law_387 (by decide) ?_
  refine zv_iadd dL_law_388 ?_
  refine cc_top (nI_add (5 * q) 1) ?_
  refine zv_sald (j := 5 * q + 1) (x := E.2.2.2.2.2 (5 * q + 1)) dL_law_389 rfl (by omega) (by omega) rfl ?_
  refine lw_call8 (As := [.int (E.2.2.2.2.2 (5 * q + 1))]) dL_law_390 cvL_48 rfl rfl (by decide) (cc_c1 rfl cc_c0) hm (fun I2 hi => ?_)
  exact zv_icmp_eq (tgt := 936) dL_law_393 (by decide) (fun _ => k _ _ _ _ hi) (fun h => absurd rfl h)
theorem lw_c8 {E : zv_E} {sh : zv_S} {I : zv_I} {J : zv_J} {R : zv_R} {q kc ks : Nat} {Q : zv_Q} (hL : E.2.2.2.2.1 ≤ 2560) (hq : 5 * q + 5 ≤ E.2.2.2.2.1) (HI : lw_I sh I J R) (k : ∀ sh' I' J' R', lw_I sh' I' J' R' → zv_V E mL_law 41 kc ks 936 [.ref 0, .ref 40, .ref 3, .int (nI (5 * q))] [] sh' I' J' R' Q) : zv_V E mL_law 41 (611 + kc) (3674 + ks) 398 [.ref 0, .ref 40, .ref 3, .int (nI (5 * q))] [] sh I J R Q := by
  refine zv_aload_n dL_law_398 rfl rfl ?_
  refine zv_aload_n dL_law_399 rfl rfl ?_
  refine zv_iload_n dL_law_400 rfl rfl ?_
  refine zv_iconst (v := nI 1) dL_law_401 (by decide) ?_
  refine zv_iadd dL_law_402 ?_
  refine cc_top (nI_add (5 * q) 1) ?_
  refine zv_sald (j := 5 * q + 1) (x := E.2.2.2.2.2 (5 * q + 1)) dL_law_403 rfl (by omega) (by omega) rfl ?_
  refine zv_aload_n dL_law_404 rfl rfl ?_
  refine zv_iload_n dL_law_405 rfl rfl ?_
  refine zv_iconst (v := nI 2) dL_law_406 (by decide) ?_
  refine zv_iadd dL_law_407 ?_
  refine cc_top (nI_add (5 * q) 2) ?_
  refine zv_sald (j := 5 * q + 2) (x := E.2.2.2.2.2 (5 * q + 2)) dL_law_408 rfl (by omega) (by omega) rfl ?_
  refine lw_call7 (M8 := mX8_told) (As := [.int (E.2.2.2.2.2 (5 * q + 1)), .int (E.2.2.2.2.2 (5 * q + 2))]) dL_law_409 cvL_49 rfl rfl (by decide) (cc_c1 rfl (cc_c1 rfl cc_c0)) (fun a nm nc nl h1 h2 h3 => lw_told h1 h2 h3 _ _) HI (fun ans s1 I1 J1 R1 hm => ?_)
  show zv_V _ _ _ _ _ 412 [.ref 0, .ref 40, .ref 3, .int (nI (5 * q))] [.int ans] _ _ _ _ _
  refine zv_aload_n dL_law_412 rfl rfl ?_
  refine zv_aload_n dL_law_413 rfl rfl ?_
  refine zv_iload_n dL_law_414 rfl rfl ?_
  refine zv_iconst (v := nI 1) dL_law_415 (by decide) ?_
  refine zv_iadd dL_law_416 ?_
  refine cc_top (nI_add (5 * q) 1) ?_
  refine zv_sald (j := 5 * q + 1) (x := E.2.2.2.2.2 (5 * q + 1)) dL_law_417 rfl (by omega) (by omega) rfl ?_
  refine zv_aload_n dL_law_418 rfl rfl ?_
  refine zv_iload_n dL_law_419 rfl rfl ?_
  refine zv_iconst (v := nI 2) dL_law_420 (by decide) ?_
  refine zv_iadd dL_law_421 ?_
  refine cc_top (nI_add (5 * q) 2) ?_
  refine zv_sald (j := 5 * q + 2) (x := E.2.2.2.2.2 (5 * q + 2)) dL_law_422 rfl (by omega) (by omega) rfl ?_
  refine lw_call8 (As := [.int (E.2.2.2.2.2 (5 * q + 1)), .int (E.2.2.2.2.2 (5 * q + 2))]) dL_law_423 cvL_52 rfl rfl (by decide) (cc_c1 rfl (cc_c1 rfl cc_c0)) hm (fun I2 hi => ?_)
  exact zv_icmp_eq (tgt := 936) dL_law_426 (by decide) (fun _ => k _ _ _ _ hi) (fun h => absurd rfl h)
theorem lw_c9 {E : zv_E} {sh : zv_S} {I : zv_I} {J : zv_J} {R : zv_R} {q kc ks : Nat} {Q : zv_Q} (hL : E.2.2.2.2.1 ≤ 2560) (hq : 5 * q + 5 ≤ E.2.2.2.2.1) (HI : lw_I sh I J R) (k : ∀ sh' I' J' R', lw_I sh' I' J' R' → zv_V E mL_law 41 kc ks 936 [.ref 0, .ref 40, .ref 3, .int (nI (5 * q))] [] sh' I' J' R' Q) : zv_V E mL_law 41 (611 + kc) (3674 + ks) 431 [.ref 0, .ref 40, .ref 3, .int (nI (5 * q))] [] sh I J R Q := by
  refine zv_aload_n dL_law_431 rfl rfl ?_
  refine zv_aload_n dL_law_432 rfl rfl ?_
  refine zv_iload_n dL_law_433 rfl rfl ?_
  refine zv_iconst (v := nI 1) dL_law_434 (by decide) ?_
  refine zv_iadd dL_law_435 ?_
  refine cc_top (nI_add (5 * q) 1) ?_
  refine zv_sald (j := 5 * q + 1) (x := E.2.2.2.2.2 (5 * q + 1)) dL_law_436 rfl (by omega) (by omega) rfl ?_
  refine zv_aload_n dL_law_437 rfl rfl ?_
  refine zv_iload_n dL_law_438 rfl rfl ?_
  refine zv_iconst (v := nI 2) dL_law_439 (by decide) ?_
  refine zv_iadd dL_law_440 ?_
  refine cc_top (nI_add (5 * q) 2) ?_
  refine zv_sald (j := 5 * q + 2) (x := E.2.2.2.2.2 (5 * q + 2)) dL_law_441 rfl (by omega) (by omega) rfl ?_
  refine lw_call7 (M8 := mX8_circleTold) (As := [.int (E.2.2.2.2.2 (5 * q + 1)), .int (E.2.2.2.2.2 (5 * q + 2))]) dL_law_442 cvL_53 rfl rfl (by decide) (cc_c1 rfl (cc_c1 rfl cc_c0)) (fun a nm nc nl h1 h2 h3 => lw_circleTold h1 h2 h3 _ _) HI (fun ans s1 I1 J1 R1 hm => ?_)
  show zv_V _ _ _ _ _ 445 [.ref 0, .ref 40, .ref 3, .int (nI (5 * q))] [.int ans] _ _ _ _ _
  refine zv_aload_n dL_law_445 rfl rfl ?_
  refine zv_aload_n dL_law_446 rfl rfl ?_
  refine zv_iload_n dL_law_447 rfl rfl ?_
  refine zv_iconst (v := nI 1) dL_law_448 (by decide) ?_
  refine zv_iadd dL_law_449 ?_
  refine cc_top (nI_add (5 * q) 1) ?_
  refine zv_sald (j := 5 * q + 1) (x := E.2.2.2.2.2 (5 * q + 1)) dL_law_450 rfl (by omega) (by omega) rfl ?_
  refine zv_aload_n dL_law_451 rfl rfl ?_
  refine zv_iload_n dL_law_452 rfl rfl ?_
  refine zv_iconst (v := nI 2) dL_law_453 (by decide) ?_
  refine zv_iadd dL_law_454 ?_
  refine cc_top (nI_add (5 * q) 2) ?_
  refine zv_sald (j := 5 * q + 2) (x := E.2.2.2.2.2 (5 * q + 2)) dL_law_455 rfl (by omega) (by omega) rfl ?_
  refine lw_call8 (As := [.int (E.2.2.2.2.2 (5 * q + 1)), .int (E.2.2.2.2.2 (5 * q + 2))]) dL_law_456 cvL_56 rfl rfl (by decide) (cc_c1 rfl (cc_c1 rfl cc_c0)) hm (fun I2 hi => ?_)
  exact zv_icmp_eq (tgt := 936) dL_law_459 (by decide) (fun _ => k _ _ _ _ hi) (fun h => absurd rfl h)
theorem lw_c10 {E : zv_E} {sh : zv_S} {I : zv_I} {J : zv_J} {R : zv_R} {q kc ks : Nat} {Q : zv_Q} (hL : E.2.2.2.2.1 ≤ 2560) (hq : 5 * q + 5 ≤ E.2.2.2.2.1) (HI : lw_I sh I J R) (k : ∀ sh' I' J' R', lw_I sh' I' J' R' → zv_V E mL_law 41 kc ks 936 [.ref 0, .ref 40, .ref 3, .int (nI (5 * q))] [] sh' I' J' R' Q) : zv_V E mL_law 41 (611 + kc) (3674 + ks) 464 [.ref 0, .ref 40, .ref 3, .int (nI (5 * q))] [] sh I J R Q := by
  refine zv_aload_n dL_law_464 rfl rfl ?_
  refine zv_aload_n dL_law_465 rfl rfl ?_
  refine zv_iload_n dL_law_466 rfl rfl ?_
  refine zv_iconst (v := nI 1) dL_law_467 (by decide) ?_
  refine zv_iadd dL_law_468 ?_
  refine cc_top (nI_add (5 * q) 1) ?_
  refine zv_sald (j := 5 * q + 1) (x := E.2.2.2.2.2 (5 * q + 1)) dL_law_469 rfl (by omega) (by omega) rfl ?_
  refine zv_aload_n dL_law_470 rfl rfl ?_
  refine zv_iload_n dL_law_471 rfl rfl ?_
  refine zv_iconst (v := nI 2) dL_law_472 (by decide) ?_
  refine zv_iadd dL_law_473 ?_
  refine cc_top (nI_add (5 * q) 2) ?_
  refine zv_sald (j := 5 * q + 2) (x := E.2.2.2.2.2 (5 * q + 2)) dL_law_474 rfl (by omega) (by omega) rfl ?_
  refine lw_call7 (M8 := mX8_state) (As := [.int (E.2.2.2.2.2 (5 * q + 1)), .int (E.2.2.2.2.2 (5 * q + 2))]) dL_law_475 cvL_57 rfl rfl (by decide) (cc_c1 rfl (cc_c1 rfl cc_c0)) (fun a nm nc nl h1 h2 h3 => lw_state h1 h2 h3 _ _) HI (fun ans s1 I1 J1 R1 hm => ?_)
  show zv_V _ _ _ _ _ 478 [.ref 0, .ref 40, .ref 3, .int (nI (5 * q))] [.int ans] _ _ _ _ _
  refine zv_aload_n dL_law_478 rfl rfl ?_
  refine zv_aload_n dL_law_479 rfl rfl ?_
  refine zv_iload_n dL_law_480 rfl rfl ?_
  refine zv_iconst (v := nI 1) dL_law_481 (by decide) ?_
  refine zv_iadd dL_law_482 ?_
  refine cc_top (nI_add (5 * q) 1) ?_
  refine zv_sald (j := 5 * q + 1) (x := E.2.2.2.2.2 (5 * q + 1)) dL_law_483 rfl (by omega) (by omega) rfl ?_
  refine zv_aload_n dL_law_484 rfl rfl ?_
  refine zv_iload_n dL_law_485 rfl rfl ?_
  refine zv_iconst (v := nI 2) dL_law_486 (by decide) ?_
  refine zv_iadd dL_law_487 ?_
  refine cc_top (nI_add (5 * q) 2) ?_
  refine zv_sald (j := 5 * q + 2) (x := E.2.2.2.2.2 (5 * q + 2)) dL_law_488 rfl (by omega) (by omega) rfl ?_
  refine lw_call8 (As := [.int (E.2.2.2.2.2 (5 * q + 1)), .int (E.2.2.2.2.2 (5 * q + 2))]) dL_law_489 cvL_60 rfl rfl (by decide) (cc_c1 rfl (cc_c1 rfl cc_c0)) hm (fun I2 hi => ?_)
  exact zv_icmp_eq (tgt := 936) dL_law_492 (by decide) (fun _ => k _ _ _ _ hi) (fun h => absurd rfl h)
theorem lw_c11 {E : zv_E} {sh : zv_S} {I : zv_I} {J : zv_J} {R : zv_R} {q kc ks : Nat} {Q : zv_Q} (hL : E.2.2.2.2.1 ≤ 2560) (hq : 5 * q + 5 ≤ E.2.2.2.2.1) (HI : lw_I sh I J R) (k : ∀ sh' I' J' R', lw_I sh' I' J' R' → zv_V E mL_law 41 kc ks 936 [.ref 0, .ref 40, .ref 3, .int (nI (5 * q))] [] sh' I' J' R' Q) : zv_V E mL_law 41 (611 + kc) (3674 + ks) 497 [.ref 0, .ref 40, .ref 3, .int (nI (5 * q))] [] sh I J R Q := by
  refine zv_aload_n dL_law_497 rfl rfl ?_
  refine zv_aload_n dL_law_498 rfl rfl ?_
  refine zv_iload_n dL_law_499 rfl rfl ?_
  refine zv_iconst (v := nI 1) dL_law_500 (by decide) ?_
  refine zv_iadd dL_law_501 ?_
  refine cc_top (nI_add (5 * q) 1) ?_
  refine zv_sald (j := 5 * q + 1) (x := E.2.2.2.2.2 (5 * q + 1)) dL_law_502 rfl (by omega) (by omega) rfl ?_
  refine zv_aload_n dL_law_503 rfl rfl ?_
  refine zv_iload_n dL_law_504 rfl rfl ?_
  refine zv_iconst (v := nI 2) dL_law_505 (by decide) ?_
  refine zv_iadd dL_law_506 ?_
  refine cc_top (nI_add (5 * q) 2) ?_
  refine zv_sald (j := 5 * q + 2) (x := E.2.2.2.2.2 (5 * q + 2)) dL_law_507 rfl (by omega) (by omega) rfl ?_
  refine zv_aload_n dL_law_508 rfl rfl ?_
  refine zv_iload_n dL_law_509 rfl rfl ?_
  refine zv_iconst (v := nI 3) dL_law_510 (by decide) ?_
  refine zv_iadd dL_law_511 ?_
  refine cc_top (nI_add (5 * q) 3) ?_
  refine zv_sald (j := 5 * q + 3) (x := E.2.2.2.2.2 (5 * q + 3)) dL_law_512 rfl (by omega) (by omega) rfl ?_
  refine lw_call7 (M8 := mX8_given) (As := [.int (E.2.2.2.2.2 (5 * q + 1)), .int (E.2.2.2.2.2 (5 * q + 2)), .int (E.2.2.2.2.2 (5 * q + 3))]) dL_law_513 cvL_61 rfl rfl (by decide) (cc_c1 rfl (cc_c1 rfl (cc_c1 rfl cc_c0))) (fun a nm nc nl h1 h2 h3 => lw_given h1 h2 h3 _ _ _) HI (fun ans s1 I1 J1 R1 hm => ?_)
  show zv_V _ _ _ _ _ 516 [.ref 0, .ref 40, .ref 3, .int (nI (5 * q))] [.int ans] _ _ _ _ _
  refine zv_aload_n dL_law_516 rfl rfl ?_
  refine zv_aload_n dL_law_517 rfl rfl ?_
  refine zv_iload_n dL_law_518 rfl rfl ?_
  refine zv_iconst (v := nI 1) dL_law_519 (by decide) ?_
  refine zv_iadd dL_law_520 ?_
  refine cc_top (nI_add (5 * q) 1) ?_
  refine zv_sald (j := 5 * q + 1) (x := E.2.2.2.2.2 (5 * q + 1)) dL_law_521 rfl (by omega) (by omega) rfl ?_
  refine zv_aload_n dL_law_522 rfl rfl ?_
  refine zv_iload_n dL_law_523 rfl rfl ?_
  refine zv_iconst (v := nI 2) dL_law_524 (by decide) ?_
  refine zv_iadd dL_law_525 ?_
  refine cc_top (nI_add (5 * q) 2) ?_
  refine zv_sald (j := 5 * q + 2) (x := E.2.2.2.2.2 (5 * q + 2)) dL_law_526 rfl (by omega) (by omega) rfl ?_
  refine zv_aload_n dL_law_527 rfl rfl ?_
  refine zv_iload_n dL_law_528 rfl rfl ?_
  refine zv_iconst (v := nI 3) dL_law_529 (by decide) ?_
  refine zv_iadd dL_law_530 ?_
  refine cc_top (nI_add (5 * q) 3) ?_
  refine zv_sald (j := 5 * q + 3) (x := E.2.2.2.2.2 (5 * q + 3)) dL_law_531 rfl (by omega) (by omega) rfl ?_
  refine lw_call8 (As := [.int (E.2.2.2.2.2 (5 * q + 1)), .int (E.2.2.2.2.2 (5 * q + 2)), .int (E.2.2.2.2.2 (5 * q + 3))]) dL_law_532 cvL_64 rfl rfl (by decide) (cc_c1 rfl (cc_c1 rfl (cc_c1 rfl cc_c0))) hm (fun I2 hi => ?_)
  exact zv_icmp_eq (tgt := 936) dL_law_535 (by decide) (fun _ => k _ _ _ _ hi) (fun h => absurd rfl h)
theorem lw_c12 {E : zv_E} {sh : zv_S} {I : zv_I} {J : zv_J} {R : zv_R} {q kc ks : Nat} {Q : zv_Q} (hL : E.2.2.2.2.1 ≤ 2560) (hq : 5 * q + 5 ≤ E.2.2.2.2.1) (HI : lw_I sh I J R) (k : ∀ sh' I' J' R', lw_I sh' I' J' R' → zv_V E mL_law 41 kc ks 936 [.ref 0, .ref 40, .ref 3, .int (nI (5 * q))] [] sh' I' J' R' Q) : zv_V E mL_law 41 (611 + kc) (3674 + ks) 540 [.ref 0, .ref 40, .ref 3, .int (nI (5 * q))] [] sh I J R Q := by
  refine zv_aload_n dL_law_540 rfl rfl ?_
  refine zv_aload_n dL_law_541 rfl rfl ?_
  refine zv_iload_n dL_law_542 rfl rfl ?_
  refine zv_iconst (v := nI 1) dL_law_543 (by decide) ?_
  refine zv_iadd dL_law_544 ?_
  refine cc_top (nI_add (5 * q) 1) ?_
  refine zv_sald (j := 5 * q + 1) (x := E.2.2.2.2.2 (5 * q + 1)) dL_law_545 rfl (by omega) (by omega) rfl ?_
  refine zv_aload_n dL_law_546 rfl rfl ?_
  refine zv_iload_n dL_law_547 rfl rfl ?_
  refine zv_iconst (v := nI 2) dL_law_548 (by decide) ?_
  refine zv_iadd dL_law_549 ?_
  refine cc_top (nI_add (5 * q) 2) ?_
  refine zv_sald (j := 5 * q + 2) (x := E.2.2.2.2.2 (5 * q + 2)) dL_law_550 rfl (by omega) (by omega) rfl ?_
  refine lw_call7 (M8 := mX8_read) (As := [.int (E.2.2.2.2.2 (5 * q + 1)), .int (E.2.2.2.2.2 (5 * q + 2))]) dL_law_551 cvL_65 rfl rfl (by decide) (cc_c1 rfl (cc_c1 rfl cc_c0)) (fun a nm nc nl h1 h2 h3 => lw_read h1 h2 h3 _ _) HI (fun ans s1 I1 J1 R1 hm => ?_)
  show zv_V _ _ _ _ _ 554 [.ref 0, .ref 40, .ref 3, .int (nI (5 * q))] [.int ans] _ _ _ _ _
  refine zv_aload_n dL_law_554 rfl rfl ?_
  refine zv_aload_n dL_law_555 rfl rfl ?_
  refine zv_iload_n dL_law_556 rfl rfl ?_
  refine zv_iconst (v := nI 1) dL_law_557 (by decide) ?_
  refine zv_iadd dL_law_558 ?_
  refine cc_top (nI_add (5 * q) 1) ?_
  refine zv_sald (j := 5 * q + 1) (x := E.2.2.2.2.2 (5 * q + 1)) dL_law_559 rfl (by omega) (by omega) rfl ?_
  refine zv_aload_n dL_law_560 rfl rfl ?_
  refine zv_iload_n dL_law_561 rfl rfl ?_
  refine zv_iconst (v := nI 2) dL_law_562 (by decide) ?_
  refine zv_iadd dL_law_563 ?_
  refine cc_top (nI_add (5 * q) 2) ?_
  refine zv_sald (j := 5 * q + 2) (x := E.2.2.2.2.2 (5 * q + 2)) dL_law_564 rfl (by omega) (by omega) rfl ?_
  refine lw_call8 (As := [.int (E.2.2.2.2.2 (5 * q + 1)), .int (E.2.2.2.2.2 (5 * q + 2))]) dL_law_565 cvL_68 rfl rfl (by decide) (cc_c1 rfl (cc_c1 rfl cc_c0)) hm (fun I2 hi => ?_)
  exact zv_icmp_eq (tgt := 936) dL_law_568 (by decide) (fun _ => k _ _ _ _ hi) (fun h => absurd rfl h)
theorem lw_c13 {E : zv_E} {sh : zv_S} {I : zv_I} {J : zv_J} {R : zv_R} {q kc ks : Nat} {Q : zv_Q} (hL : E.2.2.2.2.1 ≤ 2560) (hq : 5 * q + 5 ≤ E.2.2.2.2.1) (HI : lw_I sh I J R) (k : ∀ sh' I' J' R', lw_I sh' I' J' R' → zv_V E mL_law 41 kc ks 936 [.ref 0, .ref 40, .ref 3, .int (nI (5 * q))] [] sh' I' J' R' Q) : zv_V E mL_law 41 (611 + kc) (3674 + ks) 573 [.ref 0, .ref 40, .ref 3, .int (nI (5 * q))] [] sh I J R Q := by
  refine zv_aload_n dL_law_573 rfl rfl ?_
  refine zv_aload_n dL_law_574 rfl rfl ?_
  refine zv_iload_n dL_law_575 rfl rfl ?_
  refine zv_iconst (v := nI 1) dL_law_576 (by decide) ?_
  refine zv_iadd dL_law_577 ?_
  refine cc_top (nI_add (5 * q) 1) ?_
  refine zv_sald (j := 5 * q + 1) (x := E.2.2.2.2.2 (5 * q + 1)) dL_law_578 rfl (by omega) (by omega) rfl ?_
  refine zv_aload_n dL_law_579 rfl rfl ?_
  refine zv_iload_n dL_law_580 rfl rfl ?_
  refine zv_iconst (v := nI 2) dL_law_581 (by decide) ?_
  refine zv_iadd dL_law_582 ?_
  refine cc_top (nI_add (5 * q) 2) ?_
  refine zv_sald (j := 5 * q + 2) (x := E.2.2.2.2.2 (5 * q + 2)) dL_law_583 rfl (by omega) (by omega) rfl ?_
  refine zv_aload_n dL_law_584 rfl rfl ?_
  refine zv_iload_n dL_law_585 rfl rfl ?_
  refine zv_iconst (v := nI 3) dL_law_586 (by decide) ?_
  refine zv_iadd dL_law_587 ?_
  refine cc_top (nI_add (5 * q) 3) ?_
  refine zv_sald (j := 5 * q + 3) (x := E.2.2.2.2.2 (5 * q + 3)) dL_law_588 rfl (by omega) (by omega) rfl ?_
  refine lw_call7 (M8 := mX8_why) (As := [.int (E.2.2.2.2.2 (5 * q + 1)), .int (E.2.2.2.2.2 (5 * q + 2)), .int (E.2.2.2.2.2 (5 * q + 3))]) dL_law_589 cvL_69 rfl rfl (by decide) (cc_c1 rfl (cc_c1 rfl (cc_c1 rfl cc_c0))) (fun a nm nc nl h1 h2 h3 => lw_why h1 h2 h3 _ _ _) HI (fun ans s1 I1 J1 R1 hm => ?_)
  show zv_V _ _ _ _ _ 592 [.ref 0, .ref 40, .ref 3, .int (nI (5 * q))] [.int ans] _ _ _ _ _
  refine zv_aload_n dL_law_592 rfl rfl ?_
  refine zv_aload_n dL_law_593 rfl rfl ?_
  refine zv_iload_n dL_law_594 rfl rfl ?_
  refine zv_iconst (v := nI 1) dL_law_595 (by decide) ?_
  refine zv_iadd dL_law_596 ?_
  refine cc_top (nI_add (5 * q) 1) ?_
  refine zv_sald (j := 5 * q + 1) (x := E.2.2.2.2.2 (5 * q + 1)) dL_law_597 rfl (by omega) (by omega) rfl ?_
  refine zv_aload_n dL_law_598 rfl rfl ?_
  refine zv_iload_n dL_law_599 rfl rfl ?_
  refine zv_iconst (v := nI 2) dL_law_600 (by decide) ?_
  refine zv_iadd dL_law_601 ?_
  refine cc_top (nI_add (5 * q) 2) ?_
  refine zv_sald (j := 5 * q + 2) (x := E.2.2.2.2.2 (5 * q + 2)) dL_law_602 rfl (by omega) (by omega) rfl ?_
  refine zv_aload_n dL_law_603 rfl rfl ?_
  refine zv_iload_n dL_law_604 rfl rfl ?_
  refine zv_iconst (v := nI 3) dL_law_605 (by decide) ?_
  refine zv_iadd dL_law_606 ?_
  refine cc_top (nI_add (5 * q) 3) ?_
  refine zv_sald (j := 5 * q + 3) (x := E.2.2.2.2.2 (5 * q + 3)) dL_law_607 rfl (by omega) (by omega) rfl ?_
  refine lw_call8 (As := [.int (E.2.2.2.2.2 (5 * q + 1)), .int (E.2.2.2.2.2 (5 * q + 2)), .int (E.2.2.2.2.2 (5 * q + 3))]) dL_law_608 cvL_72 rfl rfl (by decide) (cc_c1 rfl (cc_c1 rfl (cc_c1 rfl cc_c0))) hm (fun I2 hi => ?_)
  exact zv_icmp_eq (tgt := 936) dL_law_611 (by decide) (fun _ => k _ _ _ _ hi) (fun h => absurd rfl h)
theorem lw_c14 {E : zv_E} {sh : zv_S} {I : zv_I} {J : zv_J} {R : zv_R} {q kc ks : Nat} {Q : zv_Q} (hL : E.2.2.2.2.1 ≤ 2560) (hq : 5 * q + 5 ≤ E.2.2.2.2.1) (HI : lw_I sh I J R) (k : ∀ sh' I' J' R', lw_I sh' I' J' R' → zv_V E mL_law 41 kc ks 936 [.ref 0, .ref 40, .ref 3, .int (nI (5 * q))] [] sh' I' J' R' Q) : zv_V E mL_law 41 (611 + kc) (3674 + ks) 616 [.ref 0, .ref 40, .ref 3, .int (nI (5 * q))] [] sh I J R Q := by
  refine zv_aload_n dL_law_616 rfl rfl ?_
  refine zv_aload_n dL_law_617 rfl rfl ?_
  refine zv_iload_n dL_law_618 rfl rfl ?_
  refine zv_iconst (v := nI 1) dL_law_619 (by decide) ?_
  refine zv_iadd dL_law_620 ?_
  refine cc_top (nI_add (5 * q) 1) ?_
  refine zv_sald (j := 5 * q + 1) (x := E.2.2.2.2.2 (5 * q + 1)) dL_law_621 rfl (by omega) (by omega) rfl ?_
  refine lw_call7 (M8 := mX8_late) (As := [.int (E.2.2.2.2.2 (5 * q + 1))]) dL_law_622 cvL_73 rfl rfl (by decide) (cc_c1 rfl cc_c0) (fun a nm nc nl h1 h2 h3 => lw_late h1 h2 h3 _) HI (fun ans s1 I1 J1 R1 hm => ?_)
  show zv_V _ _ _ _ _ 625 [.ref 0, .ref 40, .ref 3, .int (nI (5 * q))] [.int ans] _ _ _ _ _
  refine zv_aload_n dL_law_625 rfl rfl ?_
  refine zv_aload_n dL_law_626 rfl rfl ?_
  refine zv_iload_n dL_law_627 rfl rfl ?_
  refine zv_iconst (v := nI 1) dL_law_628 (by decide) ?_
  refine zv_iadd dL_law_629 ?_
  refine cc_top (nI_add (5 * q) 1) ?_
  refine zv_sald (j := 5 * q + 1) (x := E.2.2.2.2.2 (5 * q + 1)) dL_law_630 rfl (by omega) (by omega) rfl ?_
  refine lw_call8 (As := [.int (E.2.2.2.2.2 (5 * q + 1))]) dL_law_631 cvL_76 rfl rfl (by decide) (cc_c1 rfl cc_c0) hm (fun I2 hi => ?_)
  exact zv_icmp_eq (tgt := 936) dL_law_634 (by decide) (fun _ => k _ _ _ _ hi) (fun h => absurd rfl h)
theorem lw_c15 {E : zv_E} {sh : zv_S} {I : zv_I} {J : zv_J} {R : zv_R} {q kc ks : Nat} {Q : zv_Q} (hL : E.2.2.2.2.1 ≤ 2560) (hq : 5 * q + 5 ≤ E.2.2.2.2.1) (HI : lw_I sh I J R) (k : ∀ sh' I' J' R', lw_I sh' I' J' R' → zv_V E mL_law 41 kc ks 936 [.ref 0, .ref 40, .ref 3, .int (nI (5 * q))] [] sh' I' J' R' Q) : zv_V E mL_law 41 (611 + kc) (3674 + ks) 639 [.ref 0, .ref 40, .ref 3, .int (nI (5 * q))] [] sh I J R Q := by
  refine zv_aload_n dL_law_639 rfl rfl ?_
  refine zv_aload_n dL_law_640 rfl rfl ?_
  refine zv_iload_n dL_law_641 rfl rfl ?_
  refine zv_iconst (v := nI 1) dL_law_642 (by decide) ?_
  refine zv_iadd dL_law_643 ?_
  refine cc_top (nI_add (5 * q) 1) ?_
  refine zv_sald (j := 5 * q + 1) (x := E.2.2.2.2.2 (5 * q + 1)) dL_law_644 rfl (by omega) (by omega) rfl ?_
  refine zv_aload_n dL_law_645 rfl rfl ?_
  refine zv_iload_n dL_law_646 rfl rfl ?_
  refine zv_iconst (v := nI 2) dL_law_647 (by decide) ?_
  refine zv_iadd dL_law_648 ?_
  refine cc_top (nI_add (5 * q) 2) ?_
  refine zv_sald (j := 5 * q + 2) (x := E.2.2.2.2.2 (5 * q + 2)) dL_law_649 rfl (by omega) (by omega) rfl ?_
  refine lw_call7 (M8 := mX8_behind) (As := [.int (E.2.2.2.2.2 (5 * q + 1)), .int (E.2.2.2.2.2 (5 * q + 2))]) dL_law_650 cvL_77 rfl rfl (by decide) (cc_c1 rfl (cc_c1 rfl cc_c0)) (fun a nm nc nl h1 h2 h3 => lw_behind h1 h2 h3 _ _) HI (fun ans s1 I1 J1 R1 hm => ?_)
  show zv_V _ _ _ _ _ 653 [.ref 0, .ref 40, .ref 3, .int (nI (5 * q))] [.int ans] _ _ _ _ _
  refine zv_aload_n dL_law_653 rfl rfl ?_
  refine zv_aload_n dL_law_654 rfl rfl ?_
  refine zv_iload_n dL_law_655 rfl rfl ?_
  refine zv_iconst (v := nI 1) dL_law_656 (by decide) ?_
  refine zv_iadd dL_law_657 ?_
  refine cc_top (nI_add (5 * q) 1) ?_
  refine zv_sald (j := 5 * q + 1) (x := E.2.2.2.2.2 (5 * q + 1)) dL_law_658 rfl (by omega) (by omega) rfl ?_
  refine zv_aload_n dL_law_659 rfl rfl ?_
  refine zv_iload_n dL_law_660 rfl rfl ?_
  refine zv_iconst (v := nI 2) dL_law_661 (by decide) ?_
  refine zv_iadd dL_law_662 ?_
  refine cc_top (nI_add (5 * q) 2) ?_
  refine zv_sald (j := 5 * q + 2) (x := E.2.2.2.2.2 (5 * q + 2)) dL_law_663 rfl (by omega) (by omega) rfl ?_
  refine lw_call8 (As := [.int (E.2.2.2.2.2 (5 * q + 1)), .int (E.2.2.2.2.2 (5 * q + 2))]) dL_law_664 cvL_80 rfl rfl (by decide) (cc_c1 rfl (cc_c1 rfl cc_c0)) hm (fun I2 hi => ?_)
  exact zv_icmp_eq (tgt := 936) dL_law_667 (by decide) (fun _ => k _ _ _ _ hi) (fun h => absurd rfl h)
theorem lw_c16 {E : zv_E} {sh : zv_S} {I : zv_I} {J : zv_J} {R : zv_R} {q kc ks : Nat} {Q : zv_Q} (hL : E.2.2.2.2.1 ≤ 2560) (hq : 5 * q + 5 ≤ E.2.2.2.2.1) (HI : lw_I sh I J R) (k : ∀ sh' I' J' R', lw_I sh' I' J' R' → zv_V E mL_law 41 kc ks 936 [.ref 0, .ref 40, .ref 3, .int (nI (5 * q))] [] sh' I' J' R' Q) : zv_V E mL_law 41 (611 + kc) (3674 + ks) 672 [.ref 0, .ref 40, .ref 3, .int (nI (5 * q))] [] sh I J R Q := by
  refine zv_aload_n dL_law_672 rfl rfl ?_
  refine zv_aload_n dL_law_673 rfl rfl ?_
  refine zv_iload_n dL_law_674 rfl rfl ?_
  refine zv_iconst (v := nI 1) dL_law_675 (by decide) ?_
  refine zv_iadd dL_law_676 ?_
  refine cc_top (nI_add (5 * q) 1) ?_
  refine zv_sald (j := 5 * q + 1) (x := E.2.2.2.2.2 (5 * q + 1)) dL_law_677 rfl (by omega) (by omega) rfl ?_
  refine lw_call7 (M8 := mX8_past) (As := [.int (E.2.2.2.2.2 (5 * q + 1))]) dL_law_678 cvL_81 rfl rfl (by decide) (cc_c1 rfl cc_c0) (fun a nm nc nl h1 h2 h3 => lw_past h1 h2 h3 _) HI (fun ans s1 I1 J1 R1 hm => ?_)
  show zv_V _ _ _ _ _ 681 [.ref 0, .ref 40, .ref 3, .int (nI (5 * q))] [.int ans] _ _ _ _ _
  refine zv_aload_n dL_law_681 rfl rfl ?_
  refine zv_aload_n dL_law_682 rfl rfl ?_
  refine zv_iload_n dL_law_683 rfl rfl ?_
  refine zv_iconst (v := nI 1) dL_law_684 (by decide) ?_
  refine zv_iadd dL_law_685 ?_
  refine cc_top (nI_add (5 * q) 1) ?_
  refine zv_sald (j := 5 * q + 1) (x := E.2.2.2.2.2 (5 * q + 1)) dL_law_686 rfl (by omega) (by omega) rfl ?_
  refine lw_call8 (As := [.int (E.2.2.2.2.2 (5 * q + 1))]) dL_law_687 cvL_84 rfl rfl (by decide) (cc_c1 rfl cc_c0) hm (fun I2 hi => ?_)
  exact zv_icmp_eq (tgt := 936) dL_law_690 (by decide) (fun _ => k _ _ _ _ hi) (fun h => absurd rfl h)
theorem lw_c17 {E : zv_E} {sh : zv_S} {I : zv_I} {J : zv_J} {R : zv_R} {q kc ks : Nat} {Q : zv_Q} (hL : E.2.2.2.2.1 ≤ 2560) (hq : 5 * q + 5 ≤ E.2.2.2.2.1) (HI : lw_I sh I J R) (k : ∀ sh' I' J' R', lw_I sh' I' J' R' → zv_V E mL_law 41 kc ks 936 [.ref 0, .ref 40, .ref 3, .int (nI (5 * q))] [] sh' I' J' R' Q) : zv_V E mL_law 41 (611 + kc) (3674 + ks) 695 [.ref 0, .ref 40, .ref 3, .int (nI (5 * q))] [] sh I J R Q := by
  refine zv_aload_n dL_law_695 rfl rfl ?_
  refine zv_aload_n dL_law_696 rfl rfl ?_
  refine zv_iload_n dL_law_697 rfl rfl ?_
  refine zv_iconst (v := nI 1) dL_law_698 (by decide) ?_
  refine zv_iadd dL_law_699 ?_
  refine cc_top (nI_add (5 * q) 1) ?_
  refine zv_sald (j := 5 * q + 1) (x := E.2.2.2.2.2 (5 * q + 1)) dL_law_700 rfl (by omega) (by omega) rfl ?_
  refine zv_aload_n dL_law_701 rfl rfl ?_
  refine zv_iload_n dL_law_702 rfl rfl ?_
  refine zv_iconst (v := nI 2) dL_law_703 (by decide) ?_
  refine zv_iadd dL_law_704 ?_
  refine cc_top (nI_add (5 * q) 2) ?_
  refine zv_sald (j := 5 * q + 2) (x := E.2.2.2.2.2 (5 * q + 2)) dL_law_705 rfl (by omega) (by omega) rfl ?_
  refine lw_call7 (M8 := mX8_chain) (As := [.int (E.2.2.2.2.2 (5 * q + 1)), .int (E.2.2.2.2.2 (5 * q + 2))]) dL_law_706 cvL_85 rfl rfl (by decide) (cc_c1 rfl (cc_c1 rfl cc_c0)) (fun a nm nc nl h1 h2 h3 => lw_chain h1 h2 h3 _ _) HI (fun ans s1 I1 J1 R1 hm => ?_)
  show zv_V _ _ _ _ _ 709 [.ref 0, .ref 40, .ref 3, .int (nI (5 * q))] [.int ans] _ _ _ _ _
  refine zv_aload_n dL_law_709 rfl rfl ?_
  refine zv_aload_n dL_law_710 rfl rfl ?_
  refine zv_iload_n dL_law_711 rfl rfl ?_
  refine zv_iconst (v := nI 1) dL_law_712 (by decide) ?_
  refine zv_iadd dL_law_713 ?_
  refine cc_top (nI_add (5 * q) 1) ?_
  refine zv_sald (j := 5 * q + 1) (x := E.2.2.2.2.2 (5 * q + 1)) dL_law_714 rfl (by omega) (by omega) rfl ?_
  refine zv_aload_n dL_law_715 rfl rfl ?_
  refine zv_iload_n dL_law_716 rfl rfl ?_
  refine zv_iconst (v := nI 2) dL_law_717 (by decide) ?_
  refine zv_iadd dL_law_718 ?_
  refine cc_top (nI_add (5 * q) 2) ?_
  refine zv_sald (j := 5 * q + 2) (x := E.2.2.2.2.2 (5 * q + 2)) dL_law_719 rfl (by omega) (by omega) rfl ?_
  refine lw_call8 (As := [.int (E.2.2.2.2.2 (5 * q + 1)), .int (E.2.2.2.2.2 (5 * q + 2))]) dL_law_720 cvL_88 rfl rfl (by decide) (cc_c1 rfl (cc_c1 rfl cc_c0)) hm (fun I2 hi => ?_)
  exact zv_icmp_eq (tgt := 936) dL_law_723 (by decide) (fun _ => k _ _ _ _ hi) (fun h => absurd rfl h)
theorem lw_c18 {E : zv_E} {sh : zv_S} {I : zv_I} {J : zv_J} {R : zv_R} {q kc ks : Nat} {Q : zv_Q} (hL : E.2.2.2.2.1 ≤ 2560) (hq : 5 * q + 5 ≤ E.2.2.2.2.1) (HI : lw_I sh I J R) (k : ∀ sh' I' J' R', lw_I sh' I' J' R' → zv_V E mL_law 41 kc ks 936 [.ref 0, .ref 40, .ref 3, .int (nI (5 * q))] [] sh' I' J' R' Q) : zv_V E mL_law 41 (611 + kc) (3674 + ks) 728 [.ref 0, .ref 40, .ref 3, .int (nI (5 * q))] [] sh I J R Q := by
  refine zv_aload_n dL_law_728 rfl rfl ?_
  refine zv_aload_n dL_law_729 rfl rfl ?_
  refine zv_iload_n dL_law_730 rfl rfl ?_
  refine zv_iconst (v := nI 1) dL_law_731 (by decide) ?_
  refine zv_iadd dL_law_732 ?_
  refine cc_top (nI_add (5 * q) 1) ?_
  refine zv_sald (j := 5 * q + 1) (x := E.2.2.2.2.2 (5 * q + 1)) dL_law_733 rfl (by omega) (by omega) rfl ?_
  refine zv_aload_n dL_law_734 rfl rfl ?_
  refine zv_iload_n dL_law_735 rfl rfl ?_
  refine zv_iconst (v := nI 2) dL_law_736 (by decide) ?_
  refine zv_iadd dL_law_737 ?_
  refine cc_top (nI_add (5 * q) 2) ?_
  refine zv_sald (j := 5 * q + 2) (x := E.2.2.2.2.2 (5 * q + 2)) dL_law_738 rfl (by omega) (by omega) rfl ?_
  refine zv_aload_n dL_law_739 rfl rfl ?_
  refine zv_iload_n dL_law_740 rfl rfl ?_
  refine zv_iconst (v := nI 3) dL_law_741 (by decide) ?_
  refine zv_iadd dL_law_742 ?_
  refine cc_top (nI_add (5 * q) 3) ?_
  refine zv_sald (j := 5 * q + 3) (x := E.2.2.2.2.2 (5 * q + 3)) dL_law_743 rfl (by omega) (by omega) rfl ?_
  refine lw_call7 (M8 := mX8_act) (As := [.int (E.2.2.2.2.2 (5 * q + 1)), .int (E.2.2.2.2.2 (5 * q + 2)), .int (E.2.2.2.2.2 (5 * q + 3))]) dL_law_744 cvL_89 rfl rfl (by decide) (cc_c1 rfl (cc_c1 rfl (cc_c1 rfl cc_c0))) (fun a nm nc nl h1 h2 h3 => lw_act h1 h2 h3 _ _ _) HI (fun ans s1 I1 J1 R1 hm => ?_)
  show zv_V _ _ _ _ _ 747 [.ref 0, .ref 40, .ref 3, .int (nI (5 * q))] [.int ans] _ _ _ _ _
  refine zv_aload_n dL_law_747 rfl rfl ?_
  refine zv_aload_n dL_law_748 rfl rfl ?_
  refine zv_iload_n dL_law_749 rfl rfl ?_
  refine zv_iconst (v := nI 1) dL_law_750 (by decide) ?_
  refine zv_iadd dL_law_751 ?_
  refine cc_top (nI_add (5 * q) 1) ?_
  refine zv_sald (j := 5 * q + 1) (x := E.2.2.2.2.2 (5 * q + 1)) dL_law_752 rfl (by omega) (by omega) rfl ?_
  refine zv_aload_n dL_law_753 rfl rfl ?_
  refine zv_iload_n dL_law_754 rfl rfl ?_
  refine zv_iconst (v := nI 2) dL_law_755 (by decide) ?_
  refine zv_iadd dL_law_756 ?_
  refine cc_top (nI_add (5 * q) 2) ?_
  refine zv_sald (j := 5 * q + 2) (x := E.2.2.2.2.2 (5 * q + 2)) dL_law_757 rfl (by omega) (by omega) rfl ?_
  refine zv_aload_n dL_law_758 rfl rfl ?_
  refine zv_iload_n dL_law_759 rfl rfl ?_
  refine zv_iconst (v := nI 3) dL_law_760 (by decide) ?_
  refine zv_iadd dL_law_761 ?_
  refine cc_top (nI_add (5 * q) 3) ?_
  refine zv_sald (j := 5 * q + 3) (x := E.2.2.2.2.2 (5 * q + 3)) dL_law_762 rfl (by omega) (by omega) rfl ?_
  refine lw_call8 (As := [.int (E.2.2.2.2.2 (5 * q + 1)), .int (E.2.2.2.2.2 (5 * q + 2)), .int (E.2.2.2.2.2 (5 * q + 3))]) dL_law_763 cvL_92 rfl rfl (by decide) (cc_c1 rfl (cc_c1 rfl (cc_c1 rfl cc_c0))) hm (fun I2 hi => ?_)
  exact zv_icmp_eq (tgt := 936) dL_law_766 (by decide) (fun _ => k _ _ _ _ hi) (fun h => absurd rfl h)
theorem lw_c19 {E : zv_E} {sh : zv_S} {I : zv_I} {J : zv_J} {R : zv_R} {q kc ks : Nat} {Q : zv_Q} (hL : E.2.2.2.2.1 ≤ 2560) (hq : 5 * q + 5 ≤ E.2.2.2.2.1) (HI : lw_I sh I J R) (k : ∀ sh' I' J' R', lw_I sh' I' J' R' → zv_V E mL_law 41 kc ks 936 [.ref 0, .ref 40, .ref 3, .int (nI (5 * q))] [] sh' I' J' R' Q) : zv_V E mL_law 41 (611 + kc) (3674 + ks) 771 [.ref 0, .ref 40, .ref 3, .int (nI (5 * q))] [] sh I J R Q := by
  refine zv_aload_n dL_law_771 rfl rfl ?_
  refine zv_aload_n dL_law_772 rfl rfl ?_
  refine zv_iload_n dL_law_773 rfl rfl ?_
  refine zv_iconst (v := nI 1) dL_law_774 (by decide) ?_
  refine zv_iadd dL_law_775 ?_
  refine cc_top (nI_add (5 * q) 1) ?_
  refine zv_sald (j := 5 * q + 1) (x := E.2.2.2.2.2 (5 * q + 1)) dL_law_776 rfl (by omega) (by omega) rfl ?_
  refine lw_call7 (M8 := mX8_trace) (As := [.int (E.2.2.2.2.2 (5 * q + 1))]) dL_law_777 cvL_93 rfl rfl (by decide) (cc_c1 rfl cc_c0) (fun a nm nc nl h1 h2 h3 => lw_trace h1 h2 h3 _) HI (fun ans s1 I1 J1 R1 hm => ?_)
  show zv_V _ _ _ _ _ 780 [.ref 0, .ref 40, .ref 3, .int (nI (5 * q))] [.int ans] _ _ _ _ _
  refine zv_aload_n dL_law_780 rfl rfl ?_
  refine zv_aload_n dL_law_781 rfl rfl ?_
  refine zv_iload_n dL_law_782 rfl rfl ?_
  refine zv_iconst (v := nI 1) dL_law_783 (by decide) ?_
  refine zv_iadd dL_law_784 ?_
  refine cc_top (nI_add (5 * q) 1) ?_
  refine zv_sald (j := 5 * q + 1) (x := E.2.2.2.2.2 (5 * q + 1)) dL_law_785 rfl (by omega) (by omega) rfl ?_
  refine lw_call8 (As := [.int (E.2.2.2.2.2 (5 * q + 1))]) dL_law_786 cvL_96 rfl rfl (by decide) (cc_c1 rfl cc_c0) hm (fun I2 hi => ?_)
  exact zv_icmp_eq (tgt := 936) dL_law_789 (by decide) (fun _ => k _ _ _ _ hi) (fun h => absurd rfl h)
theorem lw_c20 {E : zv_E} {sh : zv_S} {I : zv_I} {J : zv_J} {R : zv_R} {q kc ks : Nat} {Q : zv_Q} (hL : E.2.2.2.2.1 ≤ 2560) (hq : 5 * q + 5 ≤ E.2.2.2.2.1) (HI : lw_I sh I J R) (k : ∀ sh' I' J' R', lw_I sh' I' J' R' → zv_V E mL_law 41 kc ks 936 [.ref 0, .ref 40, .ref 3, .int (nI (5 * q))] [] sh' I' J' R' Q) : zv_V E mL_law 41 (611 + kc) (3674 + ks) 794 [.ref 0, .ref 40, .ref 3, .int (nI (5 * q))] [] sh I J R Q := by
  refine zv_aload_n dL_law_794 rfl rfl ?_
  refine zv_aload_n dL_law_795 rfl rfl ?_
  refine zv_iload_n dL_law_796 rfl rfl ?_
  refine zv_iconst (v := nI 1) dL_law_797 (by decide) ?_
  refine zv_iadd dL_law_798 ?_
  refine cc_top (nI_add (5 * q) 1) ?_
  refine zv_sald (j := 5 * q + 1) (x := E.2.2.2.2.2 (5 * q + 1)) dL_law_799 rfl (by omega) (by omega) rfl ?_
  refine zv_aload_n dL_law_800 rfl rfl ?_
  refine zv_iload_n dL_law_801 rfl rfl ?_
  refine zv_iconst (v := nI 2) dL_law_802 (by decide) ?_
  refine zv_iadd dL_law_803 ?_
  refine cc_top (nI_add (5 * q) 2) ?_
  refine zv_sald (j := 5 * q + 2) (x := E.2.2.2.2.2 (5 * q + 2)) dL_law_804 rfl (by omega) (by omega) rfl ?_
  refine zv_aload_n dL_law_805 rfl rfl ?_
  refine zv_iload_n dL_law_806 rfl rfl ?_
  refine zv_iconst (v := nI 3) dL_law_807 (by decide) ?_
  refine zv_iadd dL_law_808 ?_
  refine cc_top (nI_add (5 * q) 3) ?_
  refine zv_sald (j := 5 * q + 3) (x := E.2.2.2.2.2 (5 * q + 3)) dL_law_809 rfl (by omega) (by omega) rfl ?_
  refine lw_call7 (M8 := mX8_bare) (As := [.int (E.2.2.2.2.2 (5 * q + 1)), .int (E.2.2.2.2.2 (5 * q + 2)), .int (E.2.2.2.2.2 (5 * q + 3))]) dL_law_810 cvL_97 rfl rfl (by decide) (cc_c1 rfl (cc_c1 rfl (cc_c1 rfl cc_c0))) (fun a nm nc nl h1 h2 h3 => lw_bare h1 h2 h3 _ _ _) HI (fun ans s1 I1 J1 R1 hm => ?_)
  show zv_V _ _ _ _ _ 813 [.ref 0, .ref 40, .ref 3, .int (nI (5 * q))] [.int ans] _ _ _ _ _
  refine zv_aload_n dL_law_813 rfl rfl ?_
  refine zv_aload_n dL_law_814 rfl rfl ?_
  refine zv_iload_n dL_law_815 rfl rfl ?_
  refine zv_iconst (v := nI 1) dL_law_816 (by decide) ?_
  refine zv_iadd dL_law_817 ?_
  refine cc_top (nI_add (5 * q) 1) ?_
  refine zv_sald (j := 5 * q + 1) (x := E.2.2.2.2.2 (5 * q + 1)) dL_law_818 rfl (by omega) (by omega) rfl ?_
  refine zv_aload_n dL_law_819 rfl rfl ?_
  refine zv_iload_n dL_law_820 rfl rfl ?_
  refine zv_iconst (v := nI 2) dL_law_821 (by decide) ?_
  refine zv_iadd dL_law_822 ?_
  refine cc_top (nI_add (5 * q) 2) ?_
  refine zv_sald (j := 5 * q + 2) (x := E.2.2.2.2.2 (5 * q + 2)) dL_law_823 rfl (by omega) (by omega) rfl ?_
  refine zv_aload_n dL_law_824 rfl rfl ?_
  refine zv_iload_n dL_law_825 rfl rfl ?_
  refine zv_iconst (v := nI 3) dL_law_826 (by decide) ?_
  refine zv_iadd dL_law_827 ?_
  refine cc_top (nI_add (5 * q) 3) ?_
  refine zv_sald (j := 5 * q + 3) (x := E.2.2.2.2.2 (5 * q + 3)) dL_law_828 rfl (by omega) (by omega) rfl ?_
  refine lw_call8 (As := [.int (E.2.2.2.2.2 (5 * q + 1)), .int (E.2.2.2.2.2 (5 * q + 2)), .int (E.2.2.2.2.2 (5 * q + 3))]) dL_law_829 cvL_100 rfl rfl (by decide) (cc_c1 rfl (cc_c1 rfl (cc_c1 rfl cc_c0))) hm (fun I2 hi => ?_)
  exact zv_icmp_eq (tgt := 936) dL_law_832 (by decide) (fun _ => k _ _ _ _ hi) (fun h => absurd rfl h)
theorem lw_c21 {E : zv_E} {sh : zv_S} {I : zv_I} {J : zv_J} {R : zv_R} {q kc ks : Nat} {Q : zv_Q} (hL : E.2.2.2.2.1 ≤ 2560) (hq : 5 * q + 5 ≤ E.2.2.2.2.1) (HI : lw_I sh I J R) (k : ∀ sh' I' J' R', lw_I sh' I' J' R' → zv_V E mL_law 41 kc ks 936 [.ref 0, .ref 40, .ref 3, .int (nI (5 * q))] [] sh' I' J' R' Q) : zv_V E mL_law 41 (611 + kc) (3674 + ks) 837 [.ref 0, .ref 40, .ref 3, .int (nI (5 * q))] [] sh I J R Q := by
  refine zv_aload_n dL_law_837 rfl rfl ?_
  refine zv_aload_n dL_law_838 rfl rfl ?_
  refine zv_iload_n dL_law_839 rfl rfl ?_
  refine zv_iconst (v := nI 1) dL_law_840 (by decide) ?_
  refine zv_iadd dL_law_841 ?_
  refine cc_top (nI_add (5 * q) 1) ?_
  refine zv_sald (j := 5 * q + 1) (x := E.2.2.2.2.2 (5 * q + 1)) dL_law_842 rfl (by omega) (by omega) rfl ?_
  refine zv_aload_n dL_law_843 rfl rfl ?_
  refine zv_iload_n dL_law_844 rfl rfl ?_
  refine zv_iconst (v := nI 2) dL_law_845 (by decide) ?_
  refine zv_iadd dL_law_846 ?_
  refine cc_top (nI_add (5 * q) 2) ?_
  refine zv_sald (j := 5 * q + 2) (x := E.2.2.2.2.2 (5 * q + 2)) dL_law_847 rfl (by omega) (by omega) rfl ?_
  refine lw_call7 (M8 := mX8_slot) (As := [.int (E.2.2.2.2.2 (5 * q + 1)), .int (E.2.2.2.2.2 (5 * q + 2))]) dL_law_848 cvL_101 rfl rfl (by decide) (cc_c1 rfl (cc_c1 rfl cc_c0)) (fun a nm nc nl h1 h2 h3 => lw_slot h1 h2 h3 _ _) HI (fun ans s1 I1 J1 R1 hm => ?_)
  show zv_V _ _ _ _ _ 851 [.ref 0, .ref 40, .ref 3, .int (nI (5 * q))] [.int ans] _ _ _ _ _
  refine zv_aload_n dL_law_851 rfl rfl ?_
  refine zv_aload_n dL_law_852 rfl rfl ?_
  refine zv_iload_n dL_law_853 rfl rfl ?_
  refine zv_iconst (v := nI 1) dL_law_854 (by decide) ?_
  refine zv_iadd dL_law_855 ?_
  refine cc_top (nI_add (5 * q) 1) ?_
  refine zv_sald (j := 5 * q + 1) (x := E.2.2.2.2.2 (5 * q + 1)) dL_law_856 rfl (by omega) (by omega) rfl ?_
  refine zv_aload_n dL_law_857 rfl rfl ?_
  refine zv_iload_n dL_law_858 rfl rfl ?_
  refine zv_iconst (v := nI 2) dL_law_859 (by decide) ?_
  refine zv_iadd dL_law_860 ?_
  refine cc_top (nI_add (5 * q) 2) ?_
  refine zv_sald (j := 5 * q + 2) (x := E.2.2.2.2.2 (5 * q + 2)) dL_law_861 rfl (by omega) (by omega) rfl ?_
  refine lw_call8 (As := [.int (E.2.2.2.2.2 (5 * q + 1)), .int (E.2.2.2.2.2 (5 * q + 2))]) dL_law_862 cvL_104 rfl rfl (by decide) (cc_c1 rfl (cc_c1 rfl cc_c0)) hm (fun I2 hi => ?_)
  exact zv_icmp_eq (tgt := 936) dL_law_865 (by decide) (fun _ => k _ _ _ _ hi) (fun h => absurd rfl h)
theorem lw_c22 {E : zv_E} {sh : zv_S} {I : zv_I} {J : zv_J} {R : zv_R} {q kc ks : Nat} {Q : zv_Q} (hL : E.2.2.2.2.1 ≤ 2560) (hq : 5 * q + 5 ≤ E.2.2.2.2.1) (HI : lw_I sh I J R) (k : ∀ sh' I' J' R', lw_I sh' I' J' R' → zv_V E mL_law 41 kc ks 936 [.ref 0, .ref 40, .ref 3, .int (nI (5 * q))] [] sh' I' J' R' Q) : zv_V E mL_law 41 (611 + kc) (3674 + ks) 870 [.ref 0, .ref 40, .ref 3, .int (nI (5 * q))] [] sh I J R Q := by
  refine zv_aload_n dL_law_870 rfl rfl ?_
  refine zv_aload_n dL_law_871 rfl rfl ?_
  refine zv_iload_n dL_law_872 rfl rfl ?_
  refine zv_iconst (v := nI 1) dL_law_873 (by decide) ?_
  refine zv_iadd dL_law_874 ?_
  refine cc_top (nI_add (5 * q) 1) ?_
  refine zv_sald (j := 5 * q + 1) (x := E.2.2.2.2.2 (5 * q + 1)) dL_law_875 rfl (by omega) (by omega) rfl ?_
  refine zv_aload_n dL_law_876 rfl rfl ?_
  refine zv_iload_n dL_law_877 rfl rfl ?_
  refine zv_iconst (v := nI 2) dL_law_878 (by decide) ?_
  refine zv_iadd dL_law_879 ?_
  refine cc_top (nI_add (5 * q) 2) ?_
  refine zv_sald (j := 5 * q + 2) (x := E.2.2.2.2.2 (5 * q + 2)) dL_law_880 rfl (by omega) (by omega) rfl ?_
  refine zv_aload_n dL_law_881 rfl rfl ?_
  refine zv_iload_n dL_law_882 rfl rfl ?_
  refine zv_iconst (v := nI 3) dL_law_883 (by decide) ?_
  refine zv_iadd dL_law_884 ?_
  refine cc_top (nI_add (5 * q) 3) ?_
  refine zv_sald (j := 5 * q + 3) (x := E.2.2.2.2.2 (5 * q + 3)) dL_law_885 rfl (by omega) (by omega) rfl ?_
  refine zv_aload_n dL_law_886 rfl rfl ?_
  refine zv_iload_n dL_law_887 rfl rfl ?_
  refine zv_iconst (v := nI 4) dL_law_888 (by decide) ?_
  refine zv_iadd dL_law_889 ?_
  refine cc_top (nI_add (5 * q) 4) ?_
  refine zv_sald (j := 5 * q + 4) (x := E.2.2.2.2.2 (5 * q + 4)) dL_law_890 rfl (by omega) (by omega) rfl ?_
  refine lw_call7 (M8 := mX8_forge) (As := [.int (E.2.2.2.2.2 (5 * q + 1)), .int (E.2.2.2.2.2 (5 * q + 2)), .int (E.2.2.2.2.2 (5 * q + 3)), .int (E.2.2.2.2.2 (5 * q + 4))]) dL_law_891 cvL_105 rfl rfl (by decide) (cc_c1 rfl (cc_c1 rfl (cc_c1 rfl (cc_c1 rfl cc_c0)))) (fun a nm nc nl h1 h2 h3 => lw_forge h1 h2 h3 _ _ _ _) HI (fun ans s1 I1 J1 R1 hm => ?_)
  show zv_V _ _ _ _ _ 894 [.ref 0, .ref 40, .ref 3, .int (nI (5 * q))] [.int ans] _ _ _ _ _
  refine zv_aload_n dL_law_894 rfl rfl ?_
  refine zv_aload_n dL_law_895 rfl rfl ?_
  refine zv_iload_n dL_law_896 rfl rfl ?_
  refine zv_iconst (v := nI 1) dL_law_897 (by decide) ?_
  refine zv_iadd dL_law_898 ?_
  refine cc_top (nI_add (5 * q) 1) ?_
  refine zv_sald (j := 5 * q + 1) (x := E.2.2.2.2.2 (5 * q + 1)) dL_law_899 rfl (by omega) (by omega) rfl ?_
  refine zv_aload_n dL_law_900 rfl rfl ?_
  refine zv_iload_n dL_law_901 rfl rfl ?_
  refine zv_iconst (v := nI 2) dL_law_902 (by decide) ?_
  refine zv_iadd dL_law_903 ?_
  refine cc_top (nI_add (5 * q) 2) ?_
  refine zv_sald (j := 5 * q + 2) (x := E.2.2.2.2.2 (5 * q + 2)) dL_law_904 rfl (by omega) (by omega) rfl ?_
  refine zv_aload_n dL_law_905 rfl rfl ?_
  refine zv_iload_n dL_law_906 rfl rfl ?_
  refine zv_iconst (v := nI 3) dL_law_907 (by decide) ?_
  refine zv_iadd dL_law_908 ?_
  refine cc_top (nI_add (5 * q) 3) ?_
  refine zv_sald (j := 5 * q + 3) (x := E.2.2.2.2.2 (5 * q + 3)) dL_law_909 rfl (by omega) (by omega) rfl ?_
  refine zv_aload_n dL_law_910 rfl rfl ?_
  refine zv_iload_n dL_law_911 rfl rfl ?_
  refine zv_iconst (v := nI 4) dL_law_912 (by decide) ?_
  refine zv_iadd dL_law_913 ?_
  refine cc_top (nI_add (5 * q) 4) ?_
  refine zv_sald (j := 5 * q + 4) (x := E.2.2.2.2.2 (5 * q + 4)) dL_law_914 rfl (by omega) (by omega) rfl ?_
  refine lw_call8 (As := [.int (E.2.2.2.2.2 (5 * q + 1)), .int (E.2.2.2.2.2 (5 * q + 2)), .int (E.2.2.2.2.2 (5 * q + 3)), .int (E.2.2.2.2.2 (5 * q + 4))]) dL_law_915 cvL_109 rfl rfl (by decide) (cc_c1 rfl (cc_c1 rfl (cc_c1 rfl (cc_c1 rfl cc_c0)))) hm (fun I2 hi => ?_)
  exact zv_icmp_eq (tgt := 936) dL_law_918 (by decide) (fun _ => k _ _ _ _ hi) (fun h => absurd rfl h)
theorem lw_c23 {E : zv_E} {sh : zv_S} {I : zv_I} {J : zv_J} {R : zv_R} {q kc ks : Nat} {Q : zv_Q} (hL : E.2.2.2.2.1 ≤ 2560) (hq : 5 * q + 5 ≤ E.2.2.2.2.1) (HI : lw_I sh I J R) (k : ∀ sh' I' J' R', lw_I sh' I' J' R' → zv_V E mL_law 41 kc ks 936 [.ref 0, .ref 40, .ref 3, .int (nI (5 * q))] [] sh' I' J' R' Q) : zv_V E mL_law 41 (611 + kc) (3674 + ks) 923 [.ref 0, .ref 40, .ref 3, .int (nI (5 * q))] [] sh I J R Q := by
  refine zv_aload_n dL_law_923 rfl rfl ?_
  refine lw_call7 (M8 := mX8_status) (As := []) dL_law_924 cvL_110 rfl rfl (by decide) cc_c0 (fun a nm nc nl h1 h2 h3 => lw_status h1 h2 h3) HI (fun ans s1 I1 J1 R1 hm => ?_)
  show zv_V _ _ _ _ _ 927 [.ref 0, .ref 40, .ref 3, .int (nI (5 * q))] [.int ans] _ _ _ _ _
  refine zv_aload_n dL_law_927 rfl rfl ?_
  refine lw_call8 (As := []) dL_law_928 cvL_113 rfl rfl (by decide) cc_c0 hm (fun I2 hi => ?_)
  exact zv_icmp_eq (tgt := 936) dL_law_931 (by decide) (fun _ => k _ _ _ _ hi) (fun h => absurd rfl h)
