def rm_mk (b : zv_I) (w : Nat) : Nat → Int32
  | 0 => nI 0
  | e + 1 => rm_mk b w e ||| (if rm_in b w e = true then (nI 1) <<< ((nI e) &&& 31) else nI 0)
def rm_ck (b : zv_I) (w n : Nat) : Int32 := if (rm_in b w (n / 8) && rm_in b (n % 8) (n / 8)) = true then b 21 (48 * w + n) else nI 0
def rm_mc (b : zv_I) (l w e n : Nat) : zv_I := fun t j => if t = 18 ∧ j = l then rm_mk b w e else if t = 19 ∧ 48 * l ≤ j ∧ j < 48 * l + n then rm_ck b w (j - 48 * l) else b t j
theorem rm_mc_o {b : zv_I} {l w e n t : Nat} (h : t ≠ 18) (h2 : t ≠ 19) : rm_mc b l w e n t = b t := funext fun j => by unfold rm_mc; rw [if_neg (fun q => h q.1), if_neg (fun q => h2 q.1)]
theorem rm_mc_0 {b : zv_I} {l w : Nat} (h : b 18 l = nI 0) : rm_mc b l w 0 0 = b := by
  funext t j
  unfold rm_mc
  by_cases h1 : t = 18 ∧ j = l
  · rw [if_pos h1, h1.1, h1.2, h]; rfl
  · rw [if_neg h1, if_neg (fun q => by omega)]
theorem rm_mc_r (b : zv_I) (l w e n : Nat) : rm_mc b l w e n 18 l = rm_mk b w e := if_pos ⟨rfl, rfl⟩
theorem rm_mc_e (b : zv_I) (l w e n : Nat) : zv_u (rm_mc b l w e n) 18 l (rm_mk b w (e + 1)) = rm_mc b l w (e + 1) n := by
  funext t j
  unfold zv_u rm_mc
  by_cases h1 : t = 18 ∧ j = l
  · rw [if_pos h1, if_pos h1]
  · rw [if_neg h1, if_neg h1, if_neg h1]
theorem rm_mc_n (b : zv_I) (l w e n : Nat) : zv_u (rm_mc b l w e n) 19 (48 * l + n) (rm_ck b w n) = rm_mc b l w e (n + 1) := by
  funext t j
  unfold zv_u rm_mc
  by_cases h1 : t = 19 ∧ j = 48 * l + n
  · obtain ⟨rfl, rfl⟩ := h1
    rw [if_pos ⟨rfl, rfl⟩, if_neg (fun q => by omega), if_pos ⟨rfl, by omega, by omega⟩]
    congr 1
    omega
  · rw [if_neg h1]
    by_cases h2 : t = 18 ∧ j = l
    · rw [if_pos h2, if_pos h2]
    · rw [if_neg h2, if_neg h2]
      by_cases h3 : t = 19 ∧ 48 * l ≤ j ∧ j < 48 * l + n
      · rw [if_pos h3, if_pos ⟨h3.1, h3.2.1, by omega⟩]
      · rw [if_neg h3, if_neg (fun q => by omega)]
theorem rm_ck_t {b : zv_I} {w e m : Nat} (hm : m < 8) (h1 : rm_in b w e = true) (h2 : rm_in b m e = true) : rm_ck b w (8 * e + m) = b 21 (48 * w + 8 * e + m) := by
  unfold rm_ck
  have e1 : (8 * e + m) / 8 = e := by omega
  have e2 : (8 * e + m) % 8 = m := by omega
  rw [e1, e2, h1, h2, Nat.add_assoc]
  rfl
theorem rm_ck_f {b : zv_I} {w e m : Nat} (hm : m < 8) (h : rm_in b w e = false ∨ rm_in b m e = false) : rm_ck b w (8 * e + m) = nI 0 := by
  unfold rm_ck
  have e1 : (8 * e + m) / 8 = e := by omega
  have e2 : (8 * e + m) % 8 = m := by omega
  rw [e1, e2]
  refine if_neg (fun q => ?_)
  rw [Bool.and_eq_true] at q
  rcases h with h | h
  · rw [h] at q; cases q.1
  · rw [h] at q; cases q.2
theorem cM_made_i (d : Nat) {b : zv_I} {kk x : Int32} {w c l e : Nat} {Q : Option Value → zv_I → Prop} (hw : w < 8) (hl : l < 200) (he : e < 6) (hk : rm_V mX8_made (d + 1) 223 [.ref 3, .int kk, .int (nI w), .int (nI c), .int x, .int (nI l), .int (nI e), .int (rm_b (rm_in b w e)), .int (nI 8)] [] (rm_mc b l w (e + 1) (8 * e + 8)) Q) : ∀ n m, m + n = 8 → rm_V mX8_made (d + 1) 153 [.ref 3, .int kk, .int (nI w), .int (nI c), .int x, .int (nI l), .int (nI e), .int (rm_b (rm_in b w e)), .int (nI m)] [] (rm_mc b l w (e + 1) (8 * e + m)) Q := by
  intro n
  induction n with
  | zero =>
    intro m hm
    have hm2 : m = 8 := by omega
    subst hm2
    refine rm_iload dX8_made_153 rfl ?_
    refine rm_bipush (v := nI (8)) dX8_made_155 (by decide) ?_
    refine rm_icN_ge (tgt := 223) dX8_made_157 (by decide) (by omega) (by omega) (fun h157 => ?_) (fun h157 => (absurd h157 (by omega)))
    exact hk
  | succ n ih =>
    intro m hm
    refine rm_iload dX8_made_153 rfl ?_
    refine rm_bipush (v := nI (8)) dX8_made_155 (by decide) ?_
    refine rm_icN_ge (tgt := 223) dX8_made_157 (by decide) (by omega) (by omega) (fun h157 => (absurd h157 (by omega))) (fun h157 => ?_)
    refine rm_aload_n dX8_made_160 rfl rfl ?_
    refine rm_getr 15 (t := 19) dX8_made_161 flX8_43 (by decide) rfl rfl ?_
    refine rm_bipush (v := nI (48)) dX8_made_164 (by decide) ?_
    refine rm_iload dX8_made_166 rfl ?_
    refine rm_imul dX8_made_168 ?_
    refine rm_top (pk_mul (48) (l)) ?_
    refine rm_bipush (v := nI (8)) dX8_made_169 (by decide) ?_
    refine rm_iload dX8_made_171 rfl ?_
    refine rm_imul dX8_made_173 ?_
    refine rm_top (pk_mul (8) (e)) ?_
    refine rm_iadd dX8_made_174 ?_
    refine rm_top (nI_add (48 * l) (8 * e)) ?_
    refine rm_iload dX8_made_175 rfl ?_
    refine rm_iadd dX8_made_177 ?_
    refine rm_top (nI_add (48 * l + (8 * e)) (m)) ?_
    refine rm_iload dX8_made_178 rfl ?_
    refine rm_ifB_eq (tgt := 215) dX8_made_180 (by decide) (fun h180 => ?_) (fun h180 => ?_)
    · refine rm_iconst (v := nI (0)) dX8_made_215 (by decide) ?_
      refine rm_iast (f := 15) (j := 48 * l + (8 * e) + m) dX8_made_216 rfl (by decide) rfl rfl (rfl) (show 48 * l + (8 * e) + m < 9600 from by omega) ?_
      refine rm_iinc (v := nI (m + 1)) (lv' := [.ref 3, .int (kk), .int (nI (w)), .int (nI (c)), .int (x), .int (nI (l)), .int (nI (e)), .int (rm_b (rm_in b w e)), .int (nI (m + 1))]) dX8_made_217 rfl (by rw [← nI_1]; rfl) (by decide) rfl ?_
      refine rm_goto (tgt := 153) dX8_made_220 (by decide) ?_
      rw [← rm_ck_f (by omega) (Or.inl h180), Nat.add_assoc (48 * l), rm_mc_n]
      exact ih (m + 1) (by omega)
    · refine rm_aload_n dX8_made_183 rfl rfl ?_
      refine rm_iload dX8_made_184 rfl ?_
      refine rm_iload dX8_made_186 rfl ?_
      refine rm_callV (As := [.int (nI (m)), .int (nI (e))]) (st := [.int (nI (48 * l + (8 * e) + m)), .ref 19]) dX8_made_188 cvX8_92 rfl rfl (by decide) (zv_cat_i [nI (m), nI (e)]) (Nat.le_of_ble_eq_true rfl) (cM_isIn d (rm_mc b l w (e + 1) (8 * e + m)) (m := m) (c := e) he) (fun v b q => ?_)
      obtain ⟨rfl, rfl⟩ := q
      rw [rm_in_o (a := rm_mc b l w (e + 1) (8 * e + m)) (b := b) (rm_mc_o (by decide) (by decide)) m e]
      show rm_V _ _ 191 [.ref 3, .int (kk), .int (nI (w)), .int (nI (c)), .int (x), .int (nI (l)), .int (nI (e)), .int (rm_b (rm_in b w e)), .int (nI (m))] [.int (rm_b (rm_in b m e)), .int (nI (48 * l + (8 * e) + m)), .ref 19] _ _
      refine rm_ifB_eq (tgt := 215) dX8_made_191 (by decide) (fun h191 => ?_) (fun h191 => ?_)
      · refine rm_iconst (v := nI (0)) dX8_made_215 (by decide) ?_
        refine rm_iast (f := 15) (j := 48 * l + (8 * e) + m) dX8_made_216 rfl (by decide) rfl rfl (rfl) (show 48 * l + (8 * e) + m < 9600 from by omega) ?_
        refine rm_iinc (v := nI (m + 1)) (lv' := [.ref 3, .int (kk), .int (nI (w)), .int (nI (c)), .int (x), .int (nI (l)), .int (nI (e)), .int (rm_b (rm_in b w e)), .int (nI (m + 1))]) dX8_made_217 rfl (by rw [← nI_1]; rfl) (by decide) rfl ?_
        refine rm_goto (tgt := 153) dX8_made_220 (by decide) ?_
        rw [← rm_ck_f (by omega) (Or.inr h191), Nat.add_assoc (48 * l), rm_mc_n]
        exact ih (m + 1) (by omega)
      · refine rm_aload_n dX8_made_194 rfl rfl ?_
        refine rm_getr 17 (t := 21) dX8_made_195 flX8_49 (by decide) rfl rfl ?_
        refine rm_bipush (v := nI (48)) dX8_made_198 (by decide) ?_
        refine rm_iload_n dX8_made_200 rfl rfl ?_
        refine rm_imul dX8_made_201 ?_
        refine rm_top (pk_mul (48) (w)) ?_
        refine rm_bipush (v := nI (8)) dX8_made_202 (by decide) ?_
        refine rm_iload dX8_made_204 rfl ?_
        refine rm_imul dX8_made_206 ?_
        refine rm_top (pk_mul (8) (e)) ?_
        refine rm_iadd dX8_made_207 ?_
        refine rm_top (nI_add (48 * w) (8 * e)) ?_
        refine rm_iload dX8_made_208 rfl ?_
        refine rm_iadd dX8_made_210 ?_
        refine rm_top (nI_add (48 * w + (8 * e)) (m)) ?_
        refine rm_iald (f := 17) (j := 48 * w + (8 * e) + m) (x := b 21 (48 * w + 8 * e + m)) dX8_made_211 rfl (by decide) rfl rfl (rfl) (show 48 * w + (8 * e) + m < 384 from by omega) (by rw [rm_mc_o (by decide) (by decide)]) ?_
        refine rm_goto (tgt := 216) dX8_made_212 (by decide) ?_
        refine rm_iast (f := 15) (j := 48 * l + (8 * e) + m) dX8_made_216 rfl (by decide) rfl rfl (rfl) (show 48 * l + (8 * e) + m < 9600 from by omega) ?_
        refine rm_iinc (v := nI (m + 1)) (lv' := [.ref 3, .int (kk), .int (nI (w)), .int (nI (c)), .int (x), .int (nI (l)), .int (nI (e)), .int (rm_b (rm_in b w e)), .int (nI (m + 1))]) dX8_made_217 rfl (by rw [← nI_1]; rfl) (by decide) rfl ?_
        refine rm_goto (tgt := 153) dX8_made_220 (by decide) ?_
        rw [← rm_ck_t (by omega) h180 h191, Nat.add_assoc (48 * l), rm_mc_n]
        exact ih (m + 1) (by omega)
theorem cM_made_o (d : Nat) {b : zv_I} {kk x : Int32} {w c l nc : Nat} {Q : Option Value → zv_I → Prop} (hc : b 3 1 = nI nc) (hcb : nc ≤ 6) (hw : w < 8) (hl : l < 200) (hk : rm_V mX8_made (d + 1) 229 [.ref 3, .int kk, .int (nI w), .int (nI c), .int x, .int (nI l)] [] (rm_mc b l w (nc) (8 * nc)) Q) : ∀ n e, e + n = nc → ∀ rest, rm_V mX8_made (d + 1) 109 ([.ref 3, .int kk, .int (nI w), .int (nI c), .int x, .int (nI l), .int (nI e)] ++ rest) [] (rm_mc b l w (e) (8 * e)) Q := by
  intro n
  induction n with
  | zero =>
    intro e he rest
    have he2 : e = nc := by omega
    subst he2
    refine rm_less ⟨rest, rfl⟩ ?_
    refine rm_iload dX8_made_109 rfl ?_
    refine rm_aload_n dX8_made_111 rfl rfl ?_
    refine rm_geti 1 (x := nI (e)) dX8_made_112 flX8_86 rfl (by rw [rm_mc_o (by decide) (by decide)]; exact hc) ?_
    refine rm_icN_ge (tgt := 229) dX8_made_115 (by decide) (by omega) (by omega) (fun h115 => ?_) (fun h115 => (absurd h115 (by omega)))
    exact rm_less ⟨[.int (nI e)], rfl⟩ hk
  | succ n ih =>
    intro e he rest
    refine rm_less ⟨rest, rfl⟩ ?_
    refine rm_iload dX8_made_109 rfl ?_
    refine rm_aload_n dX8_made_111 rfl rfl ?_
    refine rm_geti 1 (x := nI (nc)) dX8_made_112 flX8_86 rfl (by rw [rm_mc_o (by decide) (by decide)]; exact hc) ?_
    refine rm_icN_ge (tgt := 229) dX8_made_115 (by decide) (by omega) (by omega) (fun h115 => (absurd h115 (by omega))) (fun h115 => ?_)
    refine rm_aload_n dX8_made_118 rfl rfl ?_
    refine rm_iload_n dX8_made_119 rfl rfl ?_
    refine rm_iload dX8_made_120 rfl ?_
    refine rm_callV (As := [.int (nI (w)), .int (nI (e))]) (st := []) dX8_made_122 cvX8_92 rfl rfl (by decide) (zv_cat_i [nI (w), nI (e)]) (Nat.le_of_ble_eq_true rfl) (cM_isIn d (rm_mc b l w (e) (8 * e)) (m := w) (c := e) (by omega)) (fun v b q => ?_)
    obtain ⟨rfl, rfl⟩ := q
    rw [rm_in_o (a := rm_mc b l w (e) (8 * e)) (b := b) (rm_mc_o (by decide) (by decide)) w e]
    show rm_V _ _ 125 [.ref 3, .int (kk), .int (nI (w)), .int (nI (c)), .int (x), .int (nI (l)), .int (nI (e))] [.int (rm_b (rm_in b w e))] _ _
    refine rm_istore (lv' := [.ref 3, .int (kk), .int (nI (w)), .int (nI (c)), .int (x), .int (nI (l)), .int (nI (e)), .int (rm_b (rm_in b w e))]) dX8_made_125 (by decide) rfl ?_
    refine rm_aload_n dX8_made_127 rfl rfl ?_
    refine rm_getr 14 (t := 18) dX8_made_128 flX8_40 (by decide) rfl rfl ?_
    refine rm_iload dX8_made_131 rfl ?_
    refine rm_dup2 dX8_made_133 rfl rfl ?_
    refine rm_iald (f := 14) (j := l) (x := (rm_mk b w e)) dX8_made_134 rfl (by decide) rfl rfl (rfl) (show l < 200 from by omega) (rm_mc_r b l w e (8 * e)) ?_
    refine rm_iload dX8_made_135 rfl ?_
    refine rm_ifB_eq (tgt := 147) dX8_made_137 (by decide) (fun h137 => ?_) (fun h137 => ?_)
    · refine rm_iconst (v := nI (0)) dX8_made_147 (by decide) ?_
      refine rm_ior dX8_made_148 ?_
      refine rm_iast (f := 14) (j := l) dX8_made_149 rfl (by decide) rfl rfl (rfl) (show l < 200 from by omega) ?_
      refine rm_iconst (v := nI (0)) dX8_made_150 (by decide) ?_
      refine rm_istore (lv' := [.ref 3, .int (kk), .int (nI (w)), .int (nI (c)), .int (x), .int (nI (l)), .int (nI (e)), .int (rm_b (rm_in b w e)), .int (nI (0))]) dX8_made_151 (by decide) rfl ?_
      rw [show rm_mk b w e ||| nI 0 = rm_mk b w (e + 1) from by show _ = rm_mk b w e ||| (if rm_in b w e = true then _ else nI 0); rw [h137]; rfl, rm_mc_e]
      refine cM_made_i d hw hl (by omega) ?_ 8 0 (by omega)
      refine rm_iinc (v := nI (e + 1)) (lv' := [.ref 3, .int kk, .int (nI w), .int (nI c), .int x, .int (nI l), .int (nI (e + 1)), .int (rm_b (rm_in b w e)), .int (nI 8)]) dX8_made_223 rfl (by rw [← nI_1]; rfl) (by decide) rfl ?_
      refine rm_goto (tgt := 109) dX8_made_226 (by decide) ?_
      exact ih (e + 1) (by omega) [.int (rm_b (rm_in b w e)), .int (nI 8)]
    · refine rm_iconst (v := nI (1)) dX8_made_140 (by decide) ?_
      refine rm_iload dX8_made_141 rfl ?_
      refine rm_ishl dX8_made_143 ?_
      refine rm_goto (tgt := 148) dX8_made_144 (by decide) ?_
      refine rm_ior dX8_made_148 ?_
      refine rm_iast (f := 14) (j := l) dX8_made_149 rfl (by decide) rfl rfl (rfl) (show l < 200 from by omega) ?_
      refine rm_iconst (v := nI (0)) dX8_made_150 (by decide) ?_
      refine rm_istore (lv' := [.ref 3, .int (kk), .int (nI (w)), .int (nI (c)), .int (x), .int (nI (l)), .int (nI (e)), .int (rm_b (rm_in b w e)), .int (nI (0))]) dX8_made_151 (by decide) rfl ?_
      rw [show rm_mk b w e ||| ((nI 1) <<< ((nI e) &&& 31)) = rm_mk b w (e + 1) from by show _ = rm_mk b w e ||| (if rm_in b w e = true then (nI 1) <<< ((nI e) &&& 31) else nI 0); rw [h137]; rfl, rm_mc_e]
      refine cM_made_i d hw hl (by omega) ?_ 8 0 (by omega)
      refine rm_iinc (v := nI (e + 1)) (lv' := [.ref 3, .int kk, .int (nI w), .int (nI c), .int x, .int (nI l), .int (nI (e + 1)), .int (rm_b (rm_in b w e)), .int (nI 8)]) dX8_made_223 rfl (by rw [← nI_1]; rfl) (by decide) rfl ?_
      refine rm_goto (tgt := 109) dX8_made_226 (by decide) ?_
      exact ih (e + 1) (by omega) [.int (rm_b (rm_in b w e)), .int (nI 8)]
def rm_kn (b : zv_I) (w x : Nat) : Bool := decide (b 12 x = nI w ∨ b 20 (200 * w + x) = nI 3)
def rm_ib (b : zv_I) (x y : Nat) : Bool := decide (¬ b 26 (200 * x + y) = 0)
def rm_bq (b : zv_I) (w : Nat) : Nat → Nat → Bool
  | 0, _ => false
  | X + 1, y => rm_bq b w X y || (rm_kn b w X && (decide (y = X) || (decide (y < X) && rm_ib b X y)))
def rm_bs (b : zv_I) (l : Nat) (f : Nat → Bool) : zv_I := fun t j => if t = 26 ∧ 200 * l ≤ j ∧ j < 200 * l + l then rm_b (f (j - 200 * l)) else b t j
theorem rm_bs_o {b : zv_I} {l t : Nat} {f : Nat → Bool} (h : t ≠ 26) : rm_bs b l f t = b t := funext fun j => if_neg fun q => h q.1
theorem rm_bs_0 {b : zv_I} {l : Nat} (h : ∀ y, y < l → b 26 (200 * l + y) = 0) : rm_bs b l (fun _ => false) = b := by
  funext t j
  unfold rm_bs
  by_cases h1 : t = 26 ∧ 200 * l ≤ j ∧ j < 200 * l + l
  · rw [if_pos h1, h1.1]
    have h2 := h (j - 200 * l) (by omega)
    rw [show 200 * l + (j - 200 * l) = j by omega] at h2
    rw [h2]; rfl
  · rw [if_neg h1]
theorem rm_bs_u {b : zv_I} {l y : Nat} {f : Nat → Bool} (hy : y < l) (v : Bool) : zv_u (rm_bs b l f) 26 (200 * l + y) (rm_b v) = rm_bs b l (fun z => if z = y then v else f z) := by
  funext t j
  unfold zv_u rm_bs
  by_cases h1 : t = 26 ∧ j = 200 * l + y
  · obtain ⟨rfl, rfl⟩ := h1
    rw [if_pos ⟨rfl, rfl⟩, if_pos ⟨rfl, by omega, by omega⟩]
    show rm_b v = rm_b (if 200 * l + y - 200 * l = y then v else f (200 * l + y - 200 * l))
    rw [if_pos (by omega)]
  · rw [if_neg h1]
    by_cases h2 : t = 26 ∧ 200 * l ≤ j ∧ j < 200 * l + l
    · rw [if_pos h2, if_pos h2]
      show _ = rm_b (if j - 200 * l = y then v else f (j - 200 * l))
      rw [if_neg (fun q => h1 ⟨h2.1, by omega⟩)]
    · rw [if_neg h2, if_neg h2]
theorem rm_bs_r {b : zv_I} {l y : Nat} {f : Nat → Bool} (hy : y < l) : rm_bs b l f 26 (200 * l + y) = rm_b (f y) := by
  unfold rm_bs
  rw [if_pos ⟨rfl, by omega, by omega⟩]
  congr 2
  omega
theorem rm_bs_x {b : zv_I} {l x y : Nat} {f : Nat → Bool} (hx : x < l) (hy : y < 200) : rm_bs b l f 26 (200 * x + y) = b 26 (200 * x + y) := if_neg (fun q => by omega)
def rm_b2 (b : zv_I) (w X Y z : Nat) : Bool := if z = X then true else (rm_bq b w X z || (decide (z < Y) && rm_ib b X z))
theorem rm_b2_0 (b : zv_I) (w X : Nat) : (fun z => if z = X then true else rm_bq b w X z) = rm_b2 b w X 0 := by
  funext z
  unfold rm_b2
  by_cases h : z = X
  · rw [if_pos h, if_pos h]
  · rw [if_neg h, if_neg h, show decide (z < 0) = false from rfl]
    simp
theorem rm_b2_s {b : zv_I} {w X y : Nat} {v : Bool} (hy : y < X) (hv : v = (rm_b2 b w X y y || rm_ib b X y)) : (fun z => if z = y then v else rm_b2 b w X y z) = rm_b2 b w X (y + 1) := by
  funext z
  by_cases h : z = y
  · subst h
    rw [if_pos rfl, hv]
    unfold rm_b2
    rw [if_neg (by omega), if_neg (by omega), decide_eq_false (Nat.lt_irrefl z), decide_eq_true (Nat.lt_succ_self z)]
    simp
  · rw [if_neg h]
    unfold rm_b2
    by_cases h2 : z = X
    · rw [if_pos h2, if_pos h2]
    · rw [if_neg h2, if_neg h2]
      congr 2
      exact decide_eq_decide.mpr ⟨fun q => by omega, fun q => by omega⟩
theorem rm_b2_X {b : zv_I} {w X : Nat} (h : rm_kn b w X = true) : rm_b2 b w X X = rm_bq b w (X + 1) := by
  funext z
  show (if z = X then true else (rm_bq b w X z || (decide (z < X) && rm_ib b X z))) = (rm_bq b w X z || (rm_kn b w X && (decide (z = X) || (decide (z < X) && rm_ib b X z))))
  rw [h]
  by_cases h2 : z = X
  · rw [if_pos h2, decide_eq_true h2]; simp
  · rw [if_neg h2, decide_eq_false h2]; simp
theorem rm_bq_n {b : zv_I} {w X : Nat} (h : rm_kn b w X = false) : rm_bq b w X = rm_bq b w (X + 1) := by
  funext z
  show _ = (rm_bq b w X z || (rm_kn b w X && (decide (z = X) || (decide (z < X) && rm_ib b X z))))
  rw [h]; simp
theorem cM_made_y (d : Nat) {b : zv_I} {kk x : Int32} {w c l X : Nat} {Q : Option Value → zv_I → Prop} (hl : l < 200) (hX : X < l) (hk : rm_V mX8_made d 351 [.ref 3, .int kk, .int (nI w), .int (nI c), .int x, .int (nI l), .int (nI X), .int (nI X)] [] (rm_bs b l (rm_b2 b w X X)) Q) : ∀ n y, y + n = X → rm_V mX8_made d 285 [.ref 3, .int kk, .int (nI w), .int (nI c), .int x, .int (nI l), .int (nI X), .int (nI y)] [] (rm_bs b l (rm_b2 b w X y)) Q := by
  intro n
  induction n with
  | zero =>
    intro y hy
    have hy2 : y = X := by omega
    subst hy2
    refine rm_iload dX8_made_285 rfl ?_
    refine rm_iload dX8_made_287 rfl ?_
    refine rm_icN_ge (tgt := 351) dX8_made_289 (by decide) (by omega) (by omega) (fun h289 => ?_) (fun h289 => (absurd h289 (by omega)))
    exact hk
  | succ n ih =>
    intro y hy
    refine rm_iload dX8_made_285 rfl ?_
    refine rm_iload dX8_made_287 rfl ?_
    refine rm_icN_ge (tgt := 351) dX8_made_289 (by decide) (by omega) (by omega) (fun h289 => (absurd h289 (by omega))) (fun h289 => ?_)
    refine rm_aload_n dX8_made_292 rfl rfl ?_
    refine rm_getr 22 (t := 26) dX8_made_293 flX8_65 (by decide) rfl rfl ?_
    refine rm_sipush (v := nI (200)) dX8_made_296 (by decide) ?_
    refine rm_iload dX8_made_299 rfl ?_
    refine rm_imul dX8_made_301 ?_
    refine rm_top (pk_mul (200) (l)) ?_
    refine rm_iload dX8_made_302 rfl ?_
    refine rm_iadd dX8_made_304 ?_
    refine rm_top (nI_add (200 * l) (y)) ?_
    refine rm_aload_n dX8_made_305 rfl rfl ?_
    refine rm_getr 22 (t := 26) dX8_made_306 flX8_65 (by decide) rfl rfl ?_
    refine rm_sipush (v := nI (200)) dX8_made_309 (by decide) ?_
    refine rm_iload dX8_made_312 rfl ?_
    refine rm_imul dX8_made_314 ?_
    refine rm_top (pk_mul (200) (l)) ?_
    refine rm_iload dX8_made_315 rfl ?_
    refine rm_iadd dX8_made_317 ?_
    refine rm_top (nI_add (200 * l) (y)) ?_
    refine rm_zald (j := 200 * l + y) (x := rm_b (rm_b2 b w X y y)) dX8_made_318 (rfl) (by omega) (rm_bs_r (by omega)) ?_
    refine rm_ifB_ne (tgt := 339) dX8_made_319 (by decide) (fun h319 => ?_) (fun h319 => ?_)
    · refine rm_iconst (v := nI (1)) dX8_made_339 (by decide) ?_
      refine rm_goto (tgt := 344) dX8_made_340 (by decide) ?_
      refine rm_zast (j := 200 * l + y) dX8_made_344 (rfl) (by omega) (rfl) ?_
      refine rm_iinc (v := nI (y + 1)) (lv' := [.ref 3, .int (kk), .int (nI (w)), .int (nI (c)), .int (x), .int (nI (l)), .int (nI (X)), .int (nI (y + 1))]) dX8_made_345 rfl (by rw [← nI_1]; rfl) (by decide) rfl ?_
      refine rm_goto (tgt := 285) dX8_made_348 (by decide) ?_
      have e1 := rm_bs_u (b := b) (l := l) (y := y) (f := rm_b2 b w X y) (by omega) true
      rw [rm_b2_s (v := true) (by omega) (by rw [h319]; rfl)] at e1
      have h9 := ih (y + 1) (by omega)
      rw [← e1] at h9
      exact h9
    · refine rm_aload_n dX8_made_322 rfl rfl ?_
      refine rm_getr 22 (t := 26) dX8_made_323 flX8_65 (by decide) rfl rfl ?_
      refine rm_sipush (v := nI (200)) dX8_made_326 (by decide) ?_
      refine rm_iload dX8_made_329 rfl ?_
      refine rm_imul dX8_made_331 ?_
      refine rm_top (pk_mul (200) (X)) ?_
      refine rm_iload dX8_made_332 rfl ?_
      refine rm_iadd dX8_made_334 ?_
      refine rm_top (nI_add (200 * X) (y)) ?_
      refine rm_zald (j := 200 * X + y) (x := b 26 (200 * X + y)) dX8_made_335 (rfl) (by omega) (rm_bs_x hX (by omega)) ?_
      refine rm_if_eq (tgt := 343) dX8_made_336 (by decide) (fun h336 => ?_) (fun h336 => ?_)
      · refine rm_iconst (v := nI (0)) dX8_made_343 (by decide) ?_
        refine rm_zast (j := 200 * l + y) dX8_made_344 (rfl) (by omega) (rfl) ?_
        refine rm_iinc (v := nI (y + 1)) (lv' := [.ref 3, .int (kk), .int (nI (w)), .int (nI (c)), .int (x), .int (nI (l)), .int (nI (X)), .int (nI (y + 1))]) dX8_made_345 rfl (by rw [← nI_1]; rfl) (by decide) rfl ?_
        refine rm_goto (tgt := 285) dX8_made_348 (by decide) ?_
        have e1 := rm_bs_u (b := b) (l := l) (y := y) (f := rm_b2 b w X y) (by omega) false
        rw [rm_b2_s (v := false) (by omega) (by unfold rm_ib; rw [h319, decide_eq_false (fun q => q h336)]; rfl)] at e1
        have h9 := ih (y + 1) (by omega)
        rw [← e1] at h9
        exact h9
      · refine rm_iconst (v := nI (1)) dX8_made_339 (by decide) ?_
        refine rm_goto (tgt := 344) dX8_made_340 (by decide) ?_
        refine rm_zast (j := 200 * l + y) dX8_made_344 (rfl) (by omega) (rfl) ?_
        refine rm_iinc (v := nI (y + 1)) (lv' := [.ref 3, .int (kk), .int (nI (w)), .int (nI (c)), .int (x), .int (nI (l)), .int (nI (X)), .int (nI (y + 1))]) dX8_made_345 rfl (by rw [← nI_1]; rfl) (by decide) rfl ?_
        refine rm_goto (tgt := 285) dX8_made_348 (by decide) ?_
        have e1 := rm_bs_u (b := b) (l := l) (y := y) (f := rm_b2 b w X y) (by omega) true
        rw [rm_b2_s (v := true) (by omega) (by unfold rm_ib; rw [h319, decide_eq_true h336]; rfl)] at e1
        have h9 := ih (y + 1) (by omega)
        rw [← e1] at h9
        exact h9
theorem cM_made_x (d : Nat) {b : zv_I} {kk x : Int32} {w c l : Nat} {Q : Option Value → zv_I → Prop} (hw : w < 8) (hl : l < 200) (hQ : Q (some (.int (nI l))) (rm_bs b l (rm_bq b w l))) : ∀ n X, X + n = l → ∀ rest, rm_V mX8_made d 232 ([.ref 3, .int kk, .int (nI w), .int (nI c), .int x, .int (nI l), .int (nI X)] ++ rest) [] (rm_bs b l (rm_bq b w X)) Q := by
  intro n
  induction n with
  | zero =>
    intro X hX rest
    have hX2 : X = l := by omega
    subst hX2
    refine rm_less ⟨rest, rfl⟩ ?_
    refine rm_iload dX8_made_232 rfl ?_
    refine rm_iload dX8_made_234 rfl ?_
    refine rm_icN_ge (tgt := 357) dX8_made_236 (by decide) (by omega) (by omega) (fun h236 => ?_) (fun h236 => (absurd h236 (by omega)))
    refine rm_iload dX8_made_357 rfl ?_
    refine rm_iret dX8_made_359 rfl rfl ?_
    exact hQ
  | succ n ih =>
    intro X hX rest
    refine rm_less ⟨rest, rfl⟩ ?_
    refine rm_iload dX8_made_232 rfl ?_
    refine rm_iload dX8_made_234 rfl ?_
    refine rm_icN_ge (tgt := 357) dX8_made_236 (by decide) (by omega) (by omega) (fun h236 => (absurd h236 (by omega))) (fun h236 => ?_)
    refine rm_aload_n dX8_made_239 rfl rfl ?_
    refine rm_getr 8 (t := 12) dX8_made_240 flX8_22 (by decide) rfl rfl ?_
    refine rm_iload dX8_made_243 rfl ?_
    refine rm_iald (f := 8) (j := X) (x := b 12 X) dX8_made_245 rfl (by decide) rfl rfl (rfl) (show X < 200 from by omega) (by rw [rm_bs_o (by decide)]) ?_
    refine rm_iload_n dX8_made_246 rfl rfl ?_
    refine rm_icmp_eq (tgt := 267) dX8_made_247 (by decide) (fun h247 => ?_) (fun h247 => ?_)
    · refine rm_aload_n dX8_made_267 rfl rfl ?_
      refine rm_getr 22 (t := 26) dX8_made_268 flX8_65 (by decide) rfl rfl ?_
      refine rm_sipush (v := nI (200)) dX8_made_271 (by decide) ?_
      refine rm_iload dX8_made_274 rfl ?_
      refine rm_imul dX8_made_276 ?_
      refine rm_top (pk_mul (200) (l)) ?_
      refine rm_iload dX8_made_277 rfl ?_
      refine rm_iadd dX8_made_279 ?_
      refine rm_top (nI_add (200 * l) (X)) ?_
      refine rm_iconst (v := nI (1)) dX8_made_280 (by decide) ?_
      refine rm_zast (j := 200 * l + X) dX8_made_281 (rfl) (by omega) (rfl) ?_
      refine rm_iconst (v := nI (0)) dX8_made_282 (by decide) ?_
      refine rm_istore (lv' := [.ref 3, .int (kk), .int (nI (w)), .int (nI (c)), .int (x), .int (nI (l)), .int (nI (X)), .int (nI (0))]) dX8_made_283 (by decide) rfl ?_
      have e1 := rm_bs_u (b := b) (l := l) (y := X) (f := rm_bq b w X) (by omega) true
      rw [rm_b2_0] at e1
      have h9 := cM_made_y d (b := b) (kk := kk) (x := x) (w := w) (c := c) (l := l) (X := X) (Q := Q) hl (by omega) ?_ X 0 (by omega)
      · rw [← e1] at h9
        exact h9
      · rw [rm_b2_X (decide_eq_true (Or.inl h247))]
        refine rm_iinc (v := nI (X + 1)) (lv' := [.ref 3, .int kk, .int (nI w), .int (nI c), .int x, .int (nI l), .int (nI (X + 1)), .int (nI X)]) dX8_made_351 rfl (by rw [← nI_1]; rfl) (by decide) rfl ?_
        refine rm_goto (tgt := 232) dX8_made_354 (by decide) ?_
        exact ih (X + 1) (by omega) [.int (nI X)]
    · refine rm_aload_n dX8_made_250 rfl rfl ?_
      refine rm_getr 16 (t := 20) dX8_made_251 flX8_46 (by decide) rfl rfl ?_
      refine rm_sipush (v := nI (200)) dX8_made_254 (by decide) ?_
      refine rm_iload_n dX8_made_257 rfl rfl ?_
      refine rm_imul dX8_made_258 ?_
      refine rm_top (pk_mul (200) (w)) ?_
      refine rm_iload dX8_made_259 rfl ?_
      refine rm_iadd dX8_made_261 ?_
      refine rm_top (nI_add (200 * w) (X)) ?_
      refine rm_iald (f := 16) (j := 200 * w + X) (x := b 20 (200 * w + X)) dX8_made_262 rfl (by decide) rfl rfl (rfl) (show 200 * w + X < 1600 from by omega) (by rw [rm_bs_o (by decide)]) ?_
      refine rm_iconst (v := nI (3)) dX8_made_263 (by decide) ?_
      refine rm_icmp_ne (tgt := 351) dX8_made_264 (by decide) (fun h264 => ?_) (fun h264 => ?_)
      · refine rm_iinc (v := nI (X + 1)) (lv' := [.ref 3, .int (kk), .int (nI (w)), .int (nI (c)), .int (x), .int (nI (l)), .int (nI (X + 1))]) dX8_made_351 rfl (by rw [← nI_1]; rfl) (by decide) rfl ?_
        refine rm_goto (tgt := 232) dX8_made_354 (by decide) ?_
        rw [rm_bq_n (b := b) (w := w) (X := X) (decide_eq_false (fun q => q.elim h247 h264))]
        exact ih (X + 1) (by omega) []
      · refine rm_aload_n dX8_made_267 rfl rfl ?_
        refine rm_getr 22 (t := 26) dX8_made_268 flX8_65 (by decide) rfl rfl ?_
        refine rm_sipush (v := nI (200)) dX8_made_271 (by decide) ?_
        refine rm_iload dX8_made_274 rfl ?_
        refine rm_imul dX8_made_276 ?_
        refine rm_top (pk_mul (200) (l)) ?_
        refine rm_iload dX8_made_277 rfl ?_
        refine rm_iadd dX8_made_279 ?_
        refine rm_top (nI_add (200 * l) (X)) ?_
        refine rm_iconst (v := nI (1)) dX8_made_280 (by decide) ?_
        refine rm_zast (j := 200 * l + X) dX8_made_281 (rfl) (by omega) (rfl) ?_
        refine rm_iconst (v := nI (0)) dX8_made_282 (by decide) ?_
        refine rm_istore (lv' := [.ref 3, .int (kk), .int (nI (w)), .int (nI (c)), .int (x), .int (nI (l)), .int (nI (X)), .int (nI (0))]) dX8_made_283 (by decide) rfl ?_
        have e1 := rm_bs_u (b := b) (l := l) (y := X) (f := rm_bq b w X) (by omega) true
        rw [rm_b2_0] at e1
        have h9 := cM_made_y d (b := b) (kk := kk) (x := x) (w := w) (c := c) (l := l) (X := X) (Q := Q) hl (by omega) ?_ X 0 (by omega)
        · rw [← e1] at h9
          exact h9
        · rw [rm_b2_X (decide_eq_true (Or.inr h264))]
          refine rm_iinc (v := nI (X + 1)) (lv' := [.ref 3, .int kk, .int (nI w), .int (nI c), .int x, .int (nI l), .int (nI (X + 1)), .int (nI X)]) dX8_made_351 rfl (by rw [← nI_1]; rfl) (by decide) rfl ?_
          refine rm_goto (tgt := 232) dX8_made_354 (by decide) ?_
          exact ih (X + 1) (by omega) [.int (nI X)]
def rm_m0 (a : zv_I) (l : Nat) (kk : Int32) (w c : Nat) (x : Int32) : zv_I := zv_u (zv_u (zv_u (zv_u (zv_u (zv_u (zv_u (zv_u (zv_u (zv_u a 3 4 (nI (l + 1))) 10 (l) (kk)) 11 (l) (nI (c))) 12 (l) (nI (w))) 14 (l) (x)) 15 (l) ((-1 : Int32))) 16 (l) ((-1 : Int32))) 22 (6 * w + c) ((a 22 (6 * w + c)) + (nI 1))) 13 (l) ((a 22 (6 * w + c)) + (nI 1))) 18 (l) (nI 0)
def rm_m1 (a : zv_I) (nc l : Nat) (kk : Int32) (w c : Nat) (x : Int32) : zv_I := rm_mc (rm_m0 a l kk w c x) l w nc (8 * nc)
def rm_mad (a : zv_I) (nc l : Nat) (kk : Int32) (w c : Nat) (x : Int32) : zv_I := rm_bs (rm_m1 a nc l kk w c x) l (rm_bq (rm_m1 a nc l kk w c x) w l)
theorem rm_m0_26 (a : zv_I) (l : Nat) (kk : Int32) (w c : Nat) (x : Int32) : rm_m0 a l kk w c x 26 = a 26 := by
  funext j
  rfl
theorem cM_made (d : Nat) {a : zv_I} {nc l w c : Nat} {kk x : Int32} (hn : a 3 4 = nI l) (hl : l < 200) (hc : a 3 1 = nI nc) (hcb : nc ≤ 6) (hw : w < 8) (hcc : c < 6) (h26 : ∀ y, y < l → a 26 (200 * l + y) = 0) : rm_V mX8_made (d + 1) 0 [.ref 3, .int kk, .int (nI w), .int (nI c), .int x] [] a (rm_p (nI l) (rm_mad a nc l kk w c x)) := by
  refine rm_aload_n dX8_made_0 rfl rfl ?_
  refine rm_geti 4 (x := nI (l)) dX8_made_1 flX8_89 rfl (hn) ?_
  refine rm_istore (lv' := [.ref 3, .int (kk), .int (nI (w)), .int (nI (c)), .int (x), .int (nI (l))]) dX8_made_4 (by decide) rfl ?_
  refine rm_aload_n dX8_made_6 rfl rfl ?_
  refine rm_dup dX8_made_7 rfl ?_
  refine rm_geti 4 (x := nI (l)) dX8_made_8 flX8_89 rfl (hn) ?_
  refine rm_iconst (v := nI (1)) dX8_made_11 (by decide) ?_
  refine rm_iadd dX8_made_12 ?_
  refine rm_top (nI_add (l) (1)) ?_
  refine rm_puti 4 dX8_made_13 fwX8_89 rfl ?_
  refine rm_aload_n dX8_made_16 rfl rfl ?_
  refine rm_getr 6 (t := 10) dX8_made_17 flX8_16 (by decide) rfl rfl ?_
  refine rm_iload dX8_made_20 rfl ?_
  refine rm_iload_n dX8_made_22 rfl rfl ?_
  refine rm_iast (f := 6) (j := l) dX8_made_23 rfl (by decide) rfl rfl (rfl) (show l < 200 from by omega) ?_
  refine rm_aload_n dX8_made_24 rfl rfl ?_
  refine rm_getr 7 (t := 11) dX8_made_25 flX8_19 (by decide) rfl rfl ?_
  refine rm_iload dX8_made_28 rfl ?_
  refine rm_iload_n dX8_made_30 rfl rfl ?_
  refine rm_iast (f := 7) (j := l) dX8_made_31 rfl (by decide) rfl rfl (rfl) (show l < 200 from by omega) ?_
  refine rm_aload_n dX8_made_32 rfl rfl ?_
  refine rm_getr 8 (t := 12) dX8_made_33 flX8_22 (by decide) rfl rfl ?_
  refine rm_iload dX8_made_36 rfl ?_
  refine rm_iload_n dX8_made_38 rfl rfl ?_
  refine rm_iast (f := 8) (j := l) dX8_made_39 rfl (by decide) rfl rfl (rfl) (show l < 200 from by omega) ?_
  refine rm_aload_n dX8_made_40 rfl rfl ?_
  refine rm_getr 10 (t := 14) dX8_made_41 flX8_28 (by decide) rfl rfl ?_
  refine rm_iload dX8_made_44 rfl ?_
  refine rm_iload dX8_made_46 rfl ?_
  refine rm_iast (f := 10) (j := l) dX8_made_48 rfl (by decide) rfl rfl (rfl) (show l < 200 from by omega) ?_
  refine rm_aload_n dX8_made_49 rfl rfl ?_
  refine rm_getr 11 (t := 15) dX8_made_50 flX8_31 (by decide) rfl rfl ?_
  refine rm_iload dX8_made_53 rfl ?_
  refine rm_iconst (v := (-1 : Int32)) dX8_made_55 (by decide) ?_
  refine rm_iast (f := 11) (j := l) dX8_made_56 rfl (by decide) rfl rfl (rfl) (show l < 200 from by omega) ?_
  refine rm_aload_n dX8_made_57 rfl rfl ?_
  refine rm_getr 12 (t := 16) dX8_made_58 flX8_34 (by decide) rfl rfl ?_
  refine rm_iload dX8_made_61 rfl ?_
  refine rm_iconst (v := (-1 : Int32)) dX8_made_63 (by decide) ?_
  refine rm_iast (f := 12) (j := l) dX8_made_64 rfl (by decide) rfl rfl (rfl) (show l < 200 from by omega) ?_
  refine rm_aload_n dX8_made_65 rfl rfl ?_
  refine rm_getr 18 (t := 22) dX8_made_66 flX8_52 (by decide) rfl rfl ?_
  refine rm_bipush (v := nI (6)) dX8_made_69 (by decide) ?_
  refine rm_iload_n dX8_made_71 rfl rfl ?_
  refine rm_imul dX8_made_72 ?_
  refine rm_top (pk_mul (6) (w)) ?_
  refine rm_iload_n dX8_made_73 rfl rfl ?_
  refine rm_iadd dX8_made_74 ?_
  refine rm_top (nI_add (6 * w) (c)) ?_
  refine rm_dup2 dX8_made_75 rfl rfl ?_
  refine rm_iald (f := 18) (j := 6 * w + c) (x := (a 22 (6 * w + c))) dX8_made_76 rfl (by decide) rfl rfl (rfl) (show 6 * w + c < 48 from by omega) (rfl) ?_
  refine rm_iconst (v := nI (1)) dX8_made_77 (by decide) ?_
  refine rm_iadd dX8_made_78 ?_
  refine rm_iast (f := 18) (j := 6 * w + c) dX8_made_79 rfl (by decide) rfl rfl (rfl) (show 6 * w + c < 48 from by omega) ?_
  refine rm_aload_n dX8_made_80 rfl rfl ?_
  refine rm_getr 9 (t := 13) dX8_made_81 flX8_25 (by decide) rfl rfl ?_
  refine rm_iload dX8_made_84 rfl ?_
  refine rm_aload_n dX8_made_86 rfl rfl ?_
  refine rm_getr 18 (t := 22) dX8_made_87 flX8_52 (by decide) rfl rfl ?_
  refine rm_bipush (v := nI (6)) dX8_made_90 (by decide) ?_
  refine rm_iload_n dX8_made_92 rfl rfl ?_
  refine rm_imul dX8_made_93 ?_
  refine rm_top (pk_mul (6) (w)) ?_
  refine rm_iload_n dX8_made_94 rfl rfl ?_
  refine rm_iadd dX8_made_95 ?_
  refine rm_top (nI_add (6 * w) (c)) ?_
  refine rm_iald (f := 18) (j := 6 * w + c) (x := ((a 22 (6 * w + c)) + (nI 1))) dX8_made_96 rfl (by decide) rfl rfl (rfl) (show 6 * w + c < 48 from by omega) (zv_u_s _ _ _ _) ?_
  refine rm_iast (f := 9) (j := l) dX8_made_97 rfl (by decide) rfl rfl (rfl) (show l < 200 from by omega) ?_
  refine rm_aload_n dX8_made_98 rfl rfl ?_
  refine rm_getr 14 (t := 18) dX8_made_99 flX8_40 (by decide) rfl rfl ?_
  refine rm_iload dX8_made_102 rfl ?_
  refine rm_iconst (v := nI (0)) dX8_made_104 (by decide) ?_
  refine rm_iast (f := 14) (j := l) dX8_made_105 rfl (by decide) rfl rfl (rfl) (show l < 200 from by omega) ?_
  refine rm_iconst (v := nI (0)) dX8_made_106 (by decide) ?_
  refine rm_istore (lv' := [.ref 3, .int (kk), .int (nI (w)), .int (nI (c)), .int (x), .int (nI (l)), .int (nI (0))]) dX8_made_107 (by decide) rfl ?_
  have hb18 : rm_m0 a l kk w c x 18 l = nI 0 := zv_u_s _ _ _ _
  have h9 := cM_made_o d (b := rm_m0 a l kk w c x) (kk := kk) (x := x) (w := w) (c := c) (l := l) (nc := nc) (Q := rm_p (nI l) (rm_mad a nc l kk w c x)) hc hcb hw hl ?_ nc 0 (by omega) []
  · rw [rm_mc_0 hb18] at h9
    exact h9
  · refine rm_iconst (v := nI 0) dX8_made_229 (by decide) ?_
    refine rm_istore (lv' := [.ref 3, .int kk, .int (nI w), .int (nI c), .int x, .int (nI l), .int (nI 0)]) dX8_made_230 (by decide) rfl ?_
    have h8 := cM_made_x (d + 1) (b := rm_m1 a nc l kk w c x) (kk := kk) (x := x) (w := w) (c := c) (l := l) (Q := rm_p (nI l) (rm_mad a nc l kk w c x)) hw hl ⟨rfl, rfl⟩ l 0 (by omega) []
    rw [show rm_bq (rm_m1 a nc l kk w c x) w 0 = (fun _ => false) from rfl, rm_bs_0 (fun y hy => by unfold rm_m1; rw [rm_mc_o (by decide) (by decide), rm_m0_26]; exact h26 y hy)] at h8
    exact h8
