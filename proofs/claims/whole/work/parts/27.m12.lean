def rm_NT (a : zv_I) : Nat := rm_nv (a 3 26)
def rm_ran (a : zv_I) (b : Nat) : zv_I := zv_u (zv_u a 29 (rm_NT a) (nI b)) 3 26 (nI (rm_NT a + 1))
def rm_tr : zv_I → List Nat → zv_I
  | a, [] => a
  | a, b :: L => rm_tr (rm_ran a b) L
/-- there is room for B bodies more -/
def rm_tk (a : zv_I) (B : Nat) : Prop := a 3 26 = nI (rm_NT a) ∧ rm_NT a + B ≤ 60
theorem rm_tr_app : ∀ (L M : List Nat) (a : zv_I), rm_tr a (L ++ M) = rm_tr (rm_tr a L) M
  | [], _, _ => rfl
  | b :: L, M, a => rm_tr_app L M (rm_ran a b)
theorem rm_ran_26 (a : zv_I) (b : Nat) : rm_ran a b 3 26 = nI (rm_NT a + 1) := zv_u_s _ _ _ _
theorem rm_ran_NT {a : zv_I} {b : Nat} (h : rm_NT a < 1000) : rm_NT (rm_ran a b) = rm_NT a + 1 := by
  show rm_nv (rm_ran a b 3 26) = _
  rw [rm_ran_26, rm_nv_n (by omega)]
theorem rm_ran_k {a : zv_I} {B b : Nat} (h : rm_tk a (B + 1)) : rm_tk (rm_ran a b) B := by
  obtain ⟨h1, h2⟩ := h
  unfold rm_tk
  rw [rm_ran_NT (by omega), rm_ran_26]
  exact ⟨rfl, by omega⟩
theorem rm_tr_k : ∀ (L : List Nat) {a : zv_I} {B : Nat}, rm_tk a (B + L.length) → rm_tk (rm_tr a L) B
  | [], _, _, h => h
  | b :: L, a, B, h => rm_tr_k L (rm_ran_k (B := B + L.length) h)
theorem rm_ran_o {a : zv_I} {b t : Nat} (h : t ≠ 3) (h2 : t ≠ 29) : rm_ran a b t = a t := by
  unfold rm_ran
  rw [zv_u_row _ 3 _ _ h, zv_u_row _ 29 _ _ h2]
theorem rm_tr_o {t : Nat} (h : t ≠ 3) (h2 : t ≠ 29) : ∀ {L : List Nat} {a : zv_I}, rm_tr a L t = a t
  | [], _ => rfl
  | b :: L, a => by rw [show rm_tr a (b :: L) = rm_tr (rm_ran a b) L from rfl, rm_tr_o h h2, rm_ran_o h h2]
theorem rm_ran_3 {a : zv_I} {b j : Nat} (h : j ≠ 26) : rm_ran a b 3 j = a 3 j := by
  unfold rm_ran
  rw [zv_u_j _ _ h, zv_u_row _ 29 _ _ (by decide)]
theorem rm_tr_3 {j : Nat} (h : j ≠ 26) : ∀ {L : List Nat} {a : zv_I}, rm_tr a L 3 j = a 3 j
  | [], _ => rfl
  | b :: L, a => by rw [show rm_tr a (b :: L) = rm_tr (rm_ran a b) L from rfl, rm_tr_3 h, rm_ran_3 h]
theorem rm_cof_o {a b : zv_I} (h18 : a 18 = b 18) (h6 : a 6 = b 6) (nc l : Nat) : rm_cof a nc l = rm_cof b nc l := by
  unfold rm_cof
  congr 1
  funext k
  unfold rm_cop rm_row
  rw [h18, rm_in_o h6]
theorem rm_tk_le {a : zv_I} {B C : Nat} (h : rm_tk a B) (hc : C ≤ B) : rm_tk a C := ⟨h.1, by have := h.2; omega⟩
theorem cM_ran (d : Nat) {a : zv_I} {b : Nat} (h : rm_tk a 1) : rm_V mX8_ran d 0 [.ref 3, .int (nI b)] [] a (rm_q (rm_tr a [b])) := by
  refine rm_aload_n dX8_ran_0 rfl rfl ?_
  refine rm_geti 26 (x := nI (rm_NT a)) dX8_ran_1 flX8_176 rfl (h.1) ?_
  refine rm_bipush (v := nI (60)) dX8_ran_4 (by decide) ?_
  refine rm_icN_ge (tgt := 19) dX8_ran_6 (by decide) (by have := h.2; omega) (by omega) (fun h6 => (absurd h6 (by have := h.2; omega))) (fun h6 => ?_)
  refine rm_aload_n dX8_ran_9 rfl rfl ?_
  refine rm_getr 25 (t := 29) dX8_ran_10 flX8_72 (by decide) rfl rfl ?_
  refine rm_aload_n dX8_ran_13 rfl rfl ?_
  refine rm_geti 26 (x := nI (rm_NT a)) dX8_ran_14 flX8_176 rfl (h.1) ?_
  refine rm_iload_n dX8_ran_17 rfl rfl ?_
  refine rm_iast (f := 25) (j := rm_NT a) dX8_ran_18 rfl (by decide) rfl rfl (rfl) (show rm_NT a < 60 from by have := h.2; omega) ?_
  refine rm_aload_n dX8_ran_19 rfl rfl ?_
  refine rm_dup dX8_ran_20 rfl ?_
  refine rm_geti 26 (x := nI (rm_NT a)) dX8_ran_21 flX8_176 rfl ((show zv_u a 29 (rm_NT a) (nI b) 3 26 = nI (rm_NT a) from by rw [zv_u_row _ 29 _ _ (by decide)]; exact h.1)) ?_
  refine rm_iconst (v := nI (1)) dX8_ran_24 (by decide) ?_
  refine rm_iadd dX8_ran_25 ?_
  refine rm_top (nI_add (rm_NT a) (1)) ?_
  refine rm_puti 26 dX8_ran_26 fwX8_176 rfl ?_
  refine rm_vret dX8_ran_29 rfl ?_
  exact ⟨rfl, rfl⟩
/-- what the acts of a letter answer, and the bodies that run -/
def p_nA (s x : Int32) : Int32 × List Nat := (x + s, [10])
def p_oA (s na x : Int32) : Int32 × List Nat := ((p_nA s (x - nI 1)).1 + na, 40 :: (p_nA s (x - nI 1)).2)
def p_age (k : Nat) (s na x : Int32) : Int32 × List Nat := if k = 0 then p_nA s x else if 3 ≤ k then p_oA s na x else ((p_nA s x).1 * nI 2 + na, 20 :: (p_nA s x).2)
def p_nB (cn x : Int32) : Int32 × List Nat := (x * nI 3 + cn, [11])
def p_bear (k : Nat) (s na nu cn x : Int32) : Int32 × List Nat := if k = 2 then ((p_nB cn (x + nI 1)).1 - nu, 30 :: (p_nB cn (x + nI 1)).2) else if k = 5 then ((p_nB cn x).1 * nI 2 + (p_oA s na x).1, 60 :: ((p_nB cn x).2 ++ (p_oA s na x).2)) else p_nB cn x
def p_nG (k : Nat) (s na nu cn x : Int32) : Int32 × List Nat := ((p_age k s na x).1 + (p_bear k s na nu cn x).1, 12 :: ((p_age k s na x).2 ++ (p_bear k s na nu cn x).2))
def p_give (k : Nat) (s na nu cn x : Int32) : Int32 × List Nat := if k = 2 then ((p_nG k s na nu cn x).1 + nu * nI 7, 31 :: (p_nG k s na nu cn x).2) else if 4 ≤ k then ((p_nG k s na nu cn (x * nI 2)).1 + nI 1, 50 :: (p_nG k s na nu cn (x * nI 2)).2) else p_nG k s na nu cn x
def p_nW (k : Nat) (s na nu cn x : Int32) : Int32 × List Nat := ((p_give k s na nu cn (x + nI 1)).1 - x, 13 :: (p_give k s na nu cn (x + nI 1)).2)
def p_wait (k : Nat) (s na nu cn x : Int32) : Int32 × List Nat := if k = 1 ∨ k = 2 then ((p_nW k s na nu cn x).1 ^^^ nI 5, 21 :: (p_nW k s na nu cn x).2) else if k = 5 then ((p_nW k s na nu cn (x + nI 2)).1 + (p_bear k s na nu cn x).1, 61 :: ((p_nW k s na nu cn (x + nI 2)).2 ++ (p_bear k s na nu cn x).2)) else p_nW k s na nu cn x
theorem p_age_l (k : Nat) (s na x : Int32) : (p_age k s na x).2.length ≤ 2 := by unfold p_age; split; exact Nat.le_of_ble_eq_true rfl; split <;> exact Nat.le_of_ble_eq_true rfl
theorem p_bear_l (k : Nat) (s na nu cn x : Int32) : (p_bear k s na nu cn x).2.length ≤ 4 := by unfold p_bear; split; exact Nat.le_of_ble_eq_true rfl; split <;> exact Nat.le_of_ble_eq_true rfl
theorem p_nG_l (k : Nat) (s na nu cn x : Int32) : (p_nG k s na nu cn x).2.length ≤ 7 := by
  have h1 := p_age_l k s na x
  have h2 := p_bear_l k s na nu cn x
  show (12 :: ((p_age k s na x).2 ++ (p_bear k s na nu cn x).2)).length ≤ 7
  rw [List.length_cons, List.length_append]
  omega
theorem p_give_l (k : Nat) (s na nu cn x : Int32) : (p_give k s na nu cn x).2.length ≤ 8 := by
  unfold p_give
  split
  · have := p_nG_l k s na nu cn x; rw [List.length_cons]; omega
  · split
    · have := p_nG_l k s na nu cn (x * nI 2); rw [List.length_cons]; omega
    · have := p_nG_l k s na nu cn x; omega
theorem p_nW_l (k : Nat) (s na nu cn x : Int32) : (p_nW k s na nu cn x).2.length ≤ 9 := by
  have := p_give_l k s na nu cn (x + nI 1)
  show (13 :: (p_give k s na nu cn (x + nI 1)).2).length ≤ 9
  rw [List.length_cons]
  omega
theorem cM_noteAge (d : Nat) {a : zv_I} {l : Nat} {x : Int32} (hl : l < 200) (h : rm_tk a 1) : rm_V mX8_noteAge (d + 1) 0 [.ref 3, .int (nI l), .int x] [] a (rm_p (p_nA (a 13 l) x).1 (rm_tr a (p_nA (a 13 l) x).2)) := by
  refine rm_aload_n dX8_noteAge_0 rfl rfl ?_
  refine rm_bipush (v := nI (10)) dX8_noteAge_1 (by decide) ?_
  refine rm_callV (As := [.int (nI (10))]) (st := []) dX8_noteAge_3 cvX8_185 rfl rfl (by decide) (zv_cat_i [nI (10)]) (Nat.le_of_ble_eq_true rfl) (cM_ran (d) (a := a) (b := 10) (rm_tk_le h (by omega))) (fun v b q => ?_)
  obtain ⟨rfl, rfl⟩ := q
  show rm_V _ _ 6 [.ref 3, .int (nI (l)), .int (x)] [] _ _
  refine rm_iload_n dX8_noteAge_6 rfl rfl ?_
  refine rm_aload_n dX8_noteAge_7 rfl rfl ?_
  refine rm_getr 9 (t := 13) dX8_noteAge_8 flX8_25 (by decide) rfl rfl ?_
  refine rm_iload_n dX8_noteAge_11 rfl rfl ?_
  refine rm_iald (f := 9) (j := l) (x := a 13 (l)) dX8_noteAge_12 rfl (by decide) rfl rfl (rfl) (show l < 200 from by omega) (by rw [rm_tr_o (by decide) (by decide)]) ?_
  refine rm_iadd dX8_noteAge_13 ?_
  refine rm_iret dX8_noteAge_14 rfl rfl ?_
  exact ⟨rfl, rfl⟩
theorem cM_orderAge (d : Nat) {a : zv_I} {l : Nat} {x : Int32} (hl : l < 200) (h : rm_tk a 2) : rm_V mX8_orderAge (d + 2) 0 [.ref 3, .int (nI l), .int x] [] a (rm_p (p_oA (a 13 l) (a 14 l) x).1 (rm_tr a (p_oA (a 13 l) (a 14 l) x).2)) := by
  refine rm_aload_n dX8_orderAge_0 rfl rfl ?_
  refine rm_bipush (v := nI (40)) dX8_orderAge_1 (by decide) ?_
  refine rm_callV (As := [.int (nI (40))]) (st := []) dX8_orderAge_3 cvX8_185 rfl rfl (by decide) (zv_cat_i [nI (40)]) (Nat.le_of_ble_eq_true rfl) (cM_ran (d + 1) (a := a) (b := 40) (rm_tk_le h (by omega))) (fun v b q => ?_)
  obtain ⟨rfl, rfl⟩ := q
  show rm_V _ _ 6 [.ref 3, .int (nI (l)), .int (x)] [] _ _
  refine rm_aload_n dX8_orderAge_6 rfl rfl ?_
  refine rm_iload_n dX8_orderAge_7 rfl rfl ?_
  refine rm_iload_n dX8_orderAge_8 rfl rfl ?_
  refine rm_iconst (v := nI (1)) dX8_orderAge_9 (by decide) ?_
  refine rm_isub dX8_orderAge_10 ?_
  refine rm_callV (As := [.int (nI (l)), .int (((x) - (nI (1))))]) (st := []) dX8_orderAge_11 cvX8_188 rfl rfl (by decide) (zv_cat_i [nI (l), ((x) - (nI (1)))]) (Nat.le_of_ble_eq_true rfl) ((by have h0 := (cM_noteAge (d) (x := ((x) - (nI (1)))) hl (rm_tr_k ([40]) (rm_tk_le h (by simp only [List.length_append, List.length_cons, List.length_nil]; omega)))); rw [rm_tr_o (t := 13) (by decide) (by decide)] at h0; exact h0)) (fun v b q => ?_)
  obtain ⟨rfl, rfl⟩ := q
  rw [← rm_tr_app]
  show rm_V _ _ 14 [.ref 3, .int (nI (l)), .int (x)] [.int ((p_nA (a 13 l) (((x) - (nI (1))))).1)] _ _
  refine rm_aload_n dX8_orderAge_14 rfl rfl ?_
  refine rm_getr 10 (t := 14) dX8_orderAge_15 flX8_28 (by decide) rfl rfl ?_
  refine rm_iload_n dX8_orderAge_18 rfl rfl ?_
  refine rm_iald (f := 10) (j := l) (x := a 14 (l)) dX8_orderAge_19 rfl (by decide) rfl rfl (rfl) (show l < 200 from by omega) (by rw [rm_tr_o (by decide) (by decide)]) ?_
  refine rm_iadd dX8_orderAge_20 ?_
  refine rm_iret dX8_orderAge_21 rfl rfl ?_
  exact ⟨rfl, rfl⟩
theorem cM_age (d : Nat) {a : zv_I} {l k : Nat} {x : Int32} (hl : l < 200) (hk : a 10 l = nI k ∧ k < 6) (h : rm_tk a 2) : rm_V mX8_age (d + 3) 0 [.ref 3, .int (nI l), .int x] [] a (rm_p (p_age k (a 13 l) (a 14 l) x).1 (rm_tr a (p_age k (a 13 l) (a 14 l) x).2)) := by
  obtain ⟨hk, hk6⟩ := hk
  refine rm_aload_n dX8_age_0 rfl rfl ?_
  refine rm_getr 6 (t := 10) dX8_age_1 flX8_16 (by decide) rfl rfl ?_
  refine rm_iload_n dX8_age_4 rfl rfl ?_
  refine rm_iald (f := 6) (j := l) (x := nI (k)) dX8_age_5 rfl (by decide) rfl rfl (rfl) (show l < 200 from by omega) (hk) ?_
  refine rm_if_ne (tgt := 16) dX8_age_6 (by decide) (fun h6 => ?_) (fun h6 => ?_)
  · have h6 : ¬ k = 0 := rm_nz0 (by omega) h6
    refine rm_aload_n dX8_age_16 rfl rfl ?_
    refine rm_getr 6 (t := 10) dX8_age_17 flX8_16 (by decide) rfl rfl ?_
    refine rm_iload_n dX8_age_20 rfl rfl ?_
    refine rm_iald (f := 6) (j := l) (x := nI (k)) dX8_age_21 rfl (by decide) rfl rfl (rfl) (show l < 200 from by omega) (hk) ?_
    refine rm_iconst (v := nI (3)) dX8_age_22 (by decide) ?_
    refine rm_icN_lt (tgt := 33) dX8_age_23 (by decide) (by omega) (by omega) (fun h23 => ?_) (fun h23 => ?_)
    · refine rm_aload_n dX8_age_33 rfl rfl ?_
      refine rm_bipush (v := nI (20)) dX8_age_34 (by decide) ?_
      refine rm_callV (As := [.int (nI (20))]) (st := []) dX8_age_36 cvX8_185 rfl rfl (by decide) (zv_cat_i [nI (20)]) (Nat.le_of_ble_eq_true rfl) (cM_ran (d + 2) (a := a) (b := 20) (rm_tk_le h (by omega))) (fun v b q => ?_)
      obtain ⟨rfl, rfl⟩ := q
      show rm_V _ _ 39 [.ref 3, .int (nI (l)), .int (x)] [] _ _
      refine rm_aload_n dX8_age_39 rfl rfl ?_
      refine rm_iload_n dX8_age_40 rfl rfl ?_
      refine rm_iload_n dX8_age_41 rfl rfl ?_
      refine rm_callV (As := [.int (nI (l)), .int (x)]) (st := []) dX8_age_42 cvX8_188 rfl rfl (by decide) (zv_cat_i [nI (l), x]) (Nat.le_of_ble_eq_true rfl) ((by have h0 := (cM_noteAge (d + 1) (x := x) hl (rm_tr_k ([20]) (rm_tk_le h (by simp only [List.length_append, List.length_cons, List.length_nil]; omega)))); rw [rm_tr_o (t := 13) (by decide) (by decide)] at h0; exact h0)) (fun v b q => ?_)
      obtain ⟨rfl, rfl⟩ := q
      rw [← rm_tr_app]
      show rm_V _ _ 45 [.ref 3, .int (nI (l)), .int (x)] [.int ((p_nA (a 13 l) x).1)] _ _
      refine rm_iconst (v := nI (2)) dX8_age_45 (by decide) ?_
      refine rm_imul dX8_age_46 ?_
      refine rm_aload_n dX8_age_47 rfl rfl ?_
      refine rm_getr 10 (t := 14) dX8_age_48 flX8_28 (by decide) rfl rfl ?_
      refine rm_iload_n dX8_age_51 rfl rfl ?_
      refine rm_iald (f := 10) (j := l) (x := a 14 (l)) dX8_age_52 rfl (by decide) rfl rfl (rfl) (show l < 200 from by omega) (by rw [rm_tr_o (by decide) (by decide)]) ?_
      refine rm_iadd dX8_age_53 ?_
      refine rm_iret dX8_age_54 rfl rfl ?_
      exact ⟨by unfold p_age; rw [if_neg h6, if_neg (show ¬ 3 ≤ k by omega)], by unfold p_age; rw [if_neg h6, if_neg (show ¬ 3 ≤ k by omega)]; rfl⟩
    · refine rm_aload_n dX8_age_26 rfl rfl ?_
      refine rm_iload_n dX8_age_27 rfl rfl ?_
      refine rm_iload_n dX8_age_28 rfl rfl ?_
      refine rm_callV (As := [.int (nI (l)), .int (x)]) (st := []) dX8_age_29 cvX8_191 rfl rfl (by decide) (zv_cat_i [nI (l), x]) (Nat.le_of_ble_eq_true rfl) ((cM_orderAge (d) (x := x) hl (rm_tk_le h (by omega)))) (fun v b q => ?_)
      obtain ⟨rfl, rfl⟩ := q
      show rm_V _ _ 32 [.ref 3, .int (nI (l)), .int (x)] [.int ((p_oA (a 13 l) (a 14 l) x).1)] _ _
      refine rm_iret dX8_age_32 rfl rfl ?_
      exact ⟨by unfold p_age; rw [if_neg h6, if_pos (show 3 ≤ k by omega)], by unfold p_age; rw [if_neg h6, if_pos (show 3 ≤ k by omega)]⟩
  · have h6 : k = 0 := rm_nz (by omega) h6
    refine rm_aload_n dX8_age_9 rfl rfl ?_
    refine rm_iload_n dX8_age_10 rfl rfl ?_
    refine rm_iload_n dX8_age_11 rfl rfl ?_
    refine rm_callV (As := [.int (nI (l)), .int (x)]) (st := []) dX8_age_12 cvX8_188 rfl rfl (by decide) (zv_cat_i [nI (l), x]) (Nat.le_of_ble_eq_true rfl) ((cM_noteAge (d + 1) (x := x) hl (rm_tk_le h (by omega)))) (fun v b q => ?_)
    obtain ⟨rfl, rfl⟩ := q
    show rm_V _ _ 15 [.ref 3, .int (nI (l)), .int (x)] [.int ((p_nA (a 13 l) x).1)] _ _
    refine rm_iret dX8_age_15 rfl rfl ?_
    exact ⟨by unfold p_age; rw [if_pos h6], by unfold p_age; rw [if_pos h6]⟩
theorem cM_noteBear (d : Nat) {a : zv_I} {nc l : Nat} {x : Int32} (hc : a 3 1 = nI nc) (hcb : nc ≤ 6) (hl : l < 200) (h : rm_tk a 1) : rm_V mX8_noteBear (d + 2) 0 [.ref 3, .int (nI l), .int x] [] a (rm_p (p_nB (nI (rm_cof a nc l)) x).1 (rm_tr a (p_nB (nI (rm_cof a nc l)) x).2)) := by
  refine rm_aload_n dX8_noteBear_0 rfl rfl ?_
  refine rm_bipush (v := nI (11)) dX8_noteBear_1 (by decide) ?_
  refine rm_callV (As := [.int (nI (11))]) (st := []) dX8_noteBear_3 cvX8_185 rfl rfl (by decide) (zv_cat_i [nI (11)]) (Nat.le_of_ble_eq_true rfl) (cM_ran (d + 1) (a := a) (b := 11) (rm_tk_le h (by omega))) (fun v b q => ?_)
  obtain ⟨rfl, rfl⟩ := q
  show rm_V _ _ 6 [.ref 3, .int (nI (l)), .int (x)] [] _ _
  refine rm_iload_n dX8_noteBear_6 rfl rfl ?_
  refine rm_iconst (v := nI (3)) dX8_noteBear_7 (by decide) ?_
  refine rm_imul dX8_noteBear_8 ?_
  refine rm_aload_n dX8_noteBear_9 rfl rfl ?_
  refine rm_iload_n dX8_noteBear_10 rfl rfl ?_
  refine rm_callV (As := [.int (nI (l))]) (st := [.int (((x) * (nI (3))))]) dX8_noteBear_11 cvX8_179 rfl rfl (by decide) (zv_cat_i [nI (l)]) (Nat.le_of_ble_eq_true rfl) (cM_countsOf (d) (a := (rm_tr a ([11]))) (nc := nc) (l := l) (by rw [rm_tr_3 (by decide)]; exact hc) hcb hl) (fun v b q => ?_)
  obtain ⟨rfl, rfl⟩ := q
  rw [rm_cof_o (b := a) (rm_tr_o (by decide) (by decide)) (rm_tr_o (by decide) (by decide))]
  show rm_V _ _ 14 [.ref 3, .int (nI (l)), .int (x)] [.int ((nI (rm_cof a nc l))), .int (((x) * (nI (3))))] _ _
  refine rm_iadd dX8_noteBear_14 ?_
  refine rm_iret dX8_noteBear_15 rfl rfl ?_
  exact ⟨rfl, rfl⟩
theorem cM_bear (d : Nat) {a : zv_I} {nc l k : Nat} {x : Int32} (hc : a 3 1 = nI nc) (hcb : nc ≤ 6) (hl : l < 200) (hk : a 10 l = nI k ∧ k < 6) (h : rm_tk a 4) : rm_V mX8_bear (d + 3) 0 [.ref 3, .int (nI l), .int x] [] a (rm_p (p_bear k (a 13 l) (a 14 l) (a 15 l) (nI (rm_cof a nc l)) x).1 (rm_tr a (p_bear k (a 13 l) (a 14 l) (a 15 l) (nI (rm_cof a nc l)) x).2)) := by
  obtain ⟨hk, hk6⟩ := hk
  refine rm_aload_n dX8_bear_0 rfl rfl ?_
  refine rm_getr 6 (t := 10) dX8_bear_1 flX8_16 (by decide) rfl rfl ?_
  refine rm_iload_n dX8_bear_4 rfl rfl ?_
  refine rm_iald (f := 6) (j := l) (x := nI (k)) dX8_bear_5 rfl (by decide) rfl rfl (rfl) (show l < 200 from by omega) (hk) ?_
  refine rm_iconst (v := nI (2)) dX8_bear_6 (by decide) ?_
  refine rm_icN_ne (tgt := 32) dX8_bear_7 (by decide) (by omega) (by omega) (fun h7 => ?_) (fun h7 => ?_)
  · refine rm_aload_n dX8_bear_32 rfl rfl ?_
    refine rm_getr 6 (t := 10) dX8_bear_33 flX8_16 (by decide) rfl rfl ?_
    refine rm_iload_n dX8_bear_36 rfl rfl ?_
    refine rm_iald (f := 6) (j := l) (x := nI (k)) dX8_bear_37 rfl (by decide) rfl rfl (rfl) (show l < 200 from by omega) (hk) ?_
    refine rm_iconst (v := nI (5)) dX8_bear_38 (by decide) ?_
    refine rm_icN_ne (tgt := 66) dX8_bear_39 (by decide) (by omega) (by omega) (fun h39 => ?_) (fun h39 => ?_)
    · refine rm_aload_n dX8_bear_66 rfl rfl ?_
      refine rm_iload_n dX8_bear_67 rfl rfl ?_
      refine rm_iload_n dX8_bear_68 rfl rfl ?_
      refine rm_callV (As := [.int (nI (l)), .int (x)]) (st := []) dX8_bear_69 cvX8_194 rfl rfl (by decide) (zv_cat_i [nI (l), x]) (Nat.le_of_ble_eq_true rfl) ((cM_noteBear (d) (x := x) hc hcb hl (rm_tk_le h (by omega)))) (fun v b q => ?_)
      obtain ⟨rfl, rfl⟩ := q
      show rm_V _ _ 72 [.ref 3, .int (nI (l)), .int (x)] [.int ((p_nB (nI (rm_cof a nc l)) x).1)] _ _
      refine rm_iret dX8_bear_72 rfl rfl ?_
      exact ⟨by unfold p_bear; rw [if_neg h7, if_neg h39], by unfold p_bear; rw [if_neg h7, if_neg h39]⟩
    · refine rm_aload_n dX8_bear_42 rfl rfl ?_
      refine rm_bipush (v := nI (60)) dX8_bear_43 (by decide) ?_
      refine rm_callV (As := [.int (nI (60))]) (st := []) dX8_bear_45 cvX8_185 rfl rfl (by decide) (zv_cat_i [nI (60)]) (Nat.le_of_ble_eq_true rfl) (cM_ran (d + 2) (a := a) (b := 60) (rm_tk_le h (by omega))) (fun v b q => ?_)
      obtain ⟨rfl, rfl⟩ := q
      show rm_V _ _ 48 [.ref 3, .int (nI (l)), .int (x)] [] _ _
      refine rm_aload_n dX8_bear_48 rfl rfl ?_
      refine rm_iload_n dX8_bear_49 rfl rfl ?_
      refine rm_iload_n dX8_bear_50 rfl rfl ?_
      refine rm_callV (As := [.int (nI (l)), .int (x)]) (st := []) dX8_bear_51 cvX8_194 rfl rfl (by decide) (zv_cat_i [nI (l), x]) (Nat.le_of_ble_eq_true rfl) ((by have h0 := (cM_noteBear (d) (x := x) (by rw [rm_tr_3 (by decide)]; exact hc) hcb hl (rm_tr_k ([60]) (rm_tk_le h (by simp only [List.length_append, List.length_cons, List.length_nil]; omega)))); rw [] at h0; rw [rm_cof_o (b := a) (rm_tr_o (by decide) (by decide)) (rm_tr_o (by decide) (by decide))] at h0; exact h0)) (fun v b q => ?_)
      obtain ⟨rfl, rfl⟩ := q
      rw [← rm_tr_app]
      show rm_V _ _ 54 [.ref 3, .int (nI (l)), .int (x)] [.int ((p_nB (nI (rm_cof a nc l)) x).1)] _ _
      refine rm_iconst (v := nI (2)) dX8_bear_54 (by decide) ?_
      refine rm_imul dX8_bear_55 ?_
      refine rm_istore_n (lv' := [.ref 3, .int (nI (l)), .int (x), .int ((((p_nB (nI (rm_cof a nc l)) x).1) * (nI (2))))]) dX8_bear_56 rfl (by decide) rfl ?_
      refine rm_iload_n dX8_bear_57 rfl rfl ?_
      refine rm_aload_n dX8_bear_58 rfl rfl ?_
      refine rm_iload_n dX8_bear_59 rfl rfl ?_
      refine rm_iload_n dX8_bear_60 rfl rfl ?_
      refine rm_callV (As := [.int (nI (l)), .int (x)]) (st := [.int ((((p_nB (nI (rm_cof a nc l)) x).1) * (nI (2))))]) dX8_bear_61 cvX8_191 rfl rfl (by decide) (zv_cat_i [nI (l), x]) (Nat.le_of_ble_eq_true rfl) ((by have h0 := (cM_orderAge (d) (x := x) hl (rm_tr_k (([60]) ++ ((p_nB (nI (rm_cof a nc l)) x).2)) (rm_tk_le h (by have : (p_nB (nI (rm_cof a nc l)) x).2.length = 1 := rfl; simp only [List.length_append, List.length_cons, List.length_nil]; omega)))); rw [rm_tr_o (t := 13) (by decide) (by decide), rm_tr_o (t := 14) (by decide) (by decide)] at h0; exact h0)) (fun v b q => ?_)
      obtain ⟨rfl, rfl⟩ := q
      rw [← rm_tr_app]
      show rm_V _ _ 64 [.ref 3, .int (nI (l)), .int (x), .int ((((p_nB (nI (rm_cof a nc l)) x).1) * (nI (2))))] [.int ((p_oA (a 13 l) (a 14 l) x).1), .int ((((p_nB (nI (rm_cof a nc l)) x).1) * (nI (2))))] _ _
      refine rm_iadd dX8_bear_64 ?_
      refine rm_iret dX8_bear_65 rfl rfl ?_
      exact ⟨by unfold p_bear; rw [if_neg h7, if_pos h39], by unfold p_bear; rw [if_neg h7, if_pos h39]; rfl⟩
  · refine rm_aload_n dX8_bear_10 rfl rfl ?_
    refine rm_bipush (v := nI (30)) dX8_bear_11 (by decide) ?_
    refine rm_callV (As := [.int (nI (30))]) (st := []) dX8_bear_13 cvX8_185 rfl rfl (by decide) (zv_cat_i [nI (30)]) (Nat.le_of_ble_eq_true rfl) (cM_ran (d + 2) (a := a) (b := 30) (rm_tk_le h (by omega))) (fun v b q => ?_)
    obtain ⟨rfl, rfl⟩ := q
    show rm_V _ _ 16 [.ref 3, .int (nI (l)), .int (x)] [] _ _
    refine rm_aload_n dX8_bear_16 rfl rfl ?_
    refine rm_iload_n dX8_bear_17 rfl rfl ?_
    refine rm_iload_n dX8_bear_18 rfl rfl ?_
    refine rm_iconst (v := nI (1)) dX8_bear_19 (by decide) ?_
    refine rm_iadd dX8_bear_20 ?_
    refine rm_callV (As := [.int (nI (l)), .int (((x) + (nI (1))))]) (st := []) dX8_bear_21 cvX8_194 rfl rfl (by decide) (zv_cat_i [nI (l), ((x) + (nI (1)))]) (Nat.le_of_ble_eq_true rfl) ((by have h0 := (cM_noteBear (d) (x := ((x) + (nI (1)))) (by rw [rm_tr_3 (by decide)]; exact hc) hcb hl (rm_tr_k ([30]) (rm_tk_le h (by simp only [List.length_append, List.length_cons, List.length_nil]; omega)))); rw [] at h0; rw [rm_cof_o (b := a) (rm_tr_o (by decide) (by decide)) (rm_tr_o (by decide) (by decide))] at h0; exact h0)) (fun v b q => ?_)
    obtain ⟨rfl, rfl⟩ := q
    rw [← rm_tr_app]
    show rm_V _ _ 24 [.ref 3, .int (nI (l)), .int (x)] [.int ((p_nB (nI (rm_cof a nc l)) (((x) + (nI (1))))).1)] _ _
    refine rm_aload_n dX8_bear_24 rfl rfl ?_
    refine rm_getr 11 (t := 15) dX8_bear_25 flX8_31 (by decide) rfl rfl ?_
    refine rm_iload_n dX8_bear_28 rfl rfl ?_
    refine rm_iald (f := 11) (j := l) (x := a 15 (l)) dX8_bear_29 rfl (by decide) rfl rfl (rfl) (show l < 200 from by omega) (by rw [rm_tr_o (by decide) (by decide)]) ?_
    refine rm_isub dX8_bear_30 ?_
    refine rm_iret dX8_bear_31 rfl rfl ?_
    exact ⟨by unfold p_bear; rw [if_pos h7], by unfold p_bear; rw [if_pos h7]; rfl⟩
theorem cM_noteGive (d : Nat) {a : zv_I} {nc l k : Nat} {x : Int32} (hc : a 3 1 = nI nc) (hcb : nc ≤ 6) (hl : l < 200) (hk : a 10 l = nI k ∧ k < 6) (h : rm_tk a 7) : rm_V mX8_noteGive (d + 4) 0 [.ref 3, .int (nI l), .int x] [] a (rm_p (p_nG k (a 13 l) (a 14 l) (a 15 l) (nI (rm_cof a nc l)) x).1 (rm_tr a (p_nG k (a 13 l) (a 14 l) (a 15 l) (nI (rm_cof a nc l)) x).2)) := by
  obtain ⟨hk, hk6⟩ := hk
  refine rm_aload_n dX8_noteGive_0 rfl rfl ?_
  refine rm_bipush (v := nI (12)) dX8_noteGive_1 (by decide) ?_
  refine rm_callV (As := [.int (nI (12))]) (st := []) dX8_noteGive_3 cvX8_185 rfl rfl (by decide) (zv_cat_i [nI (12)]) (Nat.le_of_ble_eq_true rfl) (cM_ran (d + 3) (a := a) (b := 12) (rm_tk_le h (by omega))) (fun v b q => ?_)
  obtain ⟨rfl, rfl⟩ := q
  show rm_V _ _ 6 [.ref 3, .int (nI (l)), .int (x)] [] _ _
  refine rm_aload_n dX8_noteGive_6 rfl rfl ?_
  refine rm_iload_n dX8_noteGive_7 rfl rfl ?_
  refine rm_iload_n dX8_noteGive_8 rfl rfl ?_
  refine rm_callV (As := [.int (nI (l)), .int (x)]) (st := []) dX8_noteGive_9 cvX8_197 rfl rfl (by decide) (zv_cat_i [nI (l), x]) (Nat.le_of_ble_eq_true rfl) ((by have h0 := (cM_age (d) (x := x) hl ⟨(by rw [rm_tr_o (by decide) (by decide)]; exact hk), hk6⟩ (rm_tr_k ([12]) (rm_tk_le h (by simp only [List.length_append, List.length_cons, List.length_nil]; omega)))); rw [rm_tr_o (t := 13) (by decide) (by decide), rm_tr_o (t := 14) (by decide) (by decide)] at h0; exact h0)) (fun v b q => ?_)
  obtain ⟨rfl, rfl⟩ := q
  rw [← rm_tr_app]
  show rm_V _ _ 12 [.ref 3, .int (nI (l)), .int (x)] [.int ((p_age k (a 13 l) (a 14 l) x).1)] _ _
  refine rm_istore_n (lv' := [.ref 3, .int (nI (l)), .int (x), .int ((p_age k (a 13 l) (a 14 l) x).1)]) dX8_noteGive_12 rfl (by decide) rfl ?_
  refine rm_iload_n dX8_noteGive_13 rfl rfl ?_
  refine rm_aload_n dX8_noteGive_14 rfl rfl ?_
  refine rm_iload_n dX8_noteGive_15 rfl rfl ?_
  refine rm_iload_n dX8_noteGive_16 rfl rfl ?_
  refine rm_callV (As := [.int (nI (l)), .int (x)]) (st := [.int ((p_age k (a 13 l) (a 14 l) x).1)]) dX8_noteGive_17 cvX8_200 rfl rfl (by decide) (zv_cat_i [nI (l), x]) (Nat.le_of_ble_eq_true rfl) ((by have h0 := (cM_bear (d) (x := x) (by rw [rm_tr_3 (by decide)]; exact hc) hcb hl ⟨(by rw [rm_tr_o (by decide) (by decide)]; exact hk), hk6⟩ (rm_tr_k (([12]) ++ ((p_age k (a 13 l) (a 14 l) x).2)) (rm_tk_le h (by have := p_age_l k (a 13 l) (a 14 l) x; simp only [List.length_append, List.length_cons, List.length_nil]; omega)))); rw [rm_tr_o (t := 13) (by decide) (by decide), rm_tr_o (t := 14) (by decide) (by decide), rm_tr_o (t := 15) (by decide) (by decide)] at h0; rw [rm_cof_o (b := a) (rm_tr_o (by decide) (by decide)) (rm_tr_o (by decide) (by decide))] at h0; exact h0)) (fun v b q => ?_)
  obtain ⟨rfl, rfl⟩ := q
  rw [← rm_tr_app]
  show rm_V _ _ 20 [.ref 3, .int (nI (l)), .int (x), .int ((p_age k (a 13 l) (a 14 l) x).1)] [.int ((p_bear k (a 13 l) (a 14 l) (a 15 l) (nI (rm_cof a nc l)) x).1), .int ((p_age k (a 13 l) (a 14 l) x).1)] _ _
  refine rm_iadd dX8_noteGive_20 ?_
  refine rm_iret dX8_noteGive_21 rfl rfl ?_
  exact ⟨rfl, rfl⟩
theorem cM_giveOf (d : Nat) {a : zv_I} {nc l k : Nat} {x : Int32} (hc : a 3 1 = nI nc) (hcb : nc ≤ 6) (hl : l < 200) (hk : a 10 l = nI k ∧ k < 6) (h : rm_tk a 8) : rm_V mX8_giveOf (d + 5) 0 [.ref 3, .int (nI l), .int x] [] a (rm_p (p_give k (a 13 l) (a 14 l) (a 15 l) (nI (rm_cof a nc l)) x).1 (rm_tr a (p_give k (a 13 l) (a 14 l) (a 15 l) (nI (rm_cof a nc l)) x).2)) := by
  obtain ⟨hk, hk6⟩ := hk
  refine rm_aload_n dX8_giveOf_0 rfl rfl ?_
  refine rm_getr 6 (t := 10) dX8_giveOf_1 flX8_16 (by decide) rfl rfl ?_
  refine rm_iload_n dX8_giveOf_4 rfl rfl ?_
  refine rm_iald (f := 6) (j := l) (x := nI (k)) dX8_giveOf_5 rfl (by decide) rfl rfl (rfl) (show l < 200 from by omega) (hk) ?_
  refine rm_iconst (v := nI (2)) dX8_giveOf_6 (by decide) ?_
  refine rm_icN_ne (tgt := 33) dX8_giveOf_7 (by decide) (by omega) (by omega) (fun h7 => ?_) (fun h7 => ?_)
  · refine rm_aload_n dX8_giveOf_33 rfl rfl ?_
    refine rm_getr 6 (t := 10) dX8_giveOf_34 flX8_16 (by decide) rfl rfl ?_
    refine rm_iload_n dX8_giveOf_37 rfl rfl ?_
    refine rm_iald (f := 6) (j := l) (x := nI (k)) dX8_giveOf_38 rfl (by decide) rfl rfl (rfl) (show l < 200 from by omega) (hk) ?_
    refine rm_iconst (v := nI (4)) dX8_giveOf_39 (by decide) ?_
    refine rm_icN_lt (tgt := 60) dX8_giveOf_40 (by decide) (by omega) (by omega) (fun h40 => ?_) (fun h40 => ?_)
    · refine rm_aload_n dX8_giveOf_60 rfl rfl ?_
      refine rm_iload_n dX8_giveOf_61 rfl rfl ?_
      refine rm_iload_n dX8_giveOf_62 rfl rfl ?_
      refine rm_callV (As := [.int (nI (l)), .int (x)]) (st := []) dX8_giveOf_63 cvX8_203 rfl rfl (by decide) (zv_cat_i [nI (l), x]) (Nat.le_of_ble_eq_true rfl) ((cM_noteGive (d) (x := x) hc hcb hl ⟨hk, hk6⟩ (rm_tk_le h (by omega)))) (fun v b q => ?_)
      obtain ⟨rfl, rfl⟩ := q
      show rm_V _ _ 66 [.ref 3, .int (nI (l)), .int (x)] [.int ((p_nG k (a 13 l) (a 14 l) (a 15 l) (nI (rm_cof a nc l)) x).1)] _ _
      refine rm_iret dX8_giveOf_66 rfl rfl ?_
      exact ⟨by unfold p_give; rw [if_neg h7, if_neg (show ¬ 4 ≤ k by omega)], by unfold p_give; rw [if_neg h7, if_neg (show ¬ 4 ≤ k by omega)]⟩
    · refine rm_aload_n dX8_giveOf_43 rfl rfl ?_
      refine rm_bipush (v := nI (50)) dX8_giveOf_44 (by decide) ?_
      refine rm_callV (As := [.int (nI (50))]) (st := []) dX8_giveOf_46 cvX8_185 rfl rfl (by decide) (zv_cat_i [nI (50)]) (Nat.le_of_ble_eq_true rfl) (cM_ran (d + 4) (a := a) (b := 50) (rm_tk_le h (by omega))) (fun v b q => ?_)
      obtain ⟨rfl, rfl⟩ := q
      show rm_V _ _ 49 [.ref 3, .int (nI (l)), .int (x)] [] _ _
      refine rm_aload_n dX8_giveOf_49 rfl rfl ?_
      refine rm_iload_n dX8_giveOf_50 rfl rfl ?_
      refine rm_iload_n dX8_giveOf_51 rfl rfl ?_
      refine rm_iconst (v := nI (2)) dX8_giveOf_52 (by decide) ?_
      refine rm_imul dX8_giveOf_53 ?_
      refine rm_callV (As := [.int (nI (l)), .int (((x) * (nI (2))))]) (st := []) dX8_giveOf_54 cvX8_203 rfl rfl (by decide) (zv_cat_i [nI (l), ((x) * (nI (2)))]) (Nat.le_of_ble_eq_true rfl) ((by have h0 := (cM_noteGive (d) (x := ((x) * (nI (2)))) (by rw [rm_tr_3 (by decide)]; exact hc) hcb hl ⟨(by rw [rm_tr_o (by decide) (by decide)]; exact hk), hk6⟩ (rm_tr_k ([50]) (rm_tk_le h (by simp only [List.length_append, List.length_cons, List.length_nil]; omega)))); rw [rm_tr_o (t := 13) (by decide) (by decide), rm_tr_o (t := 14) (by decide) (by decide), rm_tr_o (t := 15) (by decide) (by decide)] at h0; rw [rm_cof_o (b := a) (rm_tr_o (by decide) (by decide)) (rm_tr_o (by decide) (by decide))] at h0; exact h0)) (fun v b q => ?_)
      obtain ⟨rfl, rfl⟩ := q
      rw [← rm_tr_app]
      show rm_V _ _ 57 [.ref 3, .int (nI (l)), .int (x)] [.int ((p_nG k (a 13 l) (a 14 l) (a 15 l) (nI (rm_cof a nc l)) (((x) * (nI (2))))).1)] _ _
      refine rm_iconst (v := nI (1)) dX8_giveOf_57 (by decide) ?_
      refine rm_iadd dX8_giveOf_58 ?_
      refine rm_iret dX8_giveOf_59 rfl rfl ?_
      exact ⟨by unfold p_give; rw [if_neg h7, if_pos (show 4 ≤ k by omega)], by unfold p_give; rw [if_neg h7, if_pos (show 4 ≤ k by omega)]; rfl⟩
  · refine rm_aload_n dX8_giveOf_10 rfl rfl ?_
    refine rm_bipush (v := nI (31)) dX8_giveOf_11 (by decide) ?_
    refine rm_callV (As := [.int (nI (31))]) (st := []) dX8_giveOf_13 cvX8_185 rfl rfl (by decide) (zv_cat_i [nI (31)]) (Nat.le_of_ble_eq_true rfl) (cM_ran (d + 4) (a := a) (b := 31) (rm_tk_le h (by omega))) (fun v b q => ?_)
    obtain ⟨rfl, rfl⟩ := q
    show rm_V _ _ 16 [.ref 3, .int (nI (l)), .int (x)] [] _ _
    refine rm_aload_n dX8_giveOf_16 rfl rfl ?_
    refine rm_iload_n dX8_giveOf_17 rfl rfl ?_
    refine rm_iload_n dX8_giveOf_18 rfl rfl ?_
    refine rm_callV (As := [.int (nI (l)), .int (x)]) (st := []) dX8_giveOf_19 cvX8_203 rfl rfl (by decide) (zv_cat_i [nI (l), x]) (Nat.le_of_ble_eq_true rfl) ((by have h0 := (cM_noteGive (d) (x := x) (by rw [rm_tr_3 (by decide)]; exact hc) hcb hl ⟨(by rw [rm_tr_o (by decide) (by decide)]; exact hk), hk6⟩ (rm_tr_k ([31]) (rm_tk_le h (by simp only [List.length_append, List.length_cons, List.length_nil]; omega)))); rw [rm_tr_o (t := 13) (by decide) (by decide), rm_tr_o (t := 14) (by decide) (by decide), rm_tr_o (t := 15) (by decide) (by decide)] at h0; rw [rm_cof_o (b := a) (rm_tr_o (by decide) (by decide)) (rm_tr_o (by decide) (by decide))] at h0; exact h0)) (fun v b q => ?_)
    obtain ⟨rfl, rfl⟩ := q
    rw [← rm_tr_app]
    show rm_V _ _ 22 [.ref 3, .int (nI (l)), .int (x)] [.int ((p_nG k (a 13 l) (a 14 l) (a 15 l) (nI (rm_cof a nc l)) x).1)] _ _
    refine rm_aload_n dX8_giveOf_22 rfl rfl ?_
    refine rm_getr 11 (t := 15) dX8_giveOf_23 flX8_31 (by decide) rfl rfl ?_
    refine rm_iload_n dX8_giveOf_26 rfl rfl ?_
    refine rm_iald (f := 11) (j := l) (x := a 15 (l)) dX8_giveOf_27 rfl (by decide) rfl rfl (rfl) (show l < 200 from by omega) (by rw [rm_tr_o (by decide) (by decide)]) ?_
    refine rm_bipush (v := nI (7)) dX8_giveOf_28 (by decide) ?_
    refine rm_imul dX8_giveOf_30 ?_
    refine rm_iadd dX8_giveOf_31 ?_
    refine rm_iret dX8_giveOf_32 rfl rfl ?_
    exact ⟨by unfold p_give; rw [if_pos h7], by unfold p_give; rw [if_pos h7]; rfl⟩
theorem cM_noteWait (d : Nat) {a : zv_I} {nc l k : Nat} {x : Int32} (hc : a 3 1 = nI nc) (hcb : nc ≤ 6) (hl : l < 200) (hk : a 10 l = nI k ∧ k < 6) (h : rm_tk a 9) : rm_V mX8_noteWait (d + 6) 0 [.ref 3, .int (nI l), .int x] [] a (rm_p (p_nW k (a 13 l) (a 14 l) (a 15 l) (nI (rm_cof a nc l)) x).1 (rm_tr a (p_nW k (a 13 l) (a 14 l) (a 15 l) (nI (rm_cof a nc l)) x).2)) := by
  obtain ⟨hk, hk6⟩ := hk
  refine rm_aload_n dX8_noteWait_0 rfl rfl ?_
  refine rm_bipush (v := nI (13)) dX8_noteWait_1 (by decide) ?_
  refine rm_callV (As := [.int (nI (13))]) (st := []) dX8_noteWait_3 cvX8_185 rfl rfl (by decide) (zv_cat_i [nI (13)]) (Nat.le_of_ble_eq_true rfl) (cM_ran (d + 5) (a := a) (b := 13) (rm_tk_le h (by omega))) (fun v b q => ?_)
  obtain ⟨rfl, rfl⟩ := q
  show rm_V _ _ 6 [.ref 3, .int (nI (l)), .int (x)] [] _ _
  refine rm_aload_n dX8_noteWait_6 rfl rfl ?_
  refine rm_iload_n dX8_noteWait_7 rfl rfl ?_
  refine rm_iload_n dX8_noteWait_8 rfl rfl ?_
  refine rm_iconst (v := nI (1)) dX8_noteWait_9 (by decide) ?_
  refine rm_iadd dX8_noteWait_10 ?_
  refine rm_callV (As := [.int (nI (l)), .int (((x) + (nI (1))))]) (st := []) dX8_noteWait_11 cvX8_206 rfl rfl (by decide) (zv_cat_i [nI (l), ((x) + (nI (1)))]) (Nat.le_of_ble_eq_true rfl) ((by have h0 := (cM_giveOf (d) (x := ((x) + (nI (1)))) (by rw [rm_tr_3 (by decide)]; exact hc) hcb hl ⟨(by rw [rm_tr_o (by decide) (by decide)]; exact hk), hk6⟩ (rm_tr_k ([13]) (rm_tk_le h (by simp only [List.length_append, List.length_cons, List.length_nil]; omega)))); rw [rm_tr_o (t := 13) (by decide) (by decide), rm_tr_o (t := 14) (by decide) (by decide), rm_tr_o (t := 15) (by decide) (by decide)] at h0; rw [rm_cof_o (b := a) (rm_tr_o (by decide) (by decide)) (rm_tr_o (by decide) (by decide))] at h0; exact h0)) (fun v b q => ?_)
  obtain ⟨rfl, rfl⟩ := q
  rw [← rm_tr_app]
  show rm_V _ _ 14 [.ref 3, .int (nI (l)), .int (x)] [.int ((p_give k (a 13 l) (a 14 l) (a 15 l) (nI (rm_cof a nc l)) (((x) + (nI (1))))).1)] _ _
  refine rm_iload_n dX8_noteWait_14 rfl rfl ?_
  refine rm_isub dX8_noteWait_15 ?_
  refine rm_iret dX8_noteWait_16 rfl rfl ?_
  exact ⟨rfl, rfl⟩
theorem cM_waitOf (d : Nat) {a : zv_I} {nc l k : Nat} {x : Int32} (hc : a 3 1 = nI nc) (hcb : nc ≤ 6) (hl : l < 200) (hk : a 10 l = nI k ∧ k < 6) (h : rm_tk a 14) : rm_V mX8_waitOf (d + 7) 0 [.ref 3, .int (nI l), .int x] [] a (rm_p (p_wait k (a 13 l) (a 14 l) (a 15 l) (nI (rm_cof a nc l)) x).1 (rm_tr a (p_wait k (a 13 l) (a 14 l) (a 15 l) (nI (rm_cof a nc l)) x).2)) := by
  obtain ⟨hk, hk6⟩ := hk
  refine rm_aload_n dX8_waitOf_0 rfl rfl ?_
  refine rm_getr 6 (t := 10) dX8_waitOf_1 flX8_16 (by decide) rfl rfl ?_
  refine rm_iload_n dX8_waitOf_4 rfl rfl ?_
  refine rm_iald (f := 6) (j := l) (x := nI (k)) dX8_waitOf_5 rfl (by decide) rfl rfl (rfl) (show l < 200 from by omega) (hk) ?_
  refine rm_iconst (v := nI (1)) dX8_waitOf_6 (by decide) ?_
  refine rm_icN_eq (tgt := 20) dX8_waitOf_7 (by decide) (by omega) (by omega) (fun h7 => ?_) (fun h7 => ?_)
  · refine rm_aload_n dX8_waitOf_20 rfl rfl ?_
    refine rm_bipush (v := nI (21)) dX8_waitOf_21 (by decide) ?_
    refine rm_callV (As := [.int (nI (21))]) (st := []) dX8_waitOf_23 cvX8_185 rfl rfl (by decide) (zv_cat_i [nI (21)]) (Nat.le_of_ble_eq_true rfl) (cM_ran (d + 6) (a := a) (b := 21) (rm_tk_le h (by omega))) (fun v b q => ?_)
    obtain ⟨rfl, rfl⟩ := q
    show rm_V _ _ 26 [.ref 3, .int (nI (l)), .int (x)] [] _ _
    refine rm_aload_n dX8_waitOf_26 rfl rfl ?_
    refine rm_iload_n dX8_waitOf_27 rfl rfl ?_
    refine rm_iload_n dX8_waitOf_28 rfl rfl ?_
    refine rm_callV (As := [.int (nI (l)), .int (x)]) (st := []) dX8_waitOf_29 cvX8_209 rfl rfl (by decide) (zv_cat_i [nI (l), x]) (Nat.le_of_ble_eq_true rfl) ((by have h0 := (cM_noteWait (d) (x := x) (by rw [rm_tr_3 (by decide)]; exact hc) hcb hl ⟨(by rw [rm_tr_o (by decide) (by decide)]; exact hk), hk6⟩ (rm_tr_k ([21]) (rm_tk_le h (by simp only [List.length_append, List.length_cons, List.length_nil]; omega)))); rw [rm_tr_o (t := 13) (by decide) (by decide), rm_tr_o (t := 14) (by decide) (by decide), rm_tr_o (t := 15) (by decide) (by decide)] at h0; rw [rm_cof_o (b := a) (rm_tr_o (by decide) (by decide)) (rm_tr_o (by decide) (by decide))] at h0; exact h0)) (fun v b q => ?_)
    obtain ⟨rfl, rfl⟩ := q
    rw [← rm_tr_app]
    show rm_V _ _ 32 [.ref 3, .int (nI (l)), .int (x)] [.int ((p_nW k (a 13 l) (a 14 l) (a 15 l) (nI (rm_cof a nc l)) x).1)] _ _
    refine rm_iconst (v := nI (5)) dX8_waitOf_32 (by decide) ?_
    refine rm_ixor dX8_waitOf_33 ?_
    refine rm_iret dX8_waitOf_34 rfl rfl ?_
    exact ⟨by unfold p_wait; rw [if_pos (Or.inl h7)], by unfold p_wait; rw [if_pos (Or.inl h7)]; rfl⟩
  · refine rm_aload_n dX8_waitOf_10 rfl rfl ?_
    refine rm_getr 6 (t := 10) dX8_waitOf_11 flX8_16 (by decide) rfl rfl ?_
    refine rm_iload_n dX8_waitOf_14 rfl rfl ?_
    refine rm_iald (f := 6) (j := l) (x := nI (k)) dX8_waitOf_15 rfl (by decide) rfl rfl (rfl) (show l < 200 from by omega) (hk) ?_
    refine rm_iconst (v := nI (2)) dX8_waitOf_16 (by decide) ?_
    refine rm_icN_ne (tgt := 35) dX8_waitOf_17 (by decide) (by omega) (by omega) (fun h17 => ?_) (fun h17 => ?_)
    · refine rm_aload_n dX8_waitOf_35 rfl rfl ?_
      refine rm_getr 6 (t := 10) dX8_waitOf_36 flX8_16 (by decide) rfl rfl ?_
      refine rm_iload_n dX8_waitOf_39 rfl rfl ?_
      refine rm_iald (f := 6) (j := l) (x := nI (k)) dX8_waitOf_40 rfl (by decide) rfl rfl (rfl) (show l < 200 from by omega) (hk) ?_
      refine rm_iconst (v := nI (5)) dX8_waitOf_41 (by decide) ?_
      refine rm_icN_ne (tgt := 69) dX8_waitOf_42 (by decide) (by omega) (by omega) (fun h42 => ?_) (fun h42 => ?_)
      · refine rm_aload_n dX8_waitOf_69 rfl rfl ?_
        refine rm_iload_n dX8_waitOf_70 rfl rfl ?_
        refine rm_iload_n dX8_waitOf_71 rfl rfl ?_
        refine rm_callV (As := [.int (nI (l)), .int (x)]) (st := []) dX8_waitOf_72 cvX8_209 rfl rfl (by decide) (zv_cat_i [nI (l), x]) (Nat.le_of_ble_eq_true rfl) ((cM_noteWait (d) (x := x) hc hcb hl ⟨hk, hk6⟩ (rm_tk_le h (by omega)))) (fun v b q => ?_)
        obtain ⟨rfl, rfl⟩ := q
        show rm_V _ _ 75 [.ref 3, .int (nI (l)), .int (x)] [.int ((p_nW k (a 13 l) (a 14 l) (a 15 l) (nI (rm_cof a nc l)) x).1)] _ _
        refine rm_iret dX8_waitOf_75 rfl rfl ?_
        exact ⟨by unfold p_wait; rw [if_neg (show ¬ (k = 1 ∨ k = 2) by omega), if_neg h42], by unfold p_wait; rw [if_neg (show ¬ (k = 1 ∨ k = 2) by omega), if_neg h42]⟩
      · refine rm_aload_n dX8_waitOf_45 rfl rfl ?_
        refine rm_bipush (v := nI (61)) dX8_waitOf_46 (by decide) ?_
        refine rm_callV (As := [.int (nI (61))]) (st := []) dX8_waitOf_48 cvX8_185 rfl rfl (by decide) (zv_cat_i [nI (61)]) (Nat.le_of_ble_eq_true rfl) (cM_ran (d + 6) (a := a) (b := 61) (rm_tk_le h (by omega))) (fun v b q => ?_)
        obtain ⟨rfl, rfl⟩ := q
        show rm_V _ _ 51 [.ref 3, .int (nI (l)), .int (x)] [] _ _
        refine rm_aload_n dX8_waitOf_51 rfl rfl ?_
        refine rm_iload_n dX8_waitOf_52 rfl rfl ?_
        refine rm_iload_n dX8_waitOf_53 rfl rfl ?_
        refine rm_iconst (v := nI (2)) dX8_waitOf_54 (by decide) ?_
        refine rm_iadd dX8_waitOf_55 ?_
        refine rm_callV (As := [.int (nI (l)), .int (((x) + (nI (2))))]) (st := []) dX8_waitOf_56 cvX8_209 rfl rfl (by decide) (zv_cat_i [nI (l), ((x) + (nI (2)))]) (Nat.le_of_ble_eq_true rfl) ((by have h0 := (cM_noteWait (d) (x := ((x) + (nI (2)))) (by rw [rm_tr_3 (by decide)]; exact hc) hcb hl ⟨(by rw [rm_tr_o (by decide) (by decide)]; exact hk), hk6⟩ (rm_tr_k ([61]) (rm_tk_le h (by simp only [List.length_append, List.length_cons, List.length_nil]; omega)))); rw [rm_tr_o (t := 13) (by decide) (by decide), rm_tr_o (t := 14) (by decide) (by decide), rm_tr_o (t := 15) (by decide) (by decide)] at h0; rw [rm_cof_o (b := a) (rm_tr_o (by decide) (by decide)) (rm_tr_o (by decide) (by decide))] at h0; exact h0)) (fun v b q => ?_)
        obtain ⟨rfl, rfl⟩ := q
        rw [← rm_tr_app]
        show rm_V _ _ 59 [.ref 3, .int (nI (l)), .int (x)] [.int ((p_nW k (a 13 l) (a 14 l) (a 15 l) (nI (rm_cof a nc l)) (((x) + (nI (2))))).1)] _ _
        refine rm_istore_n (lv' := [.ref 3, .int (nI (l)), .int (x), .int ((p_nW k (a 13 l) (a 14 l) (a 15 l) (nI (rm_cof a nc l)) (((x) + (nI (2))))).1)]) dX8_waitOf_59 rfl (by decide) rfl ?_
        refine rm_iload_n dX8_waitOf_60 rfl rfl ?_
        refine rm_aload_n dX8_waitOf_61 rfl rfl ?_
        refine rm_iload_n dX8_waitOf_62 rfl rfl ?_
        refine rm_iload_n dX8_waitOf_63 rfl rfl ?_
        refine rm_callV (As := [.int (nI (l)), .int (x)]) (st := [.int ((p_nW k (a 13 l) (a 14 l) (a 15 l) (nI (rm_cof a nc l)) (((x) + (nI (2))))).1)]) dX8_waitOf_64 cvX8_200 rfl rfl (by decide) (zv_cat_i [nI (l), x]) (Nat.le_of_ble_eq_true rfl) ((by have h0 := (cM_bear (d + 3) (x := x) (by rw [rm_tr_3 (by decide)]; exact hc) hcb hl ⟨(by rw [rm_tr_o (by decide) (by decide)]; exact hk), hk6⟩ (rm_tr_k (([61]) ++ ((p_nW k (a 13 l) (a 14 l) (a 15 l) (nI (rm_cof a nc l)) (((x) + (nI (2))))).2)) (rm_tk_le h (by have := p_nW_l k (a 13 l) (a 14 l) (a 15 l) (nI (rm_cof a nc l)) (x + nI 2); simp only [List.length_append, List.length_cons, List.length_nil]; omega)))); rw [rm_tr_o (t := 13) (by decide) (by decide), rm_tr_o (t := 14) (by decide) (by decide), rm_tr_o (t := 15) (by decide) (by decide)] at h0; rw [rm_cof_o (b := a) (rm_tr_o (by decide) (by decide)) (rm_tr_o (by decide) (by decide))] at h0; exact h0)) (fun v b q => ?_)
        obtain ⟨rfl, rfl⟩ := q
        rw [← rm_tr_app]
        show rm_V _ _ 67 [.ref 3, .int (nI (l)), .int (x), .int ((p_nW k (a 13 l) (a 14 l) (a 15 l) (nI (rm_cof a nc l)) (((x) + (nI (2))))).1)] [.int ((p_bear k (a 13 l) (a 14 l) (a 15 l) (nI (rm_cof a nc l)) x).1), .int ((p_nW k (a 13 l) (a 14 l) (a 15 l) (nI (rm_cof a nc l)) (((x) + (nI (2))))).1)] _ _
        refine rm_iadd dX8_waitOf_67 ?_
        refine rm_iret dX8_waitOf_68 rfl rfl ?_
        exact ⟨by unfold p_wait; rw [if_neg (show ¬ (k = 1 ∨ k = 2) by omega), if_pos h42], by unfold p_wait; rw [if_neg (show ¬ (k = 1 ∨ k = 2) by omega), if_pos h42]; rfl⟩
    · refine rm_aload_n dX8_waitOf_20 rfl rfl ?_
      refine rm_bipush (v := nI (21)) dX8_waitOf_21 (by decide) ?_
      refine rm_callV (As := [.int (nI (21))]) (st := []) dX8_waitOf_23 cvX8_185 rfl rfl (by decide) (zv_cat_i [nI (21)]) (Nat.le_of_ble_eq_true rfl) (cM_ran (d + 6) (a := a) (b := 21) (rm_tk_le h (by omega))) (fun v b q => ?_)
      obtain ⟨rfl, rfl⟩ := q
      show rm_V _ _ 26 [.ref 3, .int (nI (l)), .int (x)] [] _ _
      refine rm_aload_n dX8_waitOf_26 rfl rfl ?_
      refine rm_iload_n dX8_waitOf_27 rfl rfl ?_
      refine rm_iload_n dX8_waitOf_28 rfl rfl ?_
      refine rm_callV (As := [.int (nI (l)), .int (x)]) (st := []) dX8_waitOf_29 cvX8_209 rfl rfl (by decide) (zv_cat_i [nI (l), x]) (Nat.le_of_ble_eq_true rfl) ((by have h0 := (cM_noteWait (d) (x := x) (by rw [rm_tr_3 (by decide)]; exact hc) hcb hl ⟨(by rw [rm_tr_o (by decide) (by decide)]; exact hk), hk6⟩ (rm_tr_k ([21]) (rm_tk_le h (by simp only [List.length_append, List.length_cons, List.length_nil]; omega)))); rw [rm_tr_o (t := 13) (by decide) (by decide), rm_tr_o (t := 14) (by decide) (by decide), rm_tr_o (t := 15) (by decide) (by decide)] at h0; rw [rm_cof_o (b := a) (rm_tr_o (by decide) (by decide)) (rm_tr_o (by decide) (by decide))] at h0; exact h0)) (fun v b q => ?_)
      obtain ⟨rfl, rfl⟩ := q
      rw [← rm_tr_app]
      show rm_V _ _ 32 [.ref 3, .int (nI (l)), .int (x)] [.int ((p_nW k (a 13 l) (a 14 l) (a 15 l) (nI (rm_cof a nc l)) x).1)] _ _
      refine rm_iconst (v := nI (5)) dX8_waitOf_32 (by decide) ?_
      refine rm_ixor dX8_waitOf_33 ?_
      refine rm_iret dX8_waitOf_34 rfl rfl ?_
      exact ⟨by unfold p_wait; rw [if_pos (Or.inr h17)], by unfold p_wait; rw [if_pos (Or.inr h17)]; rfl⟩
def p_act (a : zv_I) (nc l k : Nat) (x : Int32) : Nat → Int32 × List Nat
  | 0 => p_age k (a 13 l) (a 14 l) x
  | 1 => p_bear k (a 13 l) (a 14 l) (a 15 l) (nI (rm_cof a nc l)) x
  | 2 => p_give k (a 13 l) (a 14 l) (a 15 l) (nI (rm_cof a nc l)) x
  | _ => p_wait k (a 13 l) (a 14 l) (a 15 l) (nI (rm_cof a nc l)) x
def q_actR (a : zv_I) (nc nl : Nat) (l y x : Int32) : Int32 := if (rm_lt l nl && rm_lt y 4) = true then (p_act a nc (rm_nv l) (rm_nv (a 10 (rm_nv l))) x (rm_nv y)).1 else -1
def q_actA (a : zv_I) (nc nl : Nat) (l y x : Int32) : zv_I := if (rm_lt l nl && rm_lt y 4) = true then zv_u (rm_tr (zv_u a 3 26 (nI 0)) (p_act a nc (rm_nv l) (rm_nv (a 10 (rm_nv l))) x (rm_nv y)).2) 3 24 (nI 0) else zv_u a 3 24 (nI 1)
theorem rm_cof_t {a : zv_I} {x : Int32} {j nc l : Nat} : rm_cof (zv_u a 3 j x) nc l = rm_cof a nc l := rm_cof_o (zv_u_row _ 3 _ _ (by decide)) (zv_u_row _ 3 _ _ (by decide)) nc l
theorem cM_act (d : Nat) {a : zv_I} {nc nl : Nat} (hc : a 3 1 = nI nc) (hcb : nc ≤ 6) (hn : a 3 4 = nI nl) (hnb : nl ≤ 200) (hk : ∀ l, l < nl → a 10 l = nI (rm_nv (a 10 l)) ∧ rm_nv (a 10 l) < 6) (l y x : Int32) : rm_V mX8_act (d + 8) 0 [.ref 3, .int l, .int y, .int x] [] a (rm_p (q_actR a nc nl l y x) (q_actA a nc nl l y x)) := by
  refine rm_aload_n dX8_act_0 rfl rfl ?_
  refine rm_iload_n dX8_act_1 rfl rfl ?_
  refine rm_callV (As := [.int (l)]) (st := []) dX8_act_2 cvX8_142 rfl rfl (by decide) (zv_cat_i [l]) (Nat.le_of_ble_eq_true rfl) (cM_isLetter (d + 6) hn (by omega) (l)) (fun v b q => ?_)
  obtain ⟨rfl, rfl⟩ := q
  show rm_V _ _ 5 [.ref 3, .int (l), .int (y), .int (x)] [.int (rm_b (rm_lt (l) nl))] _ _
  refine rm_ifB_eq (tgt := 17) dX8_act_5 (by decide) (fun h5 => ?_) (fun h5 => ?_)
  · refine rm_aload_n dX8_act_17 rfl rfl ?_
    refine rm_iconst (v := nI (1)) dX8_act_18 (by decide) ?_
    refine rm_callV (As := [.int (nI (1))]) (st := []) dX8_act_19 cvX8_103 rfl rfl (by decide) (zv_cat_i [nI (1)]) (Nat.le_of_ble_eq_true rfl) (cM_refused (d + 7) (a) (nI (1))) (fun v b q => ?_)
    obtain ⟨rfl, rfl⟩ := q
    show rm_V _ _ 22 [.ref 3, .int (l), .int (y), .int (x)] [.int ((-1 : Int32))] _ _
    refine rm_iret dX8_act_22 rfl rfl ?_
    exact ⟨by unfold q_actR; rw [h5]; rfl, by unfold q_actA; rw [h5]; rfl⟩
  · obtain ⟨l1, hl1, rfl⟩ := rm_lt_t h5 (by omega)
    refine rm_iload_n dX8_act_8 rfl rfl ?_
    refine rm_iconst (v := nI (0)) dX8_act_9 (by decide) ?_
    refine rm_iconst (v := nI (3)) dX8_act_10 (by decide) ?_
    refine rm_callS (As := [.int (y), .int (nI (0)), .int (nI (3))]) (st := []) dX8_act_11 csX8_82 rfl (by decide) (zv_cat_i [y, nI (0), nI (3)]) (Nat.le_of_ble_eq_true rfl) (cM_in (d + 7) (a) (y) (nI 0) (nI 3)) (fun v b q => ?_)
    obtain ⟨rfl, rfl⟩ := q
    rw [rm_in01 _ 3 (by decide)]
    show rm_V _ _ 14 [.ref 3, .int (nI (l1)), .int (y), .int (x)] [.int (rm_b (rm_lt (y) 4))] _ _
    refine rm_ifB_ne (tgt := 23) dX8_act_14 (by decide) (fun h14 => ?_) (fun h14 => ?_)
    · obtain ⟨y1, hy1, rfl⟩ := rm_lt_t h14 (by omega)
      refine rm_aload_n dX8_act_23 rfl rfl ?_
      refine rm_iconst (v := nI (0)) dX8_act_24 (by decide) ?_
      refine rm_puti 26 dX8_act_25 fwX8_176 rfl ?_
      refine rm_iload_n dX8_act_28 rfl rfl ?_
      refine rm_if_ne (tgt := 41) dX8_act_29 (by decide) (fun h29 => ?_) (fun h29 => ?_)
      · refine rm_iload_n dX8_act_41 rfl rfl ?_
        refine rm_iconst (v := nI (1)) dX8_act_42 (by decide) ?_
        refine rm_icN_ne (tgt := 55) dX8_act_43 (by decide) (by omega) (by omega) (fun h43 => ?_) (fun h43 => ?_)
        · refine rm_iload_n dX8_act_55 rfl rfl ?_
          refine rm_iconst (v := nI (2)) dX8_act_56 (by decide) ?_
          refine rm_icN_ne (tgt := 69) dX8_act_57 (by decide) (by omega) (by omega) (fun h57 => ?_) (fun h57 => ?_)
          · refine rm_aload_n dX8_act_69 rfl rfl ?_
            refine rm_iload_n dX8_act_70 rfl rfl ?_
            refine rm_iload_n dX8_act_71 rfl rfl ?_
            refine rm_callV (As := [.int (nI (l1)), .int (x)]) (st := []) dX8_act_72 cvX8_212 rfl rfl (by decide) (zv_cat_i [nI (l1), x]) (Nat.le_of_ble_eq_true rfl) ((by have h0 := cM_waitOf (d) (a := zv_u a 3 26 (nI 0)) (l := l1) (k := rm_nv (a 10 l1)) (x := x) (by rw [zv_u_j _ _ (by decide)]; exact hc) hcb (by omega) ⟨(by rw [zv_u_row _ 3 _ _ (by decide)]; exact (hk l1 hl1).1), (hk l1 hl1).2⟩ ⟨by unfold rm_NT; rw [zv_u_s]; rfl, by unfold rm_NT; rw [zv_u_s]; decide⟩; rw [rm_cof_t] at h0; rw [zv_u_row _ 3 _ _ (show 13 ≠ 3 by decide), zv_u_row _ 3 _ _ (show 14 ≠ 3 by decide), zv_u_row _ 3 _ _ (show 15 ≠ 3 by decide)] at h0; exact h0)) (fun v b q => ?_)
            obtain ⟨rfl, rfl⟩ := q
            show rm_V _ _ 75 [.ref 3, .int (nI (l1)), .int (nI (y1)), .int (x)] [.int ((p_act a nc l1 (rm_nv (a 10 l1)) x 3).1)] _ _
            refine rm_istore (lv' := [.ref 3, .int (nI (l1)), .int (nI (y1)), .int (x), .int ((p_act a nc l1 (rm_nv (a 10 l1)) x 3).1)]) dX8_act_75 (by decide) rfl ?_
            refine rm_aload_n dX8_act_77 rfl rfl ?_
            refine rm_iload dX8_act_78 rfl ?_
            refine rm_callV (As := [.int ((p_act a nc l1 (rm_nv (a 10 l1)) x 3).1)]) (st := []) dX8_act_80 cvX8_106 rfl rfl (by decide) (zv_cat_i [(p_act a nc l1 (rm_nv (a 10 l1)) x 3).1]) (Nat.le_of_ble_eq_true rfl) (cM_done (d + 7) ((rm_tr (zv_u a 3 26 (nI 0)) (p_act a nc l1 (rm_nv (a 10 l1)) x 3).2)) ((p_act a nc l1 (rm_nv (a 10 l1)) x 3).1)) (fun v b q => ?_)
            obtain ⟨rfl, rfl⟩ := q
            show rm_V _ _ 83 [.ref 3, .int (nI (l1)), .int (nI (y1)), .int (x), .int ((p_act a nc l1 (rm_nv (a 10 l1)) x 3).1)] [.int ((p_act a nc l1 (rm_nv (a 10 l1)) x 3).1)] _ _
            refine rm_iret dX8_act_83 rfl rfl ?_
            have e1 : y1 = 3 := by have := rm_nz0 (by omega) h29; omega
            subst e1
            exact ⟨by unfold q_actR; rw [h5, h14, if_pos (by rfl), rm_nv_n (n := l1) (by omega), rm_nv_n (by decide)], by unfold q_actA; rw [h5, h14, if_pos (by rfl), rm_nv_n (n := l1) (by omega), rm_nv_n (by decide)]⟩
          · refine rm_aload_n dX8_act_60 rfl rfl ?_
            refine rm_iload_n dX8_act_61 rfl rfl ?_
            refine rm_iload_n dX8_act_62 rfl rfl ?_
            refine rm_callV (As := [.int (nI (l1)), .int (x)]) (st := []) dX8_act_63 cvX8_206 rfl rfl (by decide) (zv_cat_i [nI (l1), x]) (Nat.le_of_ble_eq_true rfl) ((by have h0 := cM_giveOf (d + 2) (a := zv_u a 3 26 (nI 0)) (l := l1) (k := rm_nv (a 10 l1)) (x := x) (by rw [zv_u_j _ _ (by decide)]; exact hc) hcb (by omega) ⟨(by rw [zv_u_row _ 3 _ _ (by decide)]; exact (hk l1 hl1).1), (hk l1 hl1).2⟩ ⟨by unfold rm_NT; rw [zv_u_s]; rfl, by unfold rm_NT; rw [zv_u_s]; decide⟩; rw [rm_cof_t] at h0; rw [zv_u_row _ 3 _ _ (show 13 ≠ 3 by decide), zv_u_row _ 3 _ _ (show 14 ≠ 3 by decide), zv_u_row _ 3 _ _ (show 15 ≠ 3 by decide)] at h0; exact h0)) (fun v b q => ?_)
            obtain ⟨rfl, rfl⟩ := q
            show rm_V _ _ 66 [.ref 3, .int (nI (l1)), .int (nI (y1)), .int (x)] [.int ((p_act a nc l1 (rm_nv (a 10 l1)) x 2).1)] _ _
            refine rm_goto (tgt := 75) dX8_act_66 (by decide) ?_
            refine rm_istore (lv' := [.ref 3, .int (nI (l1)), .int (nI (y1)), .int (x), .int ((p_act a nc l1 (rm_nv (a 10 l1)) x 2).1)]) dX8_act_75 (by decide) rfl ?_
            refine rm_aload_n dX8_act_77 rfl rfl ?_
            refine rm_iload dX8_act_78 rfl ?_
            refine rm_callV (As := [.int ((p_act a nc l1 (rm_nv (a 10 l1)) x 2).1)]) (st := []) dX8_act_80 cvX8_106 rfl rfl (by decide) (zv_cat_i [(p_act a nc l1 (rm_nv (a 10 l1)) x 2).1]) (Nat.le_of_ble_eq_true rfl) (cM_done (d + 7) ((rm_tr (zv_u a 3 26 (nI 0)) (p_act a nc l1 (rm_nv (a 10 l1)) x 2).2)) ((p_act a nc l1 (rm_nv (a 10 l1)) x 2).1)) (fun v b q => ?_)
            obtain ⟨rfl, rfl⟩ := q
            show rm_V _ _ 83 [.ref 3, .int (nI (l1)), .int (nI (y1)), .int (x), .int ((p_act a nc l1 (rm_nv (a 10 l1)) x 2).1)] [.int ((p_act a nc l1 (rm_nv (a 10 l1)) x 2).1)] _ _
            refine rm_iret dX8_act_83 rfl rfl ?_
            have e1 : y1 = 2 := by omega
            subst e1
            exact ⟨by unfold q_actR; rw [h5, h14, if_pos (by rfl), rm_nv_n (n := l1) (by omega), rm_nv_n (by decide)], by unfold q_actA; rw [h5, h14, if_pos (by rfl), rm_nv_n (n := l1) (by omega), rm_nv_n (by decide)]⟩
        · refine rm_aload_n dX8_act_46 rfl rfl ?_
          refine rm_iload_n dX8_act_47 rfl rfl ?_
          refine rm_iload_n dX8_act_48 rfl rfl ?_
          refine rm_callV (As := [.int (nI (l1)), .int (x)]) (st := []) dX8_act_49 cvX8_200 rfl rfl (by decide) (zv_cat_i [nI (l1), x]) (Nat.le_of_ble_eq_true rfl) ((by have h0 := cM_bear (d + 4) (a := zv_u a 3 26 (nI 0)) (l := l1) (k := rm_nv (a 10 l1)) (x := x) (by rw [zv_u_j _ _ (by decide)]; exact hc) hcb (by omega) ⟨(by rw [zv_u_row _ 3 _ _ (by decide)]; exact (hk l1 hl1).1), (hk l1 hl1).2⟩ ⟨by unfold rm_NT; rw [zv_u_s]; rfl, by unfold rm_NT; rw [zv_u_s]; decide⟩; rw [rm_cof_t] at h0; rw [zv_u_row _ 3 _ _ (show 13 ≠ 3 by decide), zv_u_row _ 3 _ _ (show 14 ≠ 3 by decide), zv_u_row _ 3 _ _ (show 15 ≠ 3 by decide)] at h0; exact h0)) (fun v b q => ?_)
          obtain ⟨rfl, rfl⟩ := q
          show rm_V _ _ 52 [.ref 3, .int (nI (l1)), .int (nI (y1)), .int (x)] [.int ((p_act a nc l1 (rm_nv (a 10 l1)) x 1).1)] _ _
          refine rm_goto (tgt := 75) dX8_act_52 (by decide) ?_
          refine rm_istore (lv' := [.ref 3, .int (nI (l1)), .int (nI (y1)), .int (x), .int ((p_act a nc l1 (rm_nv (a 10 l1)) x 1).1)]) dX8_act_75 (by decide) rfl ?_
          refine rm_aload_n dX8_act_77 rfl rfl ?_
          refine rm_iload dX8_act_78 rfl ?_
          refine rm_callV (As := [.int ((p_act a nc l1 (rm_nv (a 10 l1)) x 1).1)]) (st := []) dX8_act_80 cvX8_106 rfl rfl (by decide) (zv_cat_i [(p_act a nc l1 (rm_nv (a 10 l1)) x 1).1]) (Nat.le_of_ble_eq_true rfl) (cM_done (d + 7) ((rm_tr (zv_u a 3 26 (nI 0)) (p_act a nc l1 (rm_nv (a 10 l1)) x 1).2)) ((p_act a nc l1 (rm_nv (a 10 l1)) x 1).1)) (fun v b q => ?_)
          obtain ⟨rfl, rfl⟩ := q
          show rm_V _ _ 83 [.ref 3, .int (nI (l1)), .int (nI (y1)), .int (x), .int ((p_act a nc l1 (rm_nv (a 10 l1)) x 1).1)] [.int ((p_act a nc l1 (rm_nv (a 10 l1)) x 1).1)] _ _
          refine rm_iret dX8_act_83 rfl rfl ?_
          have e1 : y1 = 1 := by omega
          subst e1
          exact ⟨by unfold q_actR; rw [h5, h14, if_pos (by rfl), rm_nv_n (n := l1) (by omega), rm_nv_n (by decide)], by unfold q_actA; rw [h5, h14, if_pos (by rfl), rm_nv_n (n := l1) (by omega), rm_nv_n (by decide)]⟩
      · refine rm_aload_n dX8_act_32 rfl rfl ?_
        refine rm_iload_n dX8_act_33 rfl rfl ?_
        refine rm_iload_n dX8_act_34 rfl rfl ?_
        refine rm_callV (As := [.int (nI (l1)), .int (x)]) (st := []) dX8_act_35 cvX8_197 rfl rfl (by decide) (zv_cat_i [nI (l1), x]) (Nat.le_of_ble_eq_true rfl) ((by have h0 := cM_age (d + 4) (a := zv_u a 3 26 (nI 0)) (l := l1) (k := rm_nv (a 10 l1)) (x := x) (by omega) ⟨(by rw [zv_u_row _ 3 _ _ (by decide)]; exact (hk l1 hl1).1), (hk l1 hl1).2⟩ ⟨by unfold rm_NT; rw [zv_u_s]; rfl, by unfold rm_NT; rw [zv_u_s]; decide⟩; rw [zv_u_row _ 3 _ _ (show 13 ≠ 3 by decide), zv_u_row _ 3 _ _ (show 14 ≠ 3 by decide)] at h0; exact h0)) (fun v b q => ?_)
        obtain ⟨rfl, rfl⟩ := q
        show rm_V _ _ 38 [.ref 3, .int (nI (l1)), .int (nI (y1)), .int (x)] [.int ((p_act a nc l1 (rm_nv (a 10 l1)) x 0).1)] _ _
        refine rm_goto (tgt := 75) dX8_act_38 (by decide) ?_
        refine rm_istore (lv' := [.ref 3, .int (nI (l1)), .int (nI (y1)), .int (x), .int ((p_act a nc l1 (rm_nv (a 10 l1)) x 0).1)]) dX8_act_75 (by decide) rfl ?_
        refine rm_aload_n dX8_act_77 rfl rfl ?_
        refine rm_iload dX8_act_78 rfl ?_
        refine rm_callV (As := [.int ((p_act a nc l1 (rm_nv (a 10 l1)) x 0).1)]) (st := []) dX8_act_80 cvX8_106 rfl rfl (by decide) (zv_cat_i [(p_act a nc l1 (rm_nv (a 10 l1)) x 0).1]) (Nat.le_of_ble_eq_true rfl) (cM_done (d + 7) ((rm_tr (zv_u a 3 26 (nI 0)) (p_act a nc l1 (rm_nv (a 10 l1)) x 0).2)) ((p_act a nc l1 (rm_nv (a 10 l1)) x 0).1)) (fun v b q => ?_)
        obtain ⟨rfl, rfl⟩ := q
        show rm_V _ _ 83 [.ref 3, .int (nI (l1)), .int (nI (y1)), .int (x), .int ((p_act a nc l1 (rm_nv (a 10 l1)) x 0).1)] [.int ((p_act a nc l1 (rm_nv (a 10 l1)) x 0).1)] _ _
        refine rm_iret dX8_act_83 rfl rfl ?_
        have e1 : y1 = 0 := rm_nz (by omega) h29
        subst e1
        exact ⟨by unfold q_actR; rw [h5, h14, if_pos (by rfl), rm_nv_n (n := l1) (by omega), rm_nv_n (by decide)], by unfold q_actA; rw [h5, h14, if_pos (by rfl), rm_nv_n (n := l1) (by omega), rm_nv_n (by decide)]⟩
    · refine rm_aload_n dX8_act_17 rfl rfl ?_
      refine rm_iconst (v := nI (1)) dX8_act_18 (by decide) ?_
      refine rm_callV (As := [.int (nI (1))]) (st := []) dX8_act_19 cvX8_103 rfl rfl (by decide) (zv_cat_i [nI (1)]) (Nat.le_of_ble_eq_true rfl) (cM_refused (d + 7) (a) (nI (1))) (fun v b q => ?_)
      obtain ⟨rfl, rfl⟩ := q
      show rm_V _ _ 22 [.ref 3, .int (nI (l1)), .int (y), .int (x)] [.int ((-1 : Int32))] _ _
      refine rm_iret dX8_act_22 rfl rfl ?_
      exact ⟨by unfold q_actR; rw [h14, Bool.and_false]; rfl, by unfold q_actA; rw [h14, Bool.and_false]; rfl⟩
def q_trace (a : zv_I) (i : Int32) : Int32 := if rm_lt i (rm_NT a) = true then a 29 (rm_nv i) else -1
theorem cM_trace (d : Nat) {a : zv_I} (ht : a 3 26 = nI (rm_NT a) ∧ rm_NT a ≤ 60) (i : Int32) : rm_V mX8_trace (d + 1) 0 [.ref 3, .int i] [] a (rm_p (q_trace a i) a) := by
  have htb := ht.2
  refine rm_iload_n dX8_trace_0 rfl rfl ?_
  refine rm_iconst (v := nI (0)) dX8_trace_1 (by decide) ?_
  refine rm_aload_n dX8_trace_2 rfl rfl ?_
  refine rm_geti 26 (x := nI (rm_NT a)) dX8_trace_3 flX8_176 rfl (ht.1) ?_
  refine rm_bipush (v := nI (60)) dX8_trace_6 (by decide) ?_
  refine rm_icN_ge (tgt := 18) dX8_trace_8 (by decide) (by omega) (by omega) (fun h8 => ?_) (fun h8 => ?_)
  · refine rm_bipush (v := nI (60)) dX8_trace_18 (by decide) ?_
    refine rm_iconst (v := nI (1)) dX8_trace_20 (by decide) ?_
    refine rm_isub dX8_trace_21 ?_
    refine rm_top (y := (nI (rm_NT a) - nI 1)) (by rw [show 60 = rm_NT a by omega]) ?_
    refine rm_callS (As := [.int (i), .int (nI (0)), .int ((nI (rm_NT a) - nI 1))]) (st := []) dX8_trace_22 csX8_82 rfl (by decide) (zv_cat_i [i, nI (0), (nI (rm_NT a) - nI 1)]) (Nat.le_of_ble_eq_true rfl) (cM_in d a i (nI 0) (nI (rm_NT a) - nI 1)) (fun v b q => ?_)
    obtain ⟨rfl, rfl⟩ := q
    rw [rm_in0 i (n := rm_NT a) (by omega)]
    show rm_V _ _ 25 [.ref 3, .int (i)] [.int (rm_b (rm_lt i (rm_NT a)))] _ _
    refine rm_ifB_eq (tgt := 37) dX8_trace_25 (by decide) (fun h25 => ?_) (fun h25 => ?_)
    · refine rm_iconst (v := (-1 : Int32)) dX8_trace_37 (by decide) ?_
      refine rm_iret dX8_trace_38 rfl rfl ?_
      exact ⟨by unfold q_trace; rw [h25]; rfl, rfl⟩
    · obtain ⟨i1, hi1, rfl⟩ := rm_lt_t h25 (by omega)
      refine rm_aload_n dX8_trace_28 rfl rfl ?_
      refine rm_getr 25 (t := 29) dX8_trace_29 flX8_72 (by decide) rfl rfl ?_
      refine rm_iload_n dX8_trace_32 rfl rfl ?_
      refine rm_iald (f := 25) (j := i1) (x := (a 29 (i1))) dX8_trace_33 rfl (by decide) rfl rfl (rfl) (show i1 < 60 from by omega) (rfl) ?_
      refine rm_goto (tgt := 38) dX8_trace_34 (by decide) ?_
      refine rm_iret dX8_trace_38 rfl rfl ?_
      exact ⟨by unfold q_trace; rw [h25, if_pos rfl, rm_nv_n (n := i1) (by omega)], rfl⟩
  · refine rm_aload_n dX8_trace_11 rfl rfl ?_
    refine rm_geti 26 (x := nI (rm_NT a)) dX8_trace_12 flX8_176 rfl (ht.1) ?_
    refine rm_goto (tgt := 20) dX8_trace_15 (by decide) ?_
    refine rm_iconst (v := nI (1)) dX8_trace_20 (by decide) ?_
    refine rm_isub dX8_trace_21 ?_
    refine rm_top (y := (nI (rm_NT a) - nI 1)) (rfl) ?_
    refine rm_callS (As := [.int (i), .int (nI (0)), .int ((nI (rm_NT a) - nI 1))]) (st := []) dX8_trace_22 csX8_82 rfl (by decide) (zv_cat_i [i, nI (0), (nI (rm_NT a) - nI 1)]) (Nat.le_of_ble_eq_true rfl) (cM_in d a i (nI 0) (nI (rm_NT a) - nI 1)) (fun v b q => ?_)
    obtain ⟨rfl, rfl⟩ := q
    rw [rm_in0 i (n := rm_NT a) (by omega)]
    show rm_V _ _ 25 [.ref 3, .int (i)] [.int (rm_b (rm_lt i (rm_NT a)))] _ _
    refine rm_ifB_eq (tgt := 37) dX8_trace_25 (by decide) (fun h25 => ?_) (fun h25 => ?_)
    · refine rm_iconst (v := (-1 : Int32)) dX8_trace_37 (by decide) ?_
      refine rm_iret dX8_trace_38 rfl rfl ?_
      exact ⟨by unfold q_trace; rw [h25]; rfl, rfl⟩
    · obtain ⟨i1, hi1, rfl⟩ := rm_lt_t h25 (by omega)
      refine rm_aload_n dX8_trace_28 rfl rfl ?_
      refine rm_getr 25 (t := 29) dX8_trace_29 flX8_72 (by decide) rfl rfl ?_
      refine rm_iload_n dX8_trace_32 rfl rfl ?_
      refine rm_iald (f := 25) (j := i1) (x := (a 29 (i1))) dX8_trace_33 rfl (by decide) rfl rfl (rfl) (show i1 < 60 from by omega) (rfl) ?_
      refine rm_goto (tgt := 38) dX8_trace_34 (by decide) ?_
      refine rm_iret dX8_trace_38 rfl rfl ?_
      exact ⟨by unfold q_trace; rw [h25, if_pos rfl, rm_nv_n (n := i1) (by omega)], rfl⟩
def q_bareR (a : zv_I) (nm nl : Nat) (m s l : Int32) : Int32 := if (rm_lt m nm && (rm_lt s 40 && rm_lt l nl)) = true then (if a 27 (40 * rm_nv m + rm_nv s) = 0 then nI 1 else -1) else -1
def q_bareA (a : zv_I) (nm nl : Nat) (m s l : Int32) : zv_I := if (rm_lt m nm && (rm_lt s 40 && rm_lt l nl)) = true then (if a 27 (40 * rm_nv m + rm_nv s) = 0 then zv_u (zv_u a 27 (40 * rm_nv m + rm_nv s) (-1 - nI (rm_nv l))) 3 24 (nI 0) else zv_u a 3 24 (nI 3)) else zv_u a 3 24 (nI 1)
theorem cM_bare (d : Nat) {a : zv_I} {nm nl : Nat} (hm : a 3 0 = nI nm) (hmb : nm ≤ 8) (hn : a 3 4 = nI nl) (hnb : nl ≤ 200) (m s l : Int32) : rm_V mX8_bare (d + 2) 0 [.ref 3, .int m, .int s, .int l] [] a (rm_p (q_bareR a nm nl m s l) (q_bareA a nm nl m s l)) := by
  refine rm_aload_n dX8_bare_0 rfl rfl ?_
  refine rm_iload_n dX8_bare_1 rfl rfl ?_
  refine rm_callV (As := [.int (m)]) (st := []) dX8_bare_2 cvX8_113 rfl rfl (by decide) (zv_cat_i [m]) (Nat.le_of_ble_eq_true rfl) (cM_isMember d hm (by omega) (m)) (fun v b q => ?_)
  obtain ⟨rfl, rfl⟩ := q
  show rm_V _ _ 5 [.ref 3, .int (m), .int (s), .int (l)] [.int (rm_b (rm_lt (m) nm))] _ _
  refine rm_ifB_eq (tgt := 26) dX8_bare_5 (by decide) (fun h5 => ?_) (fun h5 => ?_)
  · refine rm_aload_n dX8_bare_26 rfl rfl ?_
    refine rm_iconst (v := nI (1)) dX8_bare_27 (by decide) ?_
    refine rm_callV (As := [.int (nI (1))]) (st := []) dX8_bare_28 cvX8_103 rfl rfl (by decide) (zv_cat_i [nI (1)]) (Nat.le_of_ble_eq_true rfl) (cM_refused (d + 1) (a) (nI (1))) (fun v b q => ?_)
    obtain ⟨rfl, rfl⟩ := q
    show rm_V _ _ 31 [.ref 3, .int (m), .int (s), .int (l)] [.int ((-1 : Int32))] _ _
    refine rm_iret dX8_bare_31 rfl rfl ?_
    exact ⟨by unfold q_bareR; rw [h5]; rw [if_neg (by simp)], by unfold q_bareA; rw [h5]; rw [if_neg (by simp)]⟩
  · obtain ⟨m1, hm1, rfl⟩ := rm_lt_t h5 (by omega)
    refine rm_iload_n dX8_bare_8 rfl rfl ?_
    refine rm_iconst (v := nI (0)) dX8_bare_9 (by decide) ?_
    refine rm_bipush (v := nI (39)) dX8_bare_10 (by decide) ?_
    refine rm_callS (As := [.int (s), .int (nI (0)), .int (nI (39))]) (st := []) dX8_bare_12 csX8_82 rfl (by decide) (zv_cat_i [s, nI (0), nI (39)]) (Nat.le_of_ble_eq_true rfl) (cM_in (d + 1) (a) (s) (nI 0) (nI 39)) (fun v b q => ?_)
    obtain ⟨rfl, rfl⟩ := q
    rw [rm_in01 _ 39 (by decide)]
    show rm_V _ _ 15 [.ref 3, .int (nI (m1)), .int (s), .int (l)] [.int (rm_b (rm_lt (s) 40))] _ _
    refine rm_ifB_eq (tgt := 26) dX8_bare_15 (by decide) (fun h15 => ?_) (fun h15 => ?_)
    · refine rm_aload_n dX8_bare_26 rfl rfl ?_
      refine rm_iconst (v := nI (1)) dX8_bare_27 (by decide) ?_
      refine rm_callV (As := [.int (nI (1))]) (st := []) dX8_bare_28 cvX8_103 rfl rfl (by decide) (zv_cat_i [nI (1)]) (Nat.le_of_ble_eq_true rfl) (cM_refused (d + 1) (a) (nI (1))) (fun v b q => ?_)
      obtain ⟨rfl, rfl⟩ := q
      show rm_V _ _ 31 [.ref 3, .int (nI (m1)), .int (s), .int (l)] [.int ((-1 : Int32))] _ _
      refine rm_iret dX8_bare_31 rfl rfl ?_
      exact ⟨by unfold q_bareR; rw [h5, h15]; rw [if_neg (by simp)], by unfold q_bareA; rw [h5, h15]; rw [if_neg (by simp)]⟩
    · obtain ⟨s1, hs1, rfl⟩ := rm_lt_t h15 (by omega)
      refine rm_aload_n dX8_bare_18 rfl rfl ?_
      refine rm_iload_n dX8_bare_19 rfl rfl ?_
      refine rm_callV (As := [.int (l)]) (st := []) dX8_bare_20 cvX8_142 rfl rfl (by decide) (zv_cat_i [l]) (Nat.le_of_ble_eq_true rfl) (cM_isLetter d hn (by omega) (l)) (fun v b q => ?_)
      obtain ⟨rfl, rfl⟩ := q
      show rm_V _ _ 23 [.ref 3, .int (nI (m1)), .int (nI (s1)), .int (l)] [.int (rm_b (rm_lt (l) nl))] _ _
      refine rm_ifB_ne (tgt := 32) dX8_bare_23 (by decide) (fun h23 => ?_) (fun h23 => ?_)
      · obtain ⟨l1, hl1, rfl⟩ := rm_lt_t h23 (by omega)
        refine rm_aload_n dX8_bare_32 rfl rfl ?_
        refine rm_getr 23 (t := 27) dX8_bare_33 flX8_69 (by decide) rfl rfl ?_
        refine rm_bipush (v := nI (40)) dX8_bare_36 (by decide) ?_
        refine rm_iload_n dX8_bare_38 rfl rfl ?_
        refine rm_imul dX8_bare_39 ?_
        refine rm_top (pk_mul (40) (m1)) ?_
        refine rm_iload_n dX8_bare_40 rfl rfl ?_
        refine rm_iadd dX8_bare_41 ?_
        refine rm_top (nI_add (40 * m1) (s1)) ?_
        refine rm_iald (f := 23) (j := 40 * m1 + s1) (x := (a 27 (40 * m1 + s1))) dX8_bare_42 rfl (by decide) rfl rfl (rfl) (show 40 * m1 + s1 < 320 from by omega) (rfl) ?_
        refine rm_if_eq (tgt := 52) dX8_bare_43 (by decide) (fun h43 => ?_) (fun h43 => ?_)
        · refine rm_aload_n dX8_bare_52 rfl rfl ?_
          refine rm_getr 23 (t := 27) dX8_bare_53 flX8_69 (by decide) rfl rfl ?_
          refine rm_bipush (v := nI (40)) dX8_bare_56 (by decide) ?_
          refine rm_iload_n dX8_bare_58 rfl rfl ?_
          refine rm_imul dX8_bare_59 ?_
          refine rm_top (pk_mul (40) (m1)) ?_
          refine rm_iload_n dX8_bare_60 rfl rfl ?_
          refine rm_iadd dX8_bare_61 ?_
          refine rm_top (nI_add (40 * m1) (s1)) ?_
          refine rm_iconst (v := (-1 : Int32)) dX8_bare_62 (by decide) ?_
          refine rm_iload_n dX8_bare_63 rfl rfl ?_
          refine rm_isub dX8_bare_64 ?_
          refine rm_iast (f := 23) (j := 40 * m1 + s1) dX8_bare_65 rfl (by decide) rfl rfl (rfl) (show 40 * m1 + s1 < 320 from by omega) ?_
          refine rm_aload_n dX8_bare_66 rfl rfl ?_
          refine rm_iconst (v := nI (1)) dX8_bare_67 (by decide) ?_
          refine rm_callV (As := [.int (nI (1))]) (st := []) dX8_bare_68 cvX8_106 rfl rfl (by decide) (zv_cat_i [nI (1)]) (Nat.le_of_ble_eq_true rfl) (cM_done (d + 1) (zv_u a 27 (40 * m1 + s1) ((((-1 : Int32)) - (nI (l1))))) (nI (1))) (fun v b q => ?_)
          obtain ⟨rfl, rfl⟩ := q
          show rm_V _ _ 71 [.ref 3, .int (nI (m1)), .int (nI (s1)), .int (nI (l1))] [.int (nI (1))] _ _
          refine rm_iret dX8_bare_71 rfl rfl ?_
          exact ⟨by unfold q_bareR; rw [h5, h15, h23, if_pos (by rfl), rm_nv_n (n := m1) (by omega), rm_nv_n (n := s1) (by omega), if_pos h43], by unfold q_bareA; rw [h5, h15, h23, if_pos (by rfl), rm_nv_n (n := m1) (by omega), rm_nv_n (n := s1) (by omega), if_pos h43]; rw [rm_nv_n (n := l1) (by omega)]⟩
        · refine rm_aload_n dX8_bare_46 rfl rfl ?_
          refine rm_iconst (v := nI (3)) dX8_bare_47 (by decide) ?_
          refine rm_callV (As := [.int (nI (3))]) (st := []) dX8_bare_48 cvX8_103 rfl rfl (by decide) (zv_cat_i [nI (3)]) (Nat.le_of_ble_eq_true rfl) (cM_refused (d + 1) (a) (nI (3))) (fun v b q => ?_)
          obtain ⟨rfl, rfl⟩ := q
          show rm_V _ _ 51 [.ref 3, .int (nI (m1)), .int (nI (s1)), .int (nI (l1))] [.int ((-1 : Int32))] _ _
          refine rm_iret dX8_bare_51 rfl rfl ?_
          exact ⟨by unfold q_bareR; rw [h5, h15, h23, if_pos (by rfl), rm_nv_n (n := m1) (by omega), rm_nv_n (n := s1) (by omega), if_neg h43], by unfold q_bareA; rw [h5, h15, h23, if_pos (by rfl), rm_nv_n (n := m1) (by omega), rm_nv_n (n := s1) (by omega), if_neg h43]⟩
      · refine rm_aload_n dX8_bare_26 rfl rfl ?_
        refine rm_iconst (v := nI (1)) dX8_bare_27 (by decide) ?_
        refine rm_callV (As := [.int (nI (1))]) (st := []) dX8_bare_28 cvX8_103 rfl rfl (by decide) (zv_cat_i [nI (1)]) (Nat.le_of_ble_eq_true rfl) (cM_refused (d + 1) (a) (nI (1))) (fun v b q => ?_)
        obtain ⟨rfl, rfl⟩ := q
        show rm_V _ _ 31 [.ref 3, .int (nI (m1)), .int (nI (s1)), .int (l)] [.int ((-1 : Int32))] _ _
        refine rm_iret dX8_bare_31 rfl rfl ?_
        exact ⟨by unfold q_bareR; rw [h5, h15, h23]; rw [if_neg (by simp)], by unfold q_bareA; rw [h5, h15, h23]; rw [if_neg (by simp)]⟩
/-- a slot's word: none, a letter with 1 added, or a clock's letter below 0 -/
def rm_sl (a : zv_I) (nl m s : Nat) : Prop := a 27 (40 * m + s) = 0 ∨ (∃ l, l < nl ∧ a 27 (40 * m + s) = nI (l + 1)) ∨ (∃ l, l < nl ∧ a 27 (40 * m + s) = -1 - nI l)
def q_sl (a : zv_I) (t : Int32) : Int32 := if t = 0 then nI 0 else if t < 0 then nI 1 else nI 2 + a 10 (rm_nv (t - nI 1))
def q_slot (a : zv_I) (nm : Nat) (m s : Int32) : Int32 := if (rm_lt m nm && rm_lt s 40) = true then q_sl a (a 27 (40 * rm_nv m + rm_nv s)) else -1
theorem rm_slp {l : Nat} (h : l < 200) : ¬ nI (l + 1) = 0 ∧ ¬ nI (l + 1) < 0 := by
  refine ⟨fun q => by have := rm_nz (by omega) q; omega, fun q => ?_⟩
  have h1 := Int32.lt_iff_toInt_lt.mp q
  rw [nI_toInt (by omega)] at h1
  have h0 : (0 : Int32).toInt = 0 := by decide
  omega
theorem rm_sln_i : ∀ l : Fin 200, ¬ (-1 - nI l.1 : Int32) = 0 ∧ (-1 - nI l.1 : Int32) < 0 ∧ (-1 : Int32) - (-1 - nI l.1) = nI l.1 ∧ ¬ 0 < (-1 - nI l.1 : Int32) := by decide +kernel
theorem rm_sln {l : Nat} (h : l < 200) : ¬ (-1 - nI l : Int32) = 0 ∧ (-1 - nI l : Int32) < 0 ∧ (-1 : Int32) - (-1 - nI l) = nI l ∧ ¬ 0 < (-1 - nI l : Int32) := rm_sln_i ⟨l, h⟩
theorem cM_slot (d : Nat) {a : zv_I} {nm nl : Nat} (hm : a 3 0 = nI nm) (hmb : nm ≤ 8) (hnb : nl ≤ 200) (hsl : ∀ m s, m < nm → s < 40 → rm_sl a nl m s) (m s : Int32) : rm_V mX8_slot (d + 2) 0 [.ref 3, .int m, .int s] [] a (rm_p (q_slot a nm m s) a) := by
  refine rm_aload_n dX8_slot_0 rfl rfl ?_
  refine rm_iload_n dX8_slot_1 rfl rfl ?_
  refine rm_callV (As := [.int (m)]) (st := []) dX8_slot_2 cvX8_113 rfl rfl (by decide) (zv_cat_i [m]) (Nat.le_of_ble_eq_true rfl) (cM_isMember d hm (by omega) (m)) (fun v b q => ?_)
  obtain ⟨rfl, rfl⟩ := q
  show rm_V _ _ 5 [.ref 3, .int (m), .int (s)] [.int (rm_b (rm_lt (m) nm))] _ _
  refine rm_ifB_eq (tgt := 18) dX8_slot_5 (by decide) (fun h5 => ?_) (fun h5 => ?_)
  · refine rm_iconst (v := (-1 : Int32)) dX8_slot_18 (by decide) ?_
    refine rm_iret dX8_slot_19 rfl rfl ?_
    exact ⟨by unfold q_slot; rw [h5]; rfl, rfl⟩
  · obtain ⟨m1, hm1, rfl⟩ := rm_lt_t h5 (by omega)
    refine rm_iload_n dX8_slot_8 rfl rfl ?_
    refine rm_iconst (v := nI (0)) dX8_slot_9 (by decide) ?_
    refine rm_bipush (v := nI (39)) dX8_slot_10 (by decide) ?_
    refine rm_callS (As := [.int (s), .int (nI (0)), .int (nI (39))]) (st := []) dX8_slot_12 csX8_82 rfl (by decide) (zv_cat_i [s, nI (0), nI (39)]) (Nat.le_of_ble_eq_true rfl) (cM_in (d + 1) (a) (s) (nI 0) (nI 39)) (fun v b q => ?_)
    obtain ⟨rfl, rfl⟩ := q
    rw [rm_in01 _ 39 (by decide)]
    show rm_V _ _ 15 [.ref 3, .int (nI (m1)), .int (s)] [.int (rm_b (rm_lt (s) 40))] _ _
    refine rm_ifB_ne (tgt := 20) dX8_slot_15 (by decide) (fun h15 => ?_) (fun h15 => ?_)
    · obtain ⟨s1, hs1, rfl⟩ := rm_lt_t h15 (by omega)
      refine rm_aload_n dX8_slot_20 rfl rfl ?_
      refine rm_getr 23 (t := 27) dX8_slot_21 flX8_69 (by decide) rfl rfl ?_
      refine rm_bipush (v := nI (40)) dX8_slot_24 (by decide) ?_
      refine rm_iload_n dX8_slot_26 rfl rfl ?_
      refine rm_imul dX8_slot_27 ?_
      refine rm_top (pk_mul (40) (m1)) ?_
      refine rm_iload_n dX8_slot_28 rfl rfl ?_
      refine rm_iadd dX8_slot_29 ?_
      refine rm_top (nI_add (40 * m1) (s1)) ?_
      refine rm_iald (f := 23) (j := 40 * m1 + s1) (x := (a 27 (40 * m1 + s1))) dX8_slot_30 rfl (by decide) rfl rfl (rfl) (show 40 * m1 + s1 < 320 from by omega) (rfl) ?_
      rcases hsl m1 s1 (by omega) (by omega) with hg | ⟨l9, hl9, hg⟩ | ⟨l9, hl9, hg⟩
      · rw [hg]
        refine rm_istore_n (lv' := [.ref 3, .int (nI (m1)), .int (nI (s1)), .int (nI (0))]) dX8_slot_31 rfl (by decide) rfl ?_
        refine rm_iload_n dX8_slot_32 rfl rfl ?_
        refine rm_if_ne (tgt := 40) dX8_slot_33 (by decide) (fun h33 => (absurd h33 (by decide))) (fun h33 => ?_)
        refine rm_iconst (v := nI (0)) dX8_slot_36 (by decide) ?_
        refine rm_goto (tgt := 58) dX8_slot_37 (by decide) ?_
        refine rm_iret dX8_slot_58 rfl rfl ?_
        exact ⟨by unfold q_slot; rw [h5, h15, if_pos (by rfl), rm_nv_n (n := m1) (by omega), rm_nv_n (n := s1) (by omega), hg]; unfold q_sl; rw [if_pos rfl], rfl⟩
      · rw [hg]
        have hl9 : l9 < 200 := by omega
        refine rm_istore_n (lv' := [.ref 3, .int (nI (m1)), .int (nI (s1)), .int (nI (l9 + 1))]) dX8_slot_31 rfl (by decide) rfl ?_
        refine rm_iload_n dX8_slot_32 rfl rfl ?_
        refine rm_if_ne (tgt := 40) dX8_slot_33 (by decide) (fun h33 => ?_) (fun h33 => (absurd h33 (rm_slp (by omega)).1))
        refine rm_iload_n dX8_slot_40 rfl rfl ?_
        refine rm_if_ge (tgt := 48) dX8_slot_41 (by decide) (fun h41 => ?_) (fun h41 => (absurd (Int32.not_le.mp h41) (rm_slp (by omega)).2))
        refine rm_iconst (v := nI (2)) dX8_slot_48 (by decide) ?_
        refine rm_aload_n dX8_slot_49 rfl rfl ?_
        refine rm_getr 6 (t := 10) dX8_slot_50 flX8_16 (by decide) rfl rfl ?_
        refine rm_iload_n dX8_slot_53 rfl rfl ?_
        refine rm_iconst (v := nI (1)) dX8_slot_54 (by decide) ?_
        refine rm_isub dX8_slot_55 ?_
        refine rm_top (y := nI (l9)) (nI_pred l9) ?_
        refine rm_iald (f := 6) (j := l9) (x := (a 10 (l9))) dX8_slot_56 rfl (by decide) rfl rfl (rfl) (show l9 < 200 from by omega) (rfl) ?_
        refine rm_iadd dX8_slot_57 ?_
        refine rm_iret dX8_slot_58 rfl rfl ?_
        exact ⟨by unfold q_slot; rw [h5, h15, if_pos (by rfl), rm_nv_n (n := m1) (by omega), rm_nv_n (n := s1) (by omega), hg]; unfold q_sl; rw [if_neg (rm_slp (by omega)).1, if_neg (rm_slp (by omega)).2, show nI (l9 + 1) - nI 1 = nI l9 from nI_pred l9, rm_nv_n (n := l9) (by omega)], rfl⟩
      · rw [hg]
        have hl9 : l9 < 200 := by omega
        refine rm_istore_n (lv' := [.ref 3, .int (nI (m1)), .int (nI (s1)), .int ((-1 - nI l9 : Int32))]) dX8_slot_31 rfl (by decide) rfl ?_
        refine rm_iload_n dX8_slot_32 rfl rfl ?_
        refine rm_if_ne (tgt := 40) dX8_slot_33 (by decide) (fun h33 => ?_) (fun h33 => (absurd h33 (rm_sln (by omega)).1))
        refine rm_iload_n dX8_slot_40 rfl rfl ?_
        refine rm_if_ge (tgt := 48) dX8_slot_41 (by decide) (fun h41 => (absurd (rm_sln (show l9 < 200 by omega)).2.1 (Int32.not_lt.mpr h41))) (fun h41 => ?_)
        refine rm_iconst (v := nI (1)) dX8_slot_44 (by decide) ?_
        refine rm_goto (tgt := 58) dX8_slot_45 (by decide) ?_
        refine rm_iret dX8_slot_58 rfl rfl ?_
        exact ⟨by unfold q_slot; rw [h5, h15, if_pos (by rfl), rm_nv_n (n := m1) (by omega), rm_nv_n (n := s1) (by omega), hg]; unfold q_sl; rw [if_neg (rm_sln hl9).1, if_pos (rm_sln hl9).2.1], rfl⟩
    · refine rm_iconst (v := (-1 : Int32)) dX8_slot_18 (by decide) ?_
      refine rm_iret dX8_slot_19 rfl rfl ?_
      exact ⟨by unfold q_slot; rw [h15, Bool.and_false]; rfl, rfl⟩
