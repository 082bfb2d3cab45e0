/-! THE LAW'S PAIRS -/
def lw_q (ans : Int32) (b : zv_I) (sh0 : zv_S) (I0 : zv_I) (R0 : zv_R) : zv_Q := fun v sh I J R => v = some (.int ans) ∧ (∃ nm nc nl, iQ b nm nc nl ∧ cr_R sh I J R b nm nc nl ∧ cr_F sh nm nc nl) ∧ ∀ t, t < 40 → sh t = sh0 t ∧ I t = I0 t ∧ R t = R0 t
def lw_p (M7 M8 : zv_M) (As : List Value) (E : zv_E) (sh : zv_S) (I : zv_I) (J : zv_J) (R : zv_R) (a : zv_I) : Prop := ∃ (ans : Int32) (b : zv_I), zv_V E M7 40 611 3674 0 (.ref 40 :: As) [] sh I J R (lw_q ans b sh I R) ∧ rm_V M8 40 0 (.ref 3 :: As) [] a (rm_p ans b)
theorem lw_cc {E : zv_E} {sh : zv_S} {I : zv_I} {J : zv_J} {R : zv_R} {a : zv_I} {nm nc nl : Nat} (hQ : iQ a nm nc nl) (RL : cr_R sh I J R a nm nc nl) (FR : cr_F sh nm nc nl) {M7 : zv_M} {As : List Value} {x : Int32} (h : zv_V E M7 40 0 0 0 (.ref 40 :: As) [] sh I J R (cc_p x sh I J R)) : zv_V E M7 40 611 3674 0 (.ref 40 :: As) [] sh I J R (lw_q x a sh I R) := by
  refine zv_mono (Nat.zero_le _) (Nat.zero_le _) (zv_post (fun v s1 I1 J1 R1 q => ?_) h)
  obtain ⟨rfl, rfl, rfl, rfl, rfl⟩ := q
  exact ⟨rfl, ⟨nm, nc, nl, hQ, RL, FR⟩, fun t _ => ⟨rfl, rfl, rfl⟩⟩
theorem lw_cr {E : zv_E} {sh : zv_S} {I : zv_I} {J : zv_J} {R : zv_R} {b : zv_I} {nm nc nl kc ks dd : Nat} {M7 : zv_M} {As : List Value} {x : Int32} (hb : iQ b nm nc nl) (hd : dd ≤ 40) (h1 : kc ≤ 611) (h2 : ks ≤ 3674) (h : zv_V E M7 dd kc ks 0 (.ref 40 :: As) [] sh I J R (cr_Q x b nm nc nl sh I R)) : zv_V E M7 40 611 3674 0 (.ref 40 :: As) [] sh I J R (lw_q x b sh I R) :=
  zv_mono h1 h2 (zv_deep hd (zv_post (fun v s1 I1 J1 R1 q => ⟨q.1, ⟨nm, nc, nl, hb, q.2.1, q.2.2.1⟩, q.2.2.2⟩) h))
theorem lw_member {E : zv_E} {sh : zv_S} {I : zv_I} {J : zv_J} {R : zv_R} {a : zv_I} {nm nc nl : Nat} (hQ : iQ a nm nc nl) (RL : cr_R sh I J R a nm nc nl) (FR : cr_F sh nm nc nl) : lw_p mX7_member mX8_member [] E sh I J R a := by
  have n0 := xI_n0 hQ.1
  have hM := cM_member 39 n0.1 n0.2
  by_cases h8 : nm = 8
  · refine ⟨-1, zv_u a 3 24 (nI 2), lw_cr (iQ_st hQ _) (by decide) (Nat.zero_le _) (Nat.zero_le _) (cC_member_2 0 hQ RL FR h8), ?_⟩
    rw [show q_memR nm = -1 from if_pos h8, show q_memA a nm = zv_u a 3 24 (nI 2) from if_pos h8] at hM
    exact hM
  · have h8' : nm < 8 := by omega
    refine ⟨nI nm, q_memA a nm, ?_, ?_⟩
    · refine zv_mono (kc' := 16) (ks' := 527) (by omega) (by omega) (zv_deep (d' := 4) (by omega) (zv_post (fun v s1 I1 J1 R1 q => ?_) (cC_member_w 0 hQ RL FR h8')))
      obtain ⟨rfl, rfl, rfl, rfl, rfl⟩ := q
      have hr := cr_member RL FR hQ h8'
      exact ⟨rfl, ⟨nm + 1, nc, nl, iQ_mem hQ h8', hr.1, hr.2⟩, fun t ht => ⟨cn_sM_o (by omega), by rw [zv_u_row _ _ _ _ (by omega), zv_u_row _ _ _ _ (by omega), cn_IM_o (by omega)], by rw [zv_u_row _ _ _ _ (by omega), cn_RM_o (by omega)]⟩⟩
    · rw [show q_memR nm = nI nm from if_neg h8] at hM
      exact hM
theorem lw_circle {E : zv_E} {sh : zv_S} {I : zv_I} {J : zv_J} {R : zv_R} {a : zv_I} {nm nc nl : Nat} (hQ : iQ a nm nc nl) (RL : cr_R sh I J R a nm nc nl) (FR : cr_F sh nm nc nl) (x : Int32) : lw_p mX7_circle mX8_circle [.int x] E sh I J R a := by
  have n0 := xI_n0 hQ.1
  have n1 := xI_n1 hQ.1
  have hM := cM_circle 39 n0.1 n0.2 n1.1 n1.2 x
  cases hb : rm_cib x nm with
  | true =>
    refine ⟨-1, zv_u a 3 24 (nI 1), lw_cr (iQ_st hQ _) (by decide) (Nat.zero_le _) (Nat.zero_le _) (cC_circle_1 0 hQ RL FR (fun q => ?_)), ?_⟩
    · rw [(cib_iff n0.2).mpr q] at hb
      cases hb
    · rw [show q_cirR nm nc x = -1 from if_pos hb, show q_cirA a nm nc x = zv_u a 3 24 (nI 1) from if_pos hb] at hM
      exact hM
  | false =>
    have hok := (cib_iff n0.2).mp hb
    have e1 : ¬ rm_cib x nm = true := by rw [hb]; decide
    by_cases h6 : nc = 6
    · refine ⟨-1, zv_u a 3 24 (nI 2), lw_cr (iQ_st hQ _) (by decide) (Nat.zero_le _) (Nat.zero_le _) (cC_circle_2 0 hQ RL FR hok h6), ?_⟩
      rw [show q_cirR nm nc x = -1 from (if_neg e1).trans (if_pos h6), show q_cirA a nm nc x = zv_u a 3 24 (nI 2) from (if_neg e1).trans (if_pos h6)] at hM
      exact hM
    · have h6' : nc < 6 := by omega
      refine ⟨nI nc, q_cirA a nm nc x, ?_, ?_⟩
      · refine zv_mono (kc' := 1) (ks' := 3) (by omega) (by omega) (zv_deep (d' := 2) (by omega) (zv_post (fun v s1 I1 J1 R1 q => ?_) (cC_circle_w 0 hQ RL FR hok h6')))
        obtain ⟨rfl, rfl, rfl, rfl, rfl⟩ := q
        have hr := cr_circle RL FR hQ h6' hb
        exact ⟨rfl, ⟨nm, nc + 1, nl, iQ_cir hQ h6' hb, hr.1, hr.2⟩, fun t ht => ⟨zv_sn_t _ _ (by omega), by rw [zv_u_row _ _ _ _ (by omega), zv_u_row _ _ _ _ (by omega), zv_u_row _ _ _ _ (by omega), zv_u_row _ _ _ _ (by omega), zv_n_t _ _ (by omega)], by rw [zv_u_row _ _ _ _ (by omega), zv_n_t _ _ (by omega)]⟩⟩
      · rw [show q_cirR nm nc x = nI nc from (if_neg e1).trans (if_neg h6)] at hM
        exact hM
theorem may_knw {a : zv_I} {nl w : Nat} {x : Option Nat} (hn : nl ≤ 200) (hx : ∀ y, x = some y → y < nl) : cr_may a nl w (rm_o x) = rm_knw a w x := by
  unfold cr_may
  cases x with
  | none =>
    have h : rm_lt (-1) nl = false := decide_eq_false fun q => absurd q.1 (by decide)
    show (if rm_lt (-1) nl = true then _ else decide ((-1 : Int32) = -1)) = true
    rw [h]
    rfl
  | some y =>
    have hy := hx y rfl
    show (if rm_lt (nI y) nl = true then _ else _) = _
    rw [rm_lt_n (by omega), decide_eq_true hy, if_pos rfl, show rm_o (some y) = nI y from rfl, rm_nv_n (by omega)]
    rfl
theorem lw_call {E : zv_E} {sh : zv_S} {I : zv_I} {J : zv_J} {R : zv_R} {a : zv_I} {nm nc nl : Nat} (hQ : iQ a nm nc nl) (RL : cr_R sh I J R a nm nc nl) (FR : cr_F sh nm nc nl) {k : Nat} (hk : k < 6) (hk3 : k ≠ 3) {x : Option Nat} (hx : ∀ y, x = some y → y < nl) (m e : Int32) : ∃ (ans : Int32) (b : zv_I) (nl' : Nat), iQ b nm nc nl' ∧ zv_V E mX7_writeByCall 38 611 3674 0 [.ref 40, .int m, .int e, .int (nI k), .int (rm_o x)] [] sh I J R (cr_Q ans b nm nc nl' sh I R) ∧ rm_V mX8_call 38 0 [.ref 3, .int (nI k), .int m, .int e, .int (rm_o x), .int (rm_b true)] [] a (rm_p ans b) := by
  have H := hQ.1
  have n0 := xI_n0 H
  have n1 := xI_n1 H
  have n4 := xI_n4 H
  have n5 := xI_n5 H
  cases hb : (rm_lt m nm && rm_lt e nc) with
  | false => exact ⟨-1, zv_u a 3 24 (nI 1), nl, iQ_st hQ _, zv_mono (Nat.zero_le _) (Nat.zero_le _) (cC_wbc_1 37 hQ RL FR hb), cM_call_1 36 n0.1 n0.2 n1.1 n1.2 (by rw [Bool.and_true]; exact hb)⟩
  | true =>
    rw [Bool.and_eq_true] at hb
    obtain ⟨w, hw, rfl⟩ := rm_lt_t hb.1 (by omega)
    obtain ⟨c, hc, rfl⟩ := rm_lt_t hb.2 (by omega)
    by_cases h100 : rm_NA a = 100
    · exact ⟨-1, zv_u a 3 24 (nI 2), nl, iQ_st hQ _, zv_mono (Nat.zero_le _) (Nat.zero_le _) (cC_wbc_2 37 hQ RL FR hw hc h100), cM_call_2 31 n0.1 n0.2 n1.1 n1.2 n4.1 n4.2 n5.1 n5.2 hw hc hx h100⟩
    · have hA : rm_NA a < 100 := by have := n5.2; omega
      have hmay : cr_may a nl w (rm_o x) = rm_knw a w x := may_knw n4.2 hx
      cases hg : (rm_in a w c && rm_knw a w x) with
      | false => exact ⟨-1, zv_u a 3 24 (nI 3), nl, iQ_st hQ _, zv_mono (Nat.zero_le _) (Nat.zero_le _) (cC_wbc_3 35 hQ RL FR hw hc hA (by rw [hmay]; exact hg)), cM_call_3 31 n0.1 n0.2 n1.1 n1.2 n4.1 n4.2 n5.1 n5.2 hw hc hx hA hg⟩
      | true =>
        have hg' := hg
        rw [Bool.and_eq_true] at hg'
        have hP := iQ_c4 (x := rm_o x) hQ hA hw hc hg'.1 hk hk3
        have ht := gvt_201 hP
        have hl := iv_room1 H hA
        obtain ⟨q1, q2⟩ := gvs_iQ (F := 201) (g := 0) hP ht
        have q3 := (xI_n4 q1.1).2
        refine ⟨nI nl, zv_u (rm_gvs w 201 (rm_c4 a nm nc nl (nI k) w c (rm_o x)) 0).1 3 24 (nI 0), rm_NL (rm_gvs w 201 (rm_c4 a nm nc nl (nI k) w c (rm_o x)) 0).1, iQ_st q1 _, zv_mono ?_ ?_ (cC_wbc_0 32 hQ RL FR hw hc hA hg'.1 (by rw [hmay]; exact hg'.2) hP ht), cM_call_0 31 n0.1 n0.2 n1.1 n1.2 n4.1 n4.2 n5.1 n5.2 hw hc hx hA hg hl (fun y hy => xI_bz H nl y hl (by omega) (Or.inr (Nat.le_refl _))) (fun h => ?_) (iP_stay w) (f := 201) (by decide) ⟨nm, nc, nl + 1, hP⟩ ht⟩
        · omega
        · omega
        · rcases xI_la H w c (by omega) (by omega) with z | ⟨l, z1, z2⟩
          · exact absurd z h
          · rw [z2, rm_nv_n (by omega)]
            exact ⟨rfl, by omega⟩
theorem lw_write {E : zv_E} {sh : zv_S} {I : zv_I} {J : zv_J} {R : zv_R} {a : zv_I} {nm nc nl : Nat} (hQ : iQ a nm nc nl) (RL : cr_R sh I J R a nm nc nl) (FR : cr_F sh nm nc nl) (m e k : Int32) : lw_p mX7_write mX8_write [.int m, .int e, .int k] E sh I J R a := by
  have n0 := xI_n0 hQ.1
  have n1 := xI_n1 hQ.1
  by_cases hk : k = 0 ∨ k = nI 4 ∨ k = nI 5
  · have key : ∃ n, n < 6 ∧ n ≠ 3 ∧ k = nI n := by
      rcases hk with h | h | h
      · exact ⟨0, by decide, by decide, h.trans nI_0.symm⟩
      · exact ⟨4, by decide, by decide, h⟩
      · exact ⟨5, by decide, by decide, h⟩
    obtain ⟨n, hn, hn3, rfl⟩ := key
    obtain ⟨ans, b, nl', hb, h7, h8⟩ := lw_call hQ RL FR hn hn3 (x := none) (fun y h => by cases h) m e
    refine ⟨ans, b, lw_cr hb (by decide) (Nat.le_refl _) (Nat.le_refl _) (cC_write_y 38 hQ RL FR hk h7), rm_deep (d' := 39) (by decide) (cM_write 37 ?_)⟩
    rw [decide_eq_true hk]
    exact h8
  · refine ⟨-1, zv_u a 3 24 (nI 1), lw_cr (iQ_st hQ _) (by decide) (Nat.zero_le _) (Nat.zero_le _) (cC_write_n 0 hQ RL FR hk), rm_deep (d' := 39) (by decide) (cM_write 37 ?_)⟩
    rw [decide_eq_false hk]
    exact cM_call_1 36 n0.1 n0.2 n1.1 n1.2 (by rw [Bool.and_false, Bool.and_false])
theorem lw_reply {E : zv_E} {sh : zv_S} {I : zv_I} {J : zv_J} {R : zv_R} {a : zv_I} {nm nc nl : Nat} (hQ : iQ a nm nc nl) (RL : cr_R sh I J R a nm nc nl) (FR : cr_F sh nm nc nl) (m e k : Int32) : lw_p mX7_reply mX8_reply [.int m, .int e, .int k] E sh I J R a := by
  have n0 := xI_n0 hQ.1
  have n1 := xI_n1 hQ.1
  have n4 := xI_n4 hQ.1
  cases hk : rm_lt k nl with
  | true =>
    obtain ⟨y, hy, rfl⟩ := rm_lt_t hk (by omega)
    obtain ⟨ans, b, nl', hb, h7, h8⟩ := lw_call hQ RL FR (k := 1) (by decide) (by decide) (x := some y) (fun z h => by cases h; exact hy) m e
    refine ⟨ans, b, lw_cr hb (by decide) (Nat.le_refl _) (Nat.le_refl _) (cC_reply_y 38 hQ RL FR hk h7), rm_deep (d' := 39) (by decide) (cM_reply 37 n4.1 n4.2 ?_)⟩
    rw [hk]
    exact h8
  | false =>
    refine ⟨-1, zv_u a 3 24 (nI 1), lw_cr (iQ_st hQ _) (by decide) (Nat.zero_le _) (Nat.zero_le _) (cC_reply_n 0 hQ RL FR hk), rm_deep (d' := 39) (by decide) (cM_reply 37 n4.1 n4.2 ?_)⟩
    rw [hk]
    exact cM_call_1 36 n0.1 n0.2 n1.1 n1.2 (by rw [Bool.and_false, Bool.and_false])
theorem lw_seal {E : zv_E} {sh : zv_S} {I : zv_I} {J : zv_J} {R : zv_R} {a : zv_I} {nm nc nl : Nat} (hQ : iQ a nm nc nl) (RL : cr_R sh I J R a nm nc nl) (FR : cr_F sh nm nc nl) (m e k : Int32) : lw_p mX7_seal mX8_seal [.int m, .int e, .int k] E sh I J R a := by
  have n0 := xI_n0 hQ.1
  have n1 := xI_n1 hQ.1
  have n4 := xI_n4 hQ.1
  by_cases hk1 : k = -1
  · subst hk1
    obtain ⟨ans, b, nl', hb, h7, h8⟩ := lw_call hQ RL FR (k := 2) (by decide) (by decide) (x := none) (fun z h => by cases h) m e
    refine ⟨ans, b, lw_cr hb (by decide) (Nat.le_refl _) (Nat.le_refl _) (cC_seal_y 38 hQ RL FR (Or.inl rfl) h7), rm_deep (d' := 39) (by decide) (cM_seal 37 n4.1 n4.2 ?_)⟩
    exact h8
  · cases hk : rm_lt k nl with
    | true =>
      obtain ⟨y, hy, rfl⟩ := rm_lt_t hk (by omega)
      obtain ⟨ans, b, nl', hb, h7, h8⟩ := lw_call hQ RL FR (k := 2) (by decide) (by decide) (x := some y) (fun z h => by cases h; exact hy) m e
      refine ⟨ans, b, lw_cr hb (by decide) (Nat.le_refl _) (Nat.le_refl _) (cC_seal_y 38 hQ RL FR (Or.inr hk) h7), rm_deep (d' := 39) (by decide) (cM_seal 37 n4.1 n4.2 ?_)⟩
      rw [hk, Bool.or_true]
      exact h8
    | false =>
      refine ⟨-1, zv_u a 3 24 (nI 1), lw_cr (iQ_st hQ _) (by decide) (Nat.zero_le _) (Nat.zero_le _) (cC_seal_n 0 hQ RL FR ⟨hk1, hk⟩), rm_deep (d' := 39) (by decide) (cM_seal 37 n4.1 n4.2 ?_)⟩
      rw [hk, decide_eq_false hk1]
      exact cM_call_1 36 n0.1 n0.2 n1.1 n1.2 (by rw [Bool.or_false, Bool.and_false, Bool.and_false])
theorem lw_deliver {E : zv_E} {sh : zv_S} {I : zv_I} {J : zv_J} {R : zv_R} {a : zv_I} {nm nc nl : Nat} (hQ : iQ a nm nc nl) (RL : cr_R sh I J R a nm nc nl) (FR : cr_F sh nm nc nl) (x y : Int32) : lw_p mX7_deliver mX8_deliver [.int x, .int y] E sh I J R a := by
  have H := hQ.1
  have n0 := xI_n0 H
  have n4 := xI_n4 H
  cases hb : (rm_lt x nl && rm_lt y nm) with
  | false => exact ⟨-1, zv_u a 3 24 (nI 1), lw_cr (iQ_st hQ _) (by decide) (Nat.zero_le _) (Nat.zero_le _) (cC_deliver_1 0 hQ RL FR hb), cM_deliver_1 38 n0.1 n0.2 n4.1 n4.2 hb⟩
  | true =>
    rw [Bool.and_eq_true] at hb
    obtain ⟨l, hl, rfl⟩ := rm_lt_t hb.1 (by omega)
    obtain ⟨m, hm, rfl⟩ := rm_lt_t hb.2 (by omega)
    by_cases hs : a 20 (200 * m + l) = nI 1
    · have hP := iQ_hold hQ hm hl hs
      have ht := gvt_201 hP
      obtain ⟨q1, q2⟩ := gvs_iQ (F := 201) (g := 0) hP ht
      have q3 := (xI_n4 q1.1).2
      exact ⟨nI (rm_gvs m 201 (rm_hld a m l) 0).2, zv_u (rm_gvs m 201 (rm_hld a m l) 0).1 3 24 (nI 0), lw_cr (iQ_st q1 _) (by decide) (by omega) (by omega) (cC_deliver_0 0 hQ RL FR hl hm hs ht), cM_deliver_0 33 n0.1 n0.2 n4.1 n4.2 hl hm hs (iP_stay m) (f := 201) (by decide) ⟨nm, nc, nl, hP⟩ ht⟩
    · exact ⟨-1, zv_u a 3 24 (nI 3), lw_cr (iQ_st hQ _) (by decide) (Nat.zero_le _) (Nat.zero_le _) (cC_deliver_3 0 hQ RL FR hl hm hs), cM_deliver_3 38 n0.1 n0.2 n4.1 n4.2 hl hm hs⟩
theorem lw_deliverAll {E : zv_E} {sh : zv_S} {I : zv_I} {J : zv_J} {R : zv_R} {a : zv_I} {nm nc nl : Nat} (hQ : iQ a nm nc nl) (RL : cr_R sh I J R a nm nc nl) (FR : cr_F sh nm nc nl) (x y : Int32) : lw_p mX7_deliverAll mX8_deliverAll [.int x, .int y] E sh I J R a := by
  have H := hQ.1
  have n1 := xI_n1 H
  cases hb : (rm_lt x nc && rm_lt y 2) with
  | false => exact ⟨-1, zv_u a 3 24 (nI 1), lw_cr (iQ_st hQ _) (by decide) (Nat.zero_le _) (Nat.zero_le _) (cC_deliverAll_1 0 hQ RL FR hb), cM_deliverAll_1 38 n1.1 n1.2 hb⟩
  | true =>
    rw [Bool.and_eq_true] at hb
    obtain ⟨c, hc, rfl⟩ := rm_lt_t hb.1 (by omega)
    obtain ⟨wy, hw, rfl⟩ := rm_lt_t hb.2 (by omega)
    have ht := dlt_ok (c := c) hw 1601 a nm nc nl hQ (by omega)
    obtain ⟨q1, q2⟩ := dls_Q (c := c) hw 1601 a nm nc nl 0 hQ
    have q3 := (xI_n4 q1.1).2
    exact ⟨nI (rm_dls 201 c wy 1601 a 0).2, zv_u (rm_dls 201 c wy 1601 a 0).1 3 24 (nI 0), lw_cr (iQ_st q1 _) (by decide) (by omega) (by omega) (cC_deliverAll_0 0 hQ RL FR hc hw ht), cM_deliverAll_0 33 n1.1 n1.2 hc hw (by decide) (by decide) (dst_ok (c := c) (nm := nm) (nc := nc) hw) ⟨nl, hQ⟩ ht⟩
theorem lw_count {E : zv_E} {sh : zv_S} {I : zv_I} {J : zv_J} {R : zv_R} {a : zv_I} {nm nc nl : Nat} (hQ : iQ a nm nc nl) (RL : cr_R sh I J R a nm nc nl) (FR : cr_F sh nm nc nl) (x : Int32) : lw_p mX7_count mX8_count [.int x] E sh I J R a := by
  have H := hQ.1
  have n0 := xI_n0 H
  have n1 := xI_n1 H
  have n4 := xI_n4 H
  exact ⟨_, a, lw_cc hQ RL FR (cC_count 39 RL ⟨n0.1, n1.1, n4.1⟩ x), cM_count 40 a x⟩
theorem lw_told {E : zv_E} {sh : zv_S} {I : zv_I} {J : zv_J} {R : zv_R} {a : zv_I} {nm nc nl : Nat} (hQ : iQ a nm nc nl) (RL : cr_R sh I J R a nm nc nl) (FR : cr_F sh nm nc nl) (x y : Int32) : lw_p mX7_told mX8_told [.int x, .int y] E sh I J R a := by
  have H := hQ.1
  have n0 := xI_n0 H
  have n1 := xI_n1 H
  have n4 := xI_n4 H
  exact ⟨_, a, lw_cc hQ RL FR (cC_told 39 RL x y), cM_told 37 n1.1 n1.2 n4.1 n4.2 x y⟩
theorem lw_circleTold {E : zv_E} {sh : zv_S} {I : zv_I} {J : zv_J} {R : zv_R} {a : zv_I} {nm nc nl : Nat} (hQ : iQ a nm nc nl) (RL : cr_R sh I J R a nm nc nl) (FR : cr_F sh nm nc nl) (x y : Int32) : lw_p mX7_circleTold mX8_circleTold [.int x, .int y] E sh I J R a := by
  have H := hQ.1
  have n0 := xI_n0 H
  have n1 := xI_n1 H
  have n4 := xI_n4 H
  exact ⟨_, a, lw_cc hQ RL FR (cC_circleTold 39 RL (xI_cy H) (xI_ci H) (xI_st H) x y), cM_circleTold 37 n0.1 n0.2 n1.1 n1.2 n4.1 n4.2 (xI_ce H) x y⟩
theorem lw_state {E : zv_E} {sh : zv_S} {I : zv_I} {J : zv_J} {R : zv_R} {a : zv_I} {nm nc nl : Nat} (hQ : iQ a nm nc nl) (RL : cr_R sh I J R a nm nc nl) (FR : cr_F sh nm nc nl) (x y : Int32) : lw_p mX7_state mX8_state [.int x, .int y] E sh I J R a := by
  have H := hQ.1
  have n0 := xI_n0 H
  have n1 := xI_n1 H
  have n4 := xI_n4 H
  have hst : ∀ r l, r < nm → l < nl → cr_st a r l := fun r l h1 h2 => xI_st H r l (by omega) h2
  exact ⟨_, a, lw_cc hQ RL FR (cC_state 37 RL hst x y), cM_state 38 n0.1 n0.2 n4.1 n4.2 x y⟩
theorem lw_given {E : zv_E} {sh : zv_S} {I : zv_I} {J : zv_J} {R : zv_R} {a : zv_I} {nm nc nl : Nat} (hQ : iQ a nm nc nl) (RL : cr_R sh I J R a nm nc nl) (FR : cr_F sh nm nc nl) (x y z : Int32) : lw_p mX7_given mX8_given [.int x, .int y, .int z] E sh I J R a := by
  have H := hQ.1
  have n0 := xI_n0 H
  have n1 := xI_n1 H
  have n4 := xI_n4 H
  exact ⟨_, a, lw_cc hQ RL FR (cC_given 39 RL x y z), cM_given 38 n0.1 n0.2 n1.1 n1.2 x y z⟩
theorem lw_read {E : zv_E} {sh : zv_S} {I : zv_I} {J : zv_J} {R : zv_R} {a : zv_I} {nm nc nl : Nat} (hQ : iQ a nm nc nl) (RL : cr_R sh I J R a nm nc nl) (FR : cr_F sh nm nc nl) (x y : Int32) : lw_p mX7_read mX8_read [.int x, .int y] E sh I J R a := by
  have H := hQ.1
  have n0 := xI_n0 H
  have n1 := xI_n1 H
  have n4 := xI_n4 H
  have hrd : ∀ r, r < nm → a 25 r = nI (rm_nv (a 25 r)) ∧ rm_nv (a 25 r) ≤ 200 := fun r hr => by
    have h1 := xI_rd H r (by omega)
    have h2 := cnt_n (p := fun x => decide (a 20 (200 * r + x) = nI 3)) nl
    rw [h1, rm_nv_n (by omega)]
    exact ⟨rfl, by omega⟩
  exact ⟨_, a, lw_cc hQ RL FR (cC_read 39 RL hrd x y), cM_read 37 n0.1 n0.2 hrd x y⟩
theorem lw_why {E : zv_E} {sh : zv_S} {I : zv_I} {J : zv_J} {R : zv_R} {a : zv_I} {nm nc nl : Nat} (hQ : iQ a nm nc nl) (RL : cr_R sh I J R a nm nc nl) (FR : cr_F sh nm nc nl) (x y z : Int32) : lw_p mX7_why mX8_why [.int x, .int y, .int z] E sh I J R a := by
  have H := hQ.1
  have n0 := xI_n0 H
  have n1 := xI_n1 H
  have n4 := xI_n4 H
  have hst : ∀ r l, r < nm → l < nl → cr_st a r l := fun r l h1 h2 => xI_st H r l (by omega) h2
  exact ⟨_, a, lw_cc hQ RL FR (cC_why 36 RL hst (fun r l h1 h2 => cr_flk RL H h1 h2) (cr_whyE RL hQ) x y z), cM_why 36 n0.1 n0.2 n1.1 n1.2 n4.1 n4.2 (fun l hl => iP_lw H (by omega) hl) x y z⟩
theorem lw_late {E : zv_E} {sh : zv_S} {I : zv_I} {J : zv_J} {R : zv_R} {a : zv_I} {nm nc nl : Nat} (hQ : iQ a nm nc nl) (RL : cr_R sh I J R a nm nc nl) (FR : cr_F sh nm nc nl) (x : Int32) : lw_p mX7_late mX8_late [.int x] E sh I J R a := by
  have H := hQ.1
  have n0 := xI_n0 H
  have n1 := xI_n1 H
  have n4 := xI_n4 H
  exact ⟨_, a, lw_cc hQ RL FR (cC_late 38 RL x), cM_late 38 n0.1 n0.2 n4.1 n4.2 x⟩
theorem lw_behind {E : zv_E} {sh : zv_S} {I : zv_I} {J : zv_J} {R : zv_R} {a : zv_I} {nm nc nl : Nat} (hQ : iQ a nm nc nl) (RL : cr_R sh I J R a nm nc nl) (FR : cr_F sh nm nc nl) (x y : Int32) : lw_p mX7_behind mX8_behind [.int x, .int y] E sh I J R a := by
  have H := hQ.1
  have n0 := xI_n0 H
  have n1 := xI_n1 H
  have n4 := xI_n4 H
  have hib : ∀ x y, x < nl → x ≤ y → y < nl → a 26 (200 * x + y) = 0 := fun x y h1 h2 h3 => xI_bz H x y (by omega) (by omega) (Or.inl h2)
  exact ⟨_, a, lw_cc hQ RL FR (cC_behind 39 RL hib x y), cM_behind 38 n4.1 n4.2 x y⟩
theorem lw_past {E : zv_E} {sh : zv_S} {I : zv_I} {J : zv_J} {R : zv_R} {a : zv_I} {nm nc nl : Nat} (hQ : iQ a nm nc nl) (RL : cr_R sh I J R a nm nc nl) (FR : cr_F sh nm nc nl) (x : Int32) : lw_p mX7_past mX8_past [.int x] E sh I J R a := by
  have H := hQ.1
  have n0 := xI_n0 H
  have n1 := xI_n1 H
  have n4 := xI_n4 H
  exact ⟨_, a, lw_cc hQ RL FR (cC_past 38 RL H x), cM_past 38 n4.1 n4.2 x⟩
theorem lw_trace {E : zv_E} {sh : zv_S} {I : zv_I} {J : zv_J} {R : zv_R} {a : zv_I} {nm nc nl : Nat} (hQ : iQ a nm nc nl) (RL : cr_R sh I J R a nm nc nl) (FR : cr_F sh nm nc nl) (x : Int32) : lw_p mX7_trace mX8_trace [.int x] E sh I J R a := by
  have H := hQ.1
  have n0 := xI_n0 H
  have n1 := xI_n1 H
  have n4 := xI_n4 H
  exact ⟨_, a, lw_cc hQ RL FR (cC_trace 39 RL (xI_nt H) x), cM_trace 39 (xI_nt H) x⟩
theorem lw_slot {E : zv_E} {sh : zv_S} {I : zv_I} {J : zv_J} {R : zv_R} {a : zv_I} {nm nc nl : Nat} (hQ : iQ a nm nc nl) (RL : cr_R sh I J R a nm nc nl) (FR : cr_F sh nm nc nl) (x y : Int32) : lw_p mX7_slot mX8_slot [.int x, .int y] E sh I J R a := by
  have H := hQ.1
  have n0 := xI_n0 H
  have n1 := xI_n1 H
  have n4 := xI_n4 H
  have hsl : ∀ m s, m < nm → s < 40 → rm_sl a nl m s := fun m s h1 h2 => xI_sl H m s (by omega) h2
  exact ⟨_, a, lw_cc hQ RL FR (cC_slot 39 RL hsl x y), cM_slot 38 n0.1 n0.2 n4.2 hsl x y⟩
theorem lw_status {E : zv_E} {sh : zv_S} {I : zv_I} {J : zv_J} {R : zv_R} {a : zv_I} {nm nc nl : Nat} (hQ : iQ a nm nc nl) (RL : cr_R sh I J R a nm nc nl) (FR : cr_F sh nm nc nl) : lw_p mX7_status mX8_status [] E sh I J R a := by
  have h := cC_status 40 (E := E) (I := I) (J := J) (xR_B RL).1.1
  rw [xT_st (xR_T RL)] at h
  exact ⟨_, a, lw_cc hQ RL FR h, cM_status 40 a⟩
theorem lw_chain {E : zv_E} {sh : zv_S} {I : zv_I} {J : zv_J} {R : zv_R} {a : zv_I} {nm nc nl : Nat} (hQ : iQ a nm nc nl) (RL : cr_R sh I J R a nm nc nl) (FR : cr_F sh nm nc nl) (x y : Int32) : lw_p mX7_chain mX8_chain [.int x, .int y] E sh I J R a := by
  have H := hQ.1
  have n0 := xI_n0 H
  have n1 := xI_n1 H
  have n4 := xI_n4 H
  have hib : ∀ x y, x < nl → x ≤ y → y < nl → a 26 (200 * x + y) = 0 := fun x y h1 h2 h3 => xI_bz H x y (by omega) (by omega) (Or.inl h2)
  refine ⟨_, q_chA a nl x y, zv_mono (Nat.zero_le _) (Nat.zero_le _) (zv_post (fun v s1 I1 J1 R1 q => ?_) (cC_chain 38 RL hib (xI_bt H) x y)), cM_chain 38 n4.1 n4.2 x y⟩
  obtain ⟨rfl, rfl, q3, rfl, rfl⟩ := q
  exact ⟨rfl, ⟨nm, nc, nl, iQ_chain hQ x y, cr_chain RL H q3 x y, FR⟩, fun t ht => ⟨rfl, q3 t (by omega), rfl⟩⟩
theorem lw_act {E : zv_E} {sh : zv_S} {I : zv_I} {J : zv_J} {R : zv_R} {a : zv_I} {nm nc nl : Nat} (hQ : iQ a nm nc nl) (RL : cr_R sh I J R a nm nc nl) (FR : cr_F sh nm nc nl) (x w z : Int32) : lw_p mX7_act mX8_act [.int x, .int w, .int z] E sh I J R a := by
  have H := hQ.1
  have n0 := xI_n0 H
  have n1 := xI_n1 H
  have n4 := xI_n4 H
  refine ⟨_, q_actA a nc nl x w z, zv_mono (Nat.zero_le _) (Nat.zero_le _) (zv_post (fun v s1 I1 J1 R1 q => ?_) (cC_act 31 RL (xI_lk H) x w z)), cM_act 32 n1.1 n1.2 n4.1 n4.2 (xI_lk H) x w z⟩
  obtain ⟨rfl, rfl, rfl, rfl, rfl⟩ := q
  have h := cr_act RL hQ x w z
  exact ⟨rfl, ⟨nm, nc, nl, h.2.1, h.1, FR⟩, fun t ht => ⟨rfl, h.2.2 t ht, rfl⟩⟩
theorem lw_bare {E : zv_E} {sh : zv_S} {I : zv_I} {J : zv_J} {R : zv_R} {a : zv_I} {nm nc nl : Nat} (hQ : iQ a nm nc nl) (RL : cr_R sh I J R a nm nc nl) (FR : cr_F sh nm nc nl) (x y z : Int32) : lw_p mX7_bare mX8_bare [.int x, .int y, .int z] E sh I J R a := by
  have H := hQ.1
  have n0 := xI_n0 H
  have n1 := xI_n1 H
  have n4 := xI_n4 H
  have hsl : ∀ m s, m < nm → s < 40 → rm_sl a nl m s := fun m s h1 h2 => xI_sl H m s (by omega) h2
  refine ⟨_, q_bareA a nm nl x y z, zv_mono (Nat.zero_le _) (Nat.zero_le _) (zv_post (fun v s1 I1 J1 R1 q => ?_) (cC_bare 39 RL hsl x y z)), cM_bare 38 n0.1 n0.2 n4.1 n4.2 x y z⟩
  obtain ⟨rfl, rfl, rfl, rfl, rfl⟩ := q
  have h := cr_bare RL hQ x y z
  exact ⟨rfl, ⟨nm, nc, nl, h.2.1, h.1, FR⟩, fun t ht => ⟨rfl, (h.2.2 t ht).1, (h.2.2 t ht).2⟩⟩
theorem lw_forge {E : zv_E} {sh : zv_S} {I : zv_I} {J : zv_J} {R : zv_R} {a : zv_I} {nm nc nl : Nat} (hQ : iQ a nm nc nl) (RL : cr_R sh I J R a nm nc nl) (FR : cr_F sh nm nc nl) (x y z n : Int32) : lw_p mX7_forge mX8_forge [.int x, .int y, .int z, .int n] E sh I J R a := by
  have H := hQ.1
  have n0 := xI_n0 H
  have n1 := xI_n1 H
  have n4 := xI_n4 H
  have hsl : ∀ m s, m < nm → s < 40 → rm_sl a nl m s := fun m s h1 h2 => xI_sl H m s (by omega) h2
  have hhr : ∀ l, l < nl → rm_hr a l := fun l hl => by
    have h1 := xI_rc H l hl
    have h2 := (xI_lc H l hl).2
    unfold rm_hr rm_fr
    cases hf : rm_fst (rm_row a l) 6 0 with
    | none =>
      rw [rm_fst_none.mp hf (rm_ci a l) (Nat.zero_le _) (by omega)] at h1
      cases h1
    | some j => rfl
  refine ⟨_, zv_u a 3 24 (q_fg a nm x y z n).2, zv_mono (Nat.zero_le _) (Nat.zero_le _) (zv_post (fun v s1 I1 J1 R1 q => ?_) (cC_forge 37 RL hsl (xI_lk H) hhr x y z n)), cM_forge 37 n0.1 n0.2 n4.2 hsl (xI_lk H) hhr x y z n⟩
  obtain ⟨rfl, rfl, rfl, rfl, rfl⟩ := q
  exact ⟨rfl, ⟨nm, nc, nl, iQ_st hQ _, cr_sts RL H _, FR⟩, fun t ht => ⟨rfl, zv_u_row _ _ _ _ (by omega), rfl⟩⟩
