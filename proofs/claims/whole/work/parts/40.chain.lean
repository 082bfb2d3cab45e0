/-- the class's search for the longest row before a letter -/
def cr_li (B : Nat → Bool) (g : Nat → Nat) : Nat → Nat → Nat → Nat
  | 0, _, cur => cur
  | n + 1, y, cur => cr_li B g n (y + 1) (if (decide (cur < g y) && B y) = true then g y else cur)
theorem cr_li_le {B : Nat → Bool} {g : Nat → Nat} {X : Nat} (hg : ∀ z, g z ≤ X) : ∀ n y cur, cur ≤ X → cr_li B g n y cur ≤ X
  | 0, _, _, h => h
  | n + 1, y, cur, h => cr_li_le hg n (y + 1) _ (by have := hg y; split <;> omega)
theorem cr_li_m {B : Nat → Bool} {g : Nat → Nat} : ∀ n y cur, rm_li B g n y (cur + 1) = cr_li B g n y cur + 1
  | 0, _, _ => rfl
  | n + 1, y, cur => by
    show rm_li B g n (y + 1) (if (B y && (decide (0 < g y) && decide (cur + 1 ≤ g y))) = true then g y + 1 else cur + 1) = cr_li B g n (y + 1) (if (decide (cur < g y) && B y) = true then g y else cur) + 1
    by_cases h : cur < g y
    · cases hb : B y with
      | true => rw [decide_eq_true h, decide_eq_true (show 0 < g y by omega), decide_eq_true (show cur + 1 ≤ g y by omega)]; exact cr_li_m n (y + 1) (g y)
      | false => rw [Bool.and_false, Bool.false_and, if_neg (by decide), if_neg (by decide), cr_li_m n (y + 1) cur]
    · rw [decide_eq_false h, decide_eq_false (show ¬ cur + 1 ≤ g y by omega), Bool.and_false, Bool.and_false, Bool.false_and, if_neg (by decide), if_neg (by decide), cr_li_m n (y + 1) cur]
theorem rm_li_0 {B : Nat → Bool} {g : Nat → Nat} : ∀ n y, (∀ z, y ≤ z → z < y + n → B z = true → g z = 0) → rm_li B g n y 0 = 0
  | 0, _, _ => rfl
  | n + 1, y, h => by
    show rm_li B g n (y + 1) (if (B y && (decide (0 < g y) && decide (0 ≤ g y))) = true then g y + 1 else 0) = 0
    cases hb : B y with
    | true =>
      rw [decide_eq_false (show ¬ 0 < g y by rw [h y (Nat.le_refl _) (by omega) hb]; omega), Bool.false_and, Bool.and_false, if_neg (by decide)]
      exact rm_li_0 n (y + 1) fun z h1 h2 => h z (by omega) (by omega)
    | false =>
      rw [Bool.false_and, if_neg (by decide)]
      exact rm_li_0 n (y + 1) fun z h1 h2 => h z (by omega) (by omega)
theorem rm_lg_st {B : Nat → Nat → Bool} {s z : Nat} : ∀ X, z < X → rm_lg B s X z = rm_lg B s (z + 1) z
  | 0, h => absurd h (by omega)
  | X + 1, h => by
    by_cases e : z = X
    · rw [e]
    · have : rm_lg B s (X + 1) z = rm_lg B s X z := if_neg e
      rw [this]
      exact rm_lg_st X (by omega)
/-- longest of z, as the model has it -/
def cr_lg (B : Nat → Nat → Bool) (s z : Nat) : Nat := rm_lg B s (z + 1) z
theorem cr_lg_e {B : Nat → Nat → Bool} {s z : Nat} : cr_lg B s z = rm_li (B z) (cr_lg B s) (z - s) s (if z = s then 1 else 0) := by
  have h : ∀ n y cur, y + n ≤ z → rm_li (B z) (rm_lg B s z) n y cur = rm_li (B z) (cr_lg B s) n y cur := by
    intro n
    induction n with
    | zero => intro y cur _; rfl
    | succ n ih =>
      intro y cur hy
      show rm_li (B z) (rm_lg B s z) n (y + 1) (if (B z y && (decide (0 < rm_lg B s z y) && decide (cur ≤ rm_lg B s z y))) = true then rm_lg B s z y + 1 else cur) = rm_li (B z) (cr_lg B s) n (y + 1) (if (B z y && (decide (0 < cr_lg B s y) && decide (cur ≤ cr_lg B s y))) = true then cr_lg B s y + 1 else cur)
      rw [show rm_lg B s z y = cr_lg B s y from rm_lg_st z (by omega)]
      exact ih (y + 1) _ (by omega)
  have e : cr_lg B s z = rm_li (B z) (rm_lg B s z) (z - s) s (if z = s then 1 else 0) := if_pos rfl
  rw [e]
  by_cases q : s ≤ z
  · exact h _ _ _ (by omega)
  · rw [show z - s = 0 by omega]
    rfl
theorem cr_lg_s {B : Nat → Nat → Bool} {s : Nat} : cr_lg B s s = 1 := by
  rw [cr_lg_e, Nat.sub_self, if_pos rfl]
  rfl
theorem cr_lg_le {B : Nat → Nat → Bool} {s z : Nat} : cr_lg B s z ≤ z + 1 := rm_lg_le (z + 1) z
/-- not behind s: nothing -/
theorem cr_lg_n {B : Nat → Nat → Bool} {s : Nat} (T : ∀ x y, s < y → y < x → B x y = true → B y s = true → B x s = true) : ∀ z, s < z → B z s = false → cr_lg B s z = 0 := by
  intro z
  induction z using Nat.strongRecOn with
  | ind z ih =>
    intro hz hb
    rw [cr_lg_e, if_neg (show ¬ z = s by omega)]
    refine rm_li_0 _ _ fun y h1 h2 hy => ?_
    by_cases e : y = s
    · rw [e] at hy; rw [hy] at hb; cases hb
    · cases hq : B y s with
      | true => rw [T z y (by omega) (by omega) hy hq] at hb; cases hb
      | false => exact ih y (by omega) (by omega) hq
/-- behind s: as the class counts it -/
theorem cr_lg_y {B : Nat → Nat → Bool} {s z : Nat} (hz : s < z) (hb : B z s = true) : cr_lg B s z = cr_li (B z) (cr_lg B s) (z - s) s 1 + 1 := by
  rw [cr_lg_e, if_neg (show ¬ z = s by omega)]
  obtain ⟨n, hn⟩ : ∃ n, z - s = n + 1 := ⟨z - s - 1, by omega⟩
  rw [hn]
  show rm_li (B z) (cr_lg B s) n (s + 1) (if (B z s && (decide (0 < cr_lg B s s) && decide (0 ≤ cr_lg B s s))) = true then cr_lg B s s + 1 else 0) = cr_li (B z) (cr_lg B s) n (s + 1) (if (decide (1 < cr_lg B s s) && B z s) = true then cr_lg B s s else 1) + 1
  rw [cr_lg_s, hb]
  exact cr_li_m n (s + 1) 1
theorem cC_longestRowTo_l (d : Nat) {E : zv_E} {sh : zv_S} {I : zv_I} {J : zv_J} {R : zv_R} {nm nc nl i s : Nat} (W : cc_W sh R nm nc nl) (hi : i < nl) (hnl : nl ≤ 200) (hs : s < i) {B : Nat → Bool} (hB : ∀ z, z < i → cs_bit (J (302 + 3 * i)) z = B z) {g : Nat → Nat} (hg : ∀ z, s ≤ z → z < i → I 44 z = nI (g z)) (hgb : ∀ z, g z ≤ z + 1) : ∀ n k cur, k + n = i → s ≤ k → cur ≤ 201 → zv_V E mX7_longestRowTo (d + 1) 0 0 26 [.ref 40, .int (nI i), .int (nI s), .ref (301 + 3 * i), .int (nI cur), .int (nI k)] [] sh I J R (cc_p (nI (cr_li B g n k cur + 1)) sh I J R) := by
  intro n
  induction n with
  | zero =>
    intro k cur hk hsk hcu
    refine zv_iload dX7_longestRowTo_26 rfl ?_
    refine zv_iload_n dX7_longestRowTo_28 rfl rfl ?_
    refine zv_icN_ge (tgt := 68) dX7_longestRowTo_29 (by decide) (by omega) (by omega) (fun h29 => ?_) (fun h29 => (absurd h29 (by omega)))
    refine zv_iload dX7_longestRowTo_68 rfl ?_
    refine zv_iconst (v := nI (1)) dX7_longestRowTo_70 (by decide) ?_
    refine zv_iadd dX7_longestRowTo_71 ?_
    refine cc_top (nI_add (cur) (1)) ?_
    refine zv_iret dX7_longestRowTo_72 rfl rfl ?_
    exact ⟨rfl, rfl, rfl, rfl, rfl⟩
  | succ n ih =>
    intro k cur hk hsk hcu
    have hgk := hgb k
    refine zv_iload dX7_longestRowTo_26 rfl ?_
    refine zv_iload_n dX7_longestRowTo_28 rfl rfl ?_
    refine zv_icN_ge (tgt := 68) dX7_longestRowTo_29 (by decide) (by omega) (by omega) (fun h29 => (absurd h29 (by omega))) (fun h29 => ?_)
    refine zv_aload_n dX7_longestRowTo_32 rfl rfl ?_
    refine zv_getr 6 3 (u := 44) dX7_longestRowTo_33 flX7_27 (wW0_s40 W.1) rfl (wW0_r3 W.1) ?_
    refine zv_iload dX7_longestRowTo_36 rfl ?_
    refine zv_iald (j := k) (x := nI (g k)) dX7_longestRowTo_38 (wW0_s44 W.1) (rfl) (show k < 200 from by omega) (by decide) (hg k hsk (by omega)) ?_
    refine zv_iload dX7_longestRowTo_39 rfl ?_
    refine zv_icN_le (tgt := 62) dX7_longestRowTo_41 (by decide) (by omega) (by omega) (fun h41 => ?_) (fun h41 => ?_)
    · refine zv_iinc (v := nI (k + 1)) (lv' := [.ref 40, .int (nI (i)), .int (nI (s)), .ref (301 + 3 * i), .int (nI (cur)), .int (nI (k + 1))]) dX7_longestRowTo_62 rfl (nI_add (k) 1) (by decide) rfl ?_
      refine zv_goto (tgt := 26) dX7_longestRowTo_65 (by decide) ?_
      have e0 : cr_li B g (n + 1) k cur = cr_li B g n (k + 1) (cur) := by show cr_li B g n (k + 1) (if (decide (cur < g k) && B k) = true then g k else cur) = _; rw [decide_eq_false (show ¬ cur < g k by omega)]; rfl
      rw [e0]
      exact ih (k + 1) (cur) (by omega) (by omega) hcu
    · refine zv_aload_n dX7_longestRowTo_44 rfl rfl ?_
      refine zv_iload dX7_longestRowTo_45 rfl ?_
      refine cc_callV (As := [.int (nI (k))]) (st := []) (c := 4) dX7_longestRowTo_47 cvX7_173 (wWL_s7 (W.2.2.2 i hi).2) rfl rfl rfl (by decide) (cc_c1 rfl cc_c0) (Nat.le_of_ble_eq_true rfl) (cC_has (d) (wWL_s7 (W.2.2.2 i hi).2) (wWL_w (W.2.2.2 i hi).2) (wWL_sw (W.2.2.2 i hi).2) (n := k) (by omega)) (fun v s1 I1 J1 R1 q => ?_)
      obtain ⟨rfl, rfl, rfl, rfl, rfl⟩ := q
      rw [hB k (by omega)]
      show zv_V _ _ _ _ _ 50 [.ref 40, .int (nI (i)), .int (nI (s)), .ref (301 + 3 * i), .int (nI (cur)), .int (nI (k))] [.int (rm_b (B k))] _ _ _ _ _
      refine zv_ifB_eq (tgt := 62) dX7_longestRowTo_50 (by decide) (fun h50 => ?_) (fun h50 => ?_)
      · refine zv_iinc (v := nI (k + 1)) (lv' := [.ref 40, .int (nI (i)), .int (nI (s)), .ref (301 + 3 * i), .int (nI (cur)), .int (nI (k + 1))]) dX7_longestRowTo_62 rfl (nI_add (k) 1) (by decide) rfl ?_
        refine zv_goto (tgt := 26) dX7_longestRowTo_65 (by decide) ?_
        have e0 : cr_li B g (n + 1) k cur = cr_li B g n (k + 1) (cur) := by show cr_li B g n (k + 1) (if (decide (cur < g k) && B k) = true then g k else cur) = _; rw [h50, Bool.and_false]; rfl
        rw [e0]
        exact ih (k + 1) (cur) (by omega) (by omega) hcu
      · refine zv_aload_n dX7_longestRowTo_53 rfl rfl ?_
        refine zv_getr 6 3 (u := 44) dX7_longestRowTo_54 flX7_27 (wW0_s40 W.1) rfl (wW0_r3 W.1) ?_
        refine zv_iload dX7_longestRowTo_57 rfl ?_
        refine zv_iald (j := k) (x := nI (g k)) dX7_longestRowTo_59 (wW0_s44 W.1) (rfl) (show k < 200 from by omega) (by decide) (hg k hsk (by omega)) ?_
        refine zv_istore (lv' := [.ref 40, .int (nI (i)), .int (nI (s)), .ref (301 + 3 * i), .int (nI (g k)), .int (nI (k))]) dX7_longestRowTo_60 (by decide) rfl ?_
        refine zv_iinc (v := nI (k + 1)) (lv' := [.ref 40, .int (nI (i)), .int (nI (s)), .ref (301 + 3 * i), .int (nI (g k)), .int (nI (k + 1))]) dX7_longestRowTo_62 rfl (nI_add (k) 1) (by decide) rfl ?_
        refine zv_goto (tgt := 26) dX7_longestRowTo_65 (by decide) ?_
        have e0 : cr_li B g (n + 1) k cur = cr_li B g n (k + 1) (g k) := by show cr_li B g n (k + 1) (if (decide (cur < g k) && B k) = true then g k else cur) = _; rw [h50, decide_eq_true (show cur < g k by omega)]; rfl
        rw [e0]
        exact ih (k + 1) (g k) (by omega) (by omega) (by omega)
theorem cC_longestRowTo (d : Nat) {E : zv_E} {sh : zv_S} {I : zv_I} {J : zv_J} {R : zv_R} {nm nc nl i s : Nat} (W : cc_W sh R nm nc nl) (hi : i < nl) (hnl : nl ≤ 200) (hs : s < i) {B : Nat → Bool} (hB : ∀ z, z < i → cs_bit (J (302 + 3 * i)) z = B z) {g : Nat → Nat} (hg : ∀ z, s ≤ z → z < i → I 44 z = nI (g z)) (hgb : ∀ z, g z ≤ z + 1) : zv_V E mX7_longestRowTo (d + 1) 0 0 0 [.ref 40, .int (nI i), .int (nI s)] [] sh I J R (cc_p (if B s = true then nI (cr_li B g (i - s) s 1 + 1) else nI 0) sh I J R) := by
  refine zv_aload_n dX7_longestRowTo_0 rfl rfl ?_
  refine zv_getr 6 2 (u := 43) dX7_longestRowTo_1 flX7_23 (wW0_s40 W.1) rfl (wW0_r2 W.1) ?_
  refine zv_iload_n dX7_longestRowTo_4 rfl rfl ?_
  refine zv_aald (j := i) (o := some (300 + 3 * i)) dX7_longestRowTo_5 (wW0_s43 W.1) (by decide) (by decide) (rfl) (show i < 200 from by omega) (by decide) ((W.2.2.2 i hi).1) ?_
  show zv_V _ _ _ _ _ 6 [.ref 40, .int (nI (i)), .int (nI (s))] [.ref (300 + 3 * i)] _ _ _ _ _
  refine zv_getr 2 7 (u := 301 + 3 * i) dX7_longestRowTo_6 flX7_169 (wWL_s (W.2.2.2 i hi).2) rfl (wWL_r7 (W.2.2.2 i hi).2) ?_
  refine zv_astore_n (lv' := [.ref 40, .int (nI (i)), .int (nI (s)), .ref (301 + 3 * i)]) dX7_longestRowTo_9 rfl (by decide) rfl ?_
  refine zv_aload_n dX7_longestRowTo_10 rfl rfl ?_
  refine zv_iload_n dX7_longestRowTo_11 rfl rfl ?_
  refine cc_callV (As := [.int (nI (s))]) (st := []) (c := 4) dX7_longestRowTo_12 cvX7_173 (wWL_s7 (W.2.2.2 i hi).2) rfl rfl rfl (by decide) (cc_c1 rfl cc_c0) (Nat.le_of_ble_eq_true rfl) (cC_has (d) (wWL_s7 (W.2.2.2 i hi).2) (wWL_w (W.2.2.2 i hi).2) (wWL_sw (W.2.2.2 i hi).2) (n := s) (by omega)) (fun v s1 I1 J1 R1 q => ?_)
  obtain ⟨rfl, rfl, rfl, rfl, rfl⟩ := q
  rw [hB s (by omega)]
  show zv_V _ _ _ _ _ 15 [.ref 40, .int (nI (i)), .int (nI (s)), .ref (301 + 3 * i)] [.int (rm_b (B s))] _ _ _ _ _
  refine zv_ifB_ne (tgt := 20) dX7_longestRowTo_15 (by decide) (fun h15 => ?_) (fun h15 => ?_)
  · refine zv_iconst (v := nI (1)) dX7_longestRowTo_20 (by decide) ?_
    refine zv_istore (lv' := [.ref 40, .int (nI (i)), .int (nI (s)), .ref (301 + 3 * i), .int (nI (1))]) dX7_longestRowTo_21 (by decide) rfl ?_
    refine zv_iload_n dX7_longestRowTo_23 rfl rfl ?_
    refine zv_istore (lv' := [.ref 40, .int (nI (i)), .int (nI (s)), .ref (301 + 3 * i), .int (nI (1)), .int (nI (s))]) dX7_longestRowTo_24 (by decide) rfl ?_
    rw [if_pos h15]
    exact cC_longestRowTo_l d W hi hnl hs hB hg hgb (i - s) s 1 (by omega) (Nat.le_refl _) (by omega)
  · refine zv_iconst (v := nI (0)) dX7_longestRowTo_18 (by decide) ?_
    refine zv_iret dX7_longestRowTo_19 rfl rfl ?_
    rw [if_neg (by rw [h15]; decide)]
    exact ⟨rfl, rfl, rfl, rfl, rfl⟩
def cr_q44 (x : Int32) (sh : zv_S) (I : zv_I) (J : zv_J) (R : zv_R) : zv_Q := fun v sh' I' J' R' => v = some (.int x) ∧ sh = sh' ∧ (∀ t, t ≠ 44 → I' t = I t) ∧ J = J' ∧ R = R' 
theorem cr_row {a : zv_I} {nl s k : Nat} (T : ∀ x y, s < y → y < x → x < nl → rm_BB a x y = true → rm_BB a y s = true → rm_BB a x s = true) (hk : s < k) (hn : k < nl) : (if (fun y => (fun x y => decide (x < nl) && rm_BB a x y) k y) s = true then nI (cr_li (fun y => (fun x y => decide (x < nl) && rm_BB a x y) k y) (cr_lg (fun x y => decide (x < nl) && rm_BB a x y) s) (k - s) s 1 + 1) else nI 0) = nI (cr_lg (fun x y => decide (x < nl) && rm_BB a x y) s k) := by
  cases hq : (fun x y => decide (x < nl) && rm_BB a x y) k s with
  | true =>
    rw [if_pos hq, cr_lg_y hk hq]
  | false =>
    rw [if_neg (fun q => absurd (hq.symm.trans q) (by decide)), cr_lg_n (fun x y h1 h2 h3 h4 => ?_) k hk hq]
    have h5 := (Bool.and_eq_true _ _).mp h3
    have h6 := (Bool.and_eq_true _ _).mp h4
    exact (Bool.and_eq_true _ _).mpr ⟨h5.1, T x y h1 h2 (of_decide_eq_true h5.1) h5.2 h6.2⟩
theorem cC_chain_l (d : Nat) {E : zv_E} {sh : zv_S} {I0 : zv_I} {J : zv_J} {R : zv_R} {a : zv_I} {nm nc nl s b : Nat} (W : cc_W sh R nm nc nl) (hnl : nl ≤ 200) (hs : s < b) (hb : b < nl) (hbf : ∀ i z, i < nl → z < i → cs_bit (J (302 + 3 * i)) z = rm_BB a i z) (T : ∀ x y, s < y → y < x → x < nl → rm_BB a x y = true → rm_BB a y s = true → rm_BB a x s = true) : ∀ n k I, k + n = b + 1 → s < k → (∀ z, s ≤ z → z < k → I 44 z = nI (cr_lg (fun x y => decide (x < nl) && rm_BB a x y) s z)) → (∀ t, t ≠ 44 → I t = I0 t) → zv_V E mX7_chain (d + 2) 0 0 47 [.ref 40, .int (nI s), .int (nI b), .int (nI k)] [] sh I J R (cr_q44 (nI (cr_lg (fun x y => decide (x < nl) && rm_BB a x y) s b)) sh I0 J R) := by
  intro n
  induction n with
  | zero =>
    intro k I hk hsk hg hI
    refine zv_iload_n dX7_chain_47 rfl rfl ?_
    refine zv_iload_n dX7_chain_48 rfl rfl ?_
    refine zv_icN_gt (tgt := 70) dX7_chain_49 (by decide) (by omega) (by omega) (fun h49 => ?_) (fun h49 => (absurd h49 (by omega)))
    refine zv_aload_n dX7_chain_70 rfl rfl ?_
    refine zv_getr 6 3 (u := 44) dX7_chain_71 flX7_27 (wW0_s40 W.1) rfl (wW0_r3 W.1) ?_
    refine zv_iload_n dX7_chain_74 rfl rfl ?_
    refine zv_iald (j := b) (x := nI (cr_lg (fun x y => decide (x < nl) && rm_BB a x y) s b)) dX7_chain_75 (wW0_s44 W.1) (rfl) (show b < 200 from by omega) (by decide) (hg b (by omega) (by omega)) ?_
    refine zv_iret dX7_chain_76 rfl rfl ?_
    exact ⟨rfl, rfl, hI, rfl, rfl⟩
  | succ n ih =>
    intro k I hk hsk hg hI
    refine zv_iload_n dX7_chain_47 rfl rfl ?_
    refine zv_iload_n dX7_chain_48 rfl rfl ?_
    refine zv_icN_gt (tgt := 70) dX7_chain_49 (by decide) (by omega) (by omega) (fun h49 => (absurd h49 (by omega))) (fun h49 => ?_)
    refine zv_aload_n dX7_chain_52 rfl rfl ?_
    refine zv_getr 6 3 (u := 44) dX7_chain_53 flX7_27 (wW0_s40 W.1) rfl (wW0_r3 W.1) ?_
    refine zv_iload_n dX7_chain_56 rfl rfl ?_
    refine zv_aload_n dX7_chain_57 rfl rfl ?_
    refine zv_iload_n dX7_chain_58 rfl rfl ?_
    refine zv_iload_n dX7_chain_59 rfl rfl ?_
    refine cc_callV (As := [.int (nI (k)), .int (nI (s))]) (st := [.int (nI (k)), .ref 44]) (c := 6) dX7_chain_60 cvX7_181 (wW0_s40 W.1) rfl rfl rfl (by decide) (cc_c1 rfl (cc_c1 rfl cc_c0)) (Nat.le_of_ble_eq_true rfl) (cC_longestRowTo d W (i := k) (s := s) (by omega) hnl (by omega) (B := fun y => (fun x y => decide (x < nl) && rm_BB a x y) k y) (fun z hz => by rw [hbf k z (by omega) hz]; show _ = (decide (k < nl) && _); rw [decide_eq_true (show k < nl by omega)]; rfl) (g := cr_lg (fun x y => decide (x < nl) && rm_BB a x y) s) hg (fun z => cr_lg_le)) (fun v s1 I1 J1 R1 q => ?_)
    obtain ⟨rfl, rfl, rfl, rfl, rfl⟩ := q
    rw [cr_row T (by omega) (by omega)]
    show zv_V _ _ _ _ _ 63 [.ref 40, .int (nI (s)), .int (nI (b)), .int (nI (k))] [.int (nI (cr_lg (fun x y => decide (x < nl) && rm_BB a x y) s k)), .int (nI (k)), .ref 44] _ _ _ _ _
    refine zv_iast (j := k) dX7_chain_63 (wW0_s44 W.1) (rfl) (show k < 200 from by omega) (by decide) ?_
    refine zv_iinc (v := nI (k + 1)) (lv' := [.ref 40, .int (nI (s)), .int (nI (b)), .int (nI (k + 1))]) dX7_chain_64 rfl (nI_add (k) 1) (by decide) rfl ?_
    refine zv_goto (tgt := 47) dX7_chain_67 (by decide) ?_
    refine ih (k + 1) _ (by omega) (by omega) (fun z h1 h2 => ?_) (fun t ht => by rw [zv_u_row _ _ _ _ ht]; exact hI t ht)
    by_cases e : z = k
    · rw [e]; exact zv_u_s _ _ _ _
    · rw [zv_u_j _ _ e]; exact hg z h1 (by omega)
theorem cr_lg_nl {a : zv_I} {nl s b : Nat} (hb : b < nl) : cr_lg (rm_BB a) s b = cr_lg (fun x y => decide (x < nl) && rm_BB a x y) s b := by
  induction b using Nat.strongRecOn with
  | ind b ih =>
    rw [cr_lg_e, cr_lg_e (B := fun x y => decide (x < nl) && rm_BB a x y)]
    have h : ∀ n y cur, y + n ≤ b → rm_li (rm_BB a b) (cr_lg (rm_BB a) s) n y cur = rm_li ((fun x y => decide (x < nl) && rm_BB a x y) b) (cr_lg (fun x y => decide (x < nl) && rm_BB a x y) s) n y cur := by
      intro n
      induction n with
      | zero => intro y cur _; rfl
      | succ n ih2 =>
        intro y cur hy
        show rm_li (rm_BB a b) (cr_lg (rm_BB a) s) n (y + 1) (if (rm_BB a b y && (decide (0 < cr_lg (rm_BB a) s y) && decide (cur ≤ cr_lg (rm_BB a) s y))) = true then cr_lg (rm_BB a) s y + 1 else cur) = rm_li _ _ n (y + 1) (if ((decide (b < nl) && rm_BB a b y) && (decide (0 < cr_lg (fun x y => decide (x < nl) && rm_BB a x y) s y) && decide (cur ≤ cr_lg (fun x y => decide (x < nl) && rm_BB a x y) s y))) = true then cr_lg (fun x y => decide (x < nl) && rm_BB a x y) s y + 1 else cur)
        rw [ih y (by omega) (by omega), decide_eq_true hb, Bool.true_and]
        exact ih2 (y + 1) _ (by omega)
    by_cases q : s ≤ b
    · exact h _ _ _ (by omega)
    · rw [show b - s = 0 by omega]
      rfl
theorem cC_chain (d : Nat) {E : zv_E} {sh : zv_S} {I : zv_I} {J : zv_J} {R : zv_R} {a : zv_I} {nm nc nl : Nat} (RL : cr_R sh I J R a nm nc nl) (hib : ∀ x y, x < nl → x ≤ y → y < nl → a 26 (200 * x + y) = 0) (hT : ∀ x y z, z < y → y < x → x < nl → rm_BB a x y = true → rm_BB a y z = true → rm_BB a x z = true) (x y : Int32) : zv_V E mX7_chain (d + 2) 0 0 0 [.ref 40, .int x, .int y] [] sh I J R (cr_q44 (q_chR a nl x y) sh I J R) := by
  obtain ⟨B, RT, RC, RLt, RM⟩ := RL
  have B0 := B
  obtain ⟨W, n5, b5, n6, b6, n7, b7, LF⟩ := B
  have LC : ∀ l, l < nl → I (300 + 3 * l) 2 = nI (rm_ci a l) ∧ rm_ci a l < nc := cr_lci B0 RLt
  have LW : ∀ l, l < nl → I (300 + 3 * l) 3 = nI (rm_wr a l) ∧ rm_wr a l < nm := cr_lwi B0 RLt
  refine zv_aload_n dX7_chain_0 rfl rfl ?_
  refine zv_iload_n dX7_chain_1 rfl rfl ?_
  refine cc_callV (As := [.int (x)]) (st := []) (c := 6) dX7_chain_2 cvX7_71 (wW0_s40 W.1) rfl rfl rfl (by decide) (cc_c1 rfl cc_c0) (Nat.le_of_ble_eq_true rfl) (cC_isLetter (d + 1) W.1 n7 (by omega) x) (fun v s1 I1 J1 R1 q => ?_)
  obtain ⟨rfl, rfl, rfl, rfl, rfl⟩ := q
  show zv_V _ _ _ _ _ 5 [.ref 40, .int (x), .int (y)] [.int (rm_b (rm_lt x nl))] _ _ _ _ _
  refine zv_ifB_eq (tgt := 16) dX7_chain_5 (by decide) (fun h5 => ?_) (fun h5 => ?_)
  · refine zv_iconst (v := (-1 : Int32)) dX7_chain_16 (by decide) ?_
    refine zv_iret dX7_chain_17 rfl rfl ?_
    exact ⟨congrArg (fun z => some (Value.int z)) (by unfold q_chR; rw [h5]; rfl), rfl, fun _ _ => rfl, rfl, rfl⟩
  · obtain ⟨s, hs, rfl⟩ := rm_lt_t h5 (by omega)
    refine zv_aload_n dX7_chain_8 rfl rfl ?_
    refine zv_iload_n dX7_chain_9 rfl rfl ?_
    refine cc_callV (As := [.int (y)]) (st := []) (c := 6) dX7_chain_10 cvX7_71 (wW0_s40 W.1) rfl rfl rfl (by decide) (cc_c1 rfl cc_c0) (Nat.le_of_ble_eq_true rfl) (cC_isLetter (d + 1) W.1 n7 (by omega) y) (fun v s1 I1 J1 R1 q => ?_)
    obtain ⟨rfl, rfl, rfl, rfl, rfl⟩ := q
    show zv_V _ _ _ _ _ 13 [.ref 40, .int (nI (s)), .int (y)] [.int (rm_b (rm_lt y nl))] _ _ _ _ _
    refine zv_ifB_ne (tgt := 18) dX7_chain_13 (by decide) (fun h13 => ?_) (fun h13 => ?_)
    · obtain ⟨b, hb, rfl⟩ := rm_lt_t h13 (by omega)
      refine zv_aload_n dX7_chain_18 rfl rfl ?_
      refine zv_getr 6 2 (u := 43) dX7_chain_19 flX7_23 (wW0_s40 W.1) rfl (wW0_r2 W.1) ?_
      refine zv_iload_n dX7_chain_22 rfl rfl ?_
      refine zv_aald (j := b) (o := some (300 + 3 * b)) dX7_chain_23 (wW0_s43 W.1) (by decide) (by decide) (rfl) (show b < 200 from by omega) (by decide) ((W.2.2.2 b (by omega)).1) ?_
      show zv_V _ _ _ _ _ 24 [.ref 40, .int (nI (s)), .int (nI (b))] [.ref (300 + 3 * b)] _ _ _ _ _
      refine zv_getr 2 7 (u := 301 + 3 * b) dX7_chain_24 flX7_169 (wWL_s (W.2.2.2 b (by omega)).2) rfl (wWL_r7 (W.2.2.2 b (by omega)).2) ?_
      refine zv_iload_n dX7_chain_27 rfl rfl ?_
      refine cc_callV (As := [.int (nI (s))]) (st := []) (c := 4) dX7_chain_28 cvX7_173 (wWL_s7 (W.2.2.2 b (by omega)).2) rfl rfl rfl (by decide) (cc_c1 rfl cc_c0) (Nat.le_of_ble_eq_true rfl) (cC_has (d + 1) (wWL_s7 (W.2.2.2 b (by omega)).2) (wWL_w (W.2.2.2 b (by omega)).2) (wWL_sw (W.2.2.2 b (by omega)).2) (n := s) (by omega)) (fun v s1 I1 J1 R1 q => ?_)
      obtain ⟨rfl, rfl, rfl, rfl, rfl⟩ := q
      rw [xL_bf (RLt b (by omega)) s (by omega)]
      show zv_V _ _ _ _ _ 31 [.ref 40, .int (nI (s)), .int (nI (b))] [.int (rm_b ((decide (s < b) && rm_ib a b s)))] _ _ _ _ _
      refine zv_ifB_ne (tgt := 36) dX7_chain_31 (by decide) (fun h31 => ?_) (fun h31 => ?_)
      · refine zv_aload_n dX7_chain_36 rfl rfl ?_
        refine zv_getr 6 3 (u := 44) dX7_chain_37 flX7_27 (wW0_s40 W.1) rfl (wW0_r3 W.1) ?_
        refine zv_iload_n dX7_chain_40 rfl rfl ?_
        refine zv_iconst (v := nI (1)) dX7_chain_41 (by decide) ?_
        refine zv_iast (j := s) dX7_chain_42 (wW0_s44 W.1) (rfl) (show s < 200 from by omega) (by decide) ?_
        refine zv_iload_n dX7_chain_43 rfl rfl ?_
        refine zv_iconst (v := nI (1)) dX7_chain_44 (by decide) ?_
        refine zv_iadd dX7_chain_45 ?_
        refine cc_top (nI_add (s) (1)) ?_
        refine zv_istore_n (lv' := [.ref 40, .int (nI (s)), .int (nI (b)), .int (nI (s + 1))]) dX7_chain_46 rfl (by decide) rfl ?_
        have hsb : s < b := of_decide_eq_true ((Bool.and_eq_true _ _).mp h31).1
        have hib : rm_BB a b s = true := ((Bool.and_eq_true _ _).mp h31).2
        have e0 : q_chR a nl (nI s) (nI b) = nI (cr_lg (fun x y => decide (x < nl) && rm_BB a x y) s b) := by unfold q_chR; rw [h5, h13, rm_nv_n (n := s) (by omega), rm_nv_n (n := b) (by omega)]; show (if rm_BB a b s = true then nI (rm_lg (rm_BB a) s nl b) else nI 0) = _; rw [if_pos hib, rm_lg_st nl hb]; exact congrArg nI (cr_lg_nl hb)
        rw [e0]
        refine cC_chain_l d W b7 hsb hb (fun i z hi hz => by rw [xL_bf (RLt i hi) z (by omega), decide_eq_true hz]; rfl) (fun x y h1 h2 h3 => hT x y s h1 h2 h3) (b - s) (s + 1) _ (by omega) (by omega) (fun z h1 h2 => ?_) (fun t ht => zv_u_row _ _ _ _ ht)
        rw [show z = s by omega, cr_lg_s]
        exact zv_u_s _ _ _ _
      · refine zv_iconst (v := nI (0)) dX7_chain_34 (by decide) ?_
        refine zv_iret dX7_chain_35 rfl rfl ?_
        exact ⟨congrArg (fun z => some (Value.int z)) (by unfold q_chR; rw [h5, h13, rm_nv_n (n := s) (by omega), rm_nv_n (n := b) (by omega), if_pos (show (true && true) = true from rfl), if_neg (show ¬ rm_BB a b s = true from fun q => (of_decide_eq_true q) (cr_bz hib hb h31))]), rfl, fun _ _ => rfl, rfl, rfl⟩
    · refine zv_iconst (v := (-1 : Int32)) dX7_chain_16 (by decide) ?_
      refine zv_iret dX7_chain_17 rfl rfl ?_
      exact ⟨congrArg (fun z => some (Value.int z)) (by unfold q_chR; rw [h5, h13]; rfl), rfl, fun _ _ => rfl, rfl, rfl⟩
