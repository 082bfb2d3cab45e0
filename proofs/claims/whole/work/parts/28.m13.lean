def rm_li (B : Nat → Bool) (g : Nat → Nat) : Nat → Nat → Nat → Nat
  | 0, _, cur => cur
  | n + 1, y, cur => rm_li B g n (y + 1) (if (B y && (decide (0 < g y) && decide (cur ≤ g y))) = true then g y + 1 else cur)
def rm_lg (B : Nat → Nat → Bool) (s : Nat) : Nat → Nat → Nat
  | 0, _ => 0
  | X + 1, z => if z = X then rm_li (B X) (rm_lg B s X) (X - s) s (if X = s then 1 else 0) else rm_lg B s X z
theorem rm_li_le {B : Nat → Bool} {g : Nat → Nat} {X : Nat} : ∀ n y cur, y + n ≤ X → cur ≤ X + 1 → (∀ z, z < X → g z ≤ z + 1) → rm_li B g n y cur ≤ X + 1
  | 0, _, _, _, h, _ => h
  | n + 1, y, cur, h1, h2, h3 => rm_li_le n (y + 1) _ (by omega) (by have := h3 y (by omega); split <;> omega) h3
theorem rm_lg_le {B : Nat → Nat → Bool} {s : Nat} : ∀ X z, rm_lg B s X z ≤ z + 1
  | 0, z => Nat.zero_le _
  | X + 1, z => by
    show (if z = X then rm_li (B X) (rm_lg B s X) (X - s) s (if X = s then 1 else 0) else rm_lg B s X z) ≤ z + 1
    split
    · rename_i h
      subst h
      by_cases h : s ≤ z
      · exact rm_li_le _ _ _ (by omega) (by split <;> omega) (fun y _ => rm_lg_le z y)
      · rw [show z - s = 0 by omega, if_neg (show ¬ z = s by omega)]
        exact Nat.zero_le _
    · exact rm_lg_le X z
def rm_cl (a : zv_I) (X : Nat) (g : Nat → Nat) : zv_I := fun t j => if t = 31 ∧ j < X then nI (g j) else a t j
theorem rm_cl_o {a : zv_I} {X t : Nat} {g : Nat → Nat} (h : t ≠ 31) : rm_cl a X g t = a t := funext fun j => if_neg fun q => h q.1
theorem rm_cl_0 (a : zv_I) (g : Nat → Nat) : rm_cl a 0 g = a := funext fun t => funext fun j => if_neg fun q => Nat.not_lt_zero _ q.2
theorem rm_cl_r {a : zv_I} {X j : Nat} {g : Nat → Nat} (h : j < X) : rm_cl a X g 31 j = nI (g j) := if_pos ⟨rfl, h⟩
theorem rm_cl_n {a : zv_I} {X v : Nat} {g g2 : Nat → Nat} (h : g2 X = v) (h2 : ∀ j, j < X → g2 j = g j) : zv_u (rm_cl a X g) 31 X (nI v) = rm_cl a (X + 1) g2 := by
  funext t j
  unfold zv_u rm_cl
  by_cases e : t = 31 ∧ j = X
  · rw [if_pos e, if_pos ⟨e.1, by omega⟩, e.2, h]
  · rw [if_neg e]
    by_cases f : t = 31 ∧ j < X
    · rw [if_pos f, if_pos ⟨f.1, by omega⟩, h2 j f.2]
    · rw [if_neg f, if_neg (by omega)]
def rm_BB (a : zv_I) (x y : Nat) : Bool := decide (¬ a 26 (200 * x + y) = 0)
def rm_cu (a : zv_I) (X cur : Nat) (g : Nat → Nat) : zv_I := zv_u (rm_cl a X g) 31 X (nI cur)
theorem rm_le0 {k : Nat} (h : k < 2 ^ 31) (h2 : 0 < k) (e : nI k ≤ 0) : False := by
  have h1 := Int32.le_iff_toInt_le.mp e
  rw [nI_toInt h] at h1
  have h0 : (0 : Int32).toInt = 0 := by decide
  omega
theorem rm_gt0 {k : Nat} (h : k < 2 ^ 31) (e : ¬ nI k ≤ 0) : 0 < k := by
  rcases Nat.eq_zero_or_pos k with e1 | e1
  · subst e1; exact absurd (by decide) e
  · exact e1
theorem cM_chain_i (d : Nat) {a : zv_I} {s b X : Nat} (hX : X < 200) {Q : Option Value → zv_I → Prop} : ∀ n y cur, y + n = X → cur ≤ X + 1 → (∀ rest, rm_V mX8_chain d 137 ([.ref 3, .int (nI s), .int (nI b), .int (nI X)] ++ rest) [] (rm_cu a X (rm_li (rm_BB a X) (rm_lg (rm_BB a) s X) n y cur) (rm_lg (rm_BB a) s X)) Q) → ∀ rest, rm_V mX8_chain d 47 ([.ref 3, .int (nI s), .int (nI b), .int (nI X), .int (nI y)] ++ rest) [] (rm_cu a X cur (rm_lg (rm_BB a) s X)) Q := by
  intro n
  induction n with
  | zero =>
    intro y cur hy hcu hQ rest
    refine rm_less ⟨rest, rfl⟩ ?_
    have hy2 : y = X := by omega
    subst hy2
    refine rm_iload dX8_chain_47 rfl ?_
    refine rm_iload_n dX8_chain_49 rfl rfl ?_
    refine rm_icN_ge (tgt := 137) dX8_chain_50 (by decide) (by omega) (by omega) (fun h50 => ?_) (fun h50 => (absurd h50 (by omega)))
    exact hQ [.int (nI y)]
  | succ n ih =>
    intro y cur hy hcu hQ rest
    refine rm_less ⟨rest, rfl⟩ ?_
    have hgy : (rm_lg (rm_BB a) s X) y ≤ y + 1 := rm_lg_le X y
    refine rm_iload dX8_chain_47 rfl ?_
    refine rm_iload_n dX8_chain_49 rfl rfl ?_
    refine rm_icN_ge (tgt := 137) dX8_chain_50 (by decide) (by omega) (by omega) (fun h50 => (absurd h50 (by omega))) (fun h50 => ?_)
    refine rm_aload_n dX8_chain_53 rfl rfl ?_
    refine rm_getr 22 (t := 26) dX8_chain_54 flX8_65 (by decide) rfl rfl ?_
    refine rm_sipush (v := nI (200)) dX8_chain_57 (by decide) ?_
    refine rm_iload_n dX8_chain_60 rfl rfl ?_
    refine rm_imul dX8_chain_61 ?_
    refine rm_top (pk_mul (200) (X)) ?_
    refine rm_iload dX8_chain_62 rfl ?_
    refine rm_iadd dX8_chain_64 ?_
    refine rm_top (nI_add (200 * X) (y)) ?_
    refine rm_zald (j := 200 * X + y) (x := (a 26 (200 * X + y))) dX8_chain_65 (rfl) (by omega) ((show (rm_cu a X cur (rm_lg (rm_BB a) s X)) 26 (200 * X + y) = a 26 (200 * X + y) from by unfold rm_cu; rw [zv_u_row _ 31 _ _ (by decide), rm_cl_o (by decide)])) ?_
    refine rm_if_eq (tgt := 99) dX8_chain_66 (by decide) (fun h66 => ?_) (fun h66 => ?_)
    · refine rm_iconst (v := nI (0)) dX8_chain_99 (by decide) ?_
      refine rm_istore (lv' := [.ref 3, .int (nI (s)), .int (nI (b)), .int (nI (X)), .int (nI (y)), .int (nI (0))]) dX8_chain_100 (by decide) rfl ?_
      refine rm_aload_n dX8_chain_102 rfl rfl ?_
      refine rm_getr 27 (t := 31) dX8_chain_103 flX8_75 (by decide) rfl rfl ?_
      refine rm_iload_n dX8_chain_106 rfl rfl ?_
      refine rm_iload dX8_chain_107 rfl ?_
      refine rm_if_eq (tgt := 124) dX8_chain_109 (by decide) (fun h109 => ?_) (fun h109 => (absurd h109 (by decide)))
      refine rm_aload_n dX8_chain_124 rfl rfl ?_
      refine rm_getr 27 (t := 31) dX8_chain_125 flX8_75 (by decide) rfl rfl ?_
      refine rm_iload_n dX8_chain_128 rfl rfl ?_
      refine rm_iald (f := 27) (j := X) (x := nI (cur)) dX8_chain_129 rfl (by decide) rfl rfl (rfl) (show X < 200 from by omega) ((show (rm_cu a X cur (rm_lg (rm_BB a) s X)) 31 X = nI cur from zv_u_s _ _ _ _)) ?_
      refine rm_iast (f := 27) (j := X) dX8_chain_130 rfl (by decide) rfl rfl (rfl) (show X < 200 from by omega) ?_
      refine rm_iinc (v := nI (y + 1)) (lv' := [.ref 3, .int (nI (s)), .int (nI (b)), .int (nI (X)), .int (nI (y + 1)), .int (nI (0))]) dX8_chain_131 rfl (by rw [← nI_1]; rfl) (by decide) rfl ?_
      refine rm_goto (tgt := 47) dX8_chain_134 (by decide) ?_
      have e1 : (rm_BB a X y && (decide (0 < (rm_lg (rm_BB a) s X) y) && decide (cur ≤ (rm_lg (rm_BB a) s X) y))) = false := by rw [show rm_BB a X y = false from decide_eq_false (fun q => q h66)]; rfl
      have e2 : zv_u (rm_cu a X cur (rm_lg (rm_BB a) s X)) 31 X (nI (cur)) = rm_cu a X (cur) (rm_lg (rm_BB a) s X) := by unfold rm_cu; rw [zv_u_u]
      rw [e2]
      refine ih (y + 1) (cur) (by omega) (by omega) (fun rest => ?_) [.int (nI (0))]
      have h9 := hQ rest
      rw [show rm_li (rm_BB a X) (rm_lg (rm_BB a) s X) (n + 1) y cur = rm_li (rm_BB a X) (rm_lg (rm_BB a) s X) n (y + 1) (cur) from by show rm_li _ _ _ _ (if _ then _ else _) = _; rw [e1]; rfl] at h9
      exact h9
    · refine rm_aload_n dX8_chain_69 rfl rfl ?_
      refine rm_getr 27 (t := 31) dX8_chain_70 flX8_75 (by decide) rfl rfl ?_
      refine rm_iload dX8_chain_73 rfl ?_
      refine rm_iald (f := 27) (j := y) (x := nI ((rm_lg (rm_BB a) s X) y)) dX8_chain_75 rfl (by decide) rfl rfl (rfl) (show y < 200 from by omega) ((show (rm_cu a X cur (rm_lg (rm_BB a) s X)) 31 y = nI ((rm_lg (rm_BB a) s X) y) from by unfold rm_cu; rw [zv_u_j _ _ (by omega), rm_cl_r (by omega)])) ?_
      refine rm_if_le (tgt := 99) dX8_chain_76 (by decide) (fun h76 => ?_) (fun h76 => ?_)
      · refine rm_iconst (v := nI (0)) dX8_chain_99 (by decide) ?_
        refine rm_istore (lv' := [.ref 3, .int (nI (s)), .int (nI (b)), .int (nI (X)), .int (nI (y)), .int (nI (0))]) dX8_chain_100 (by decide) rfl ?_
        refine rm_aload_n dX8_chain_102 rfl rfl ?_
        refine rm_getr 27 (t := 31) dX8_chain_103 flX8_75 (by decide) rfl rfl ?_
        refine rm_iload_n dX8_chain_106 rfl rfl ?_
        refine rm_iload dX8_chain_107 rfl ?_
        refine rm_if_eq (tgt := 124) dX8_chain_109 (by decide) (fun h109 => ?_) (fun h109 => (absurd h109 (by decide)))
        refine rm_aload_n dX8_chain_124 rfl rfl ?_
        refine rm_getr 27 (t := 31) dX8_chain_125 flX8_75 (by decide) rfl rfl ?_
        refine rm_iload_n dX8_chain_128 rfl rfl ?_
        refine rm_iald (f := 27) (j := X) (x := nI (cur)) dX8_chain_129 rfl (by decide) rfl rfl (rfl) (show X < 200 from by omega) ((show (rm_cu a X cur (rm_lg (rm_BB a) s X)) 31 X = nI cur from zv_u_s _ _ _ _)) ?_
        refine rm_iast (f := 27) (j := X) dX8_chain_130 rfl (by decide) rfl rfl (rfl) (show X < 200 from by omega) ?_
        refine rm_iinc (v := nI (y + 1)) (lv' := [.ref 3, .int (nI (s)), .int (nI (b)), .int (nI (X)), .int (nI (y + 1)), .int (nI (0))]) dX8_chain_131 rfl (by rw [← nI_1]; rfl) (by decide) rfl ?_
        refine rm_goto (tgt := 47) dX8_chain_134 (by decide) ?_
        have e1 : (rm_BB a X y && (decide (0 < (rm_lg (rm_BB a) s X) y) && decide (cur ≤ (rm_lg (rm_BB a) s X) y))) = false := by rw [decide_eq_false (show ¬ 0 < (rm_lg (rm_BB a) s X) y from fun q => rm_le0 (by omega) q h76)]; exact Bool.and_false _
        have e2 : zv_u (rm_cu a X cur (rm_lg (rm_BB a) s X)) 31 X (nI (cur)) = rm_cu a X (cur) (rm_lg (rm_BB a) s X) := by unfold rm_cu; rw [zv_u_u]
        rw [e2]
        refine ih (y + 1) (cur) (by omega) (by omega) (fun rest => ?_) [.int (nI (0))]
        have h9 := hQ rest
        rw [show rm_li (rm_BB a X) (rm_lg (rm_BB a) s X) (n + 1) y cur = rm_li (rm_BB a X) (rm_lg (rm_BB a) s X) n (y + 1) (cur) from by show rm_li _ _ _ _ (if _ then _ else _) = _; rw [e1]; rfl] at h9
        exact h9
      · refine rm_aload_n dX8_chain_79 rfl rfl ?_
        refine rm_getr 27 (t := 31) dX8_chain_80 flX8_75 (by decide) rfl rfl ?_
        refine rm_iload dX8_chain_83 rfl ?_
        refine rm_iald (f := 27) (j := y) (x := nI ((rm_lg (rm_BB a) s X) y)) dX8_chain_85 rfl (by decide) rfl rfl (rfl) (show y < 200 from by omega) ((show (rm_cu a X cur (rm_lg (rm_BB a) s X)) 31 y = nI ((rm_lg (rm_BB a) s X) y) from by unfold rm_cu; rw [zv_u_j _ _ (by omega), rm_cl_r (by omega)])) ?_
        refine rm_aload_n dX8_chain_86 rfl rfl ?_
        refine rm_getr 27 (t := 31) dX8_chain_87 flX8_75 (by decide) rfl rfl ?_
        refine rm_iload_n dX8_chain_90 rfl rfl ?_
        refine rm_iald (f := 27) (j := X) (x := nI (cur)) dX8_chain_91 rfl (by decide) rfl rfl (rfl) (show X < 200 from by omega) ((show (rm_cu a X cur (rm_lg (rm_BB a) s X)) 31 X = nI cur from zv_u_s _ _ _ _)) ?_
        refine rm_icN_lt (tgt := 99) dX8_chain_92 (by decide) (by omega) (by omega) (fun h92 => ?_) (fun h92 => ?_)
        · refine rm_iconst (v := nI (0)) dX8_chain_99 (by decide) ?_
          refine rm_istore (lv' := [.ref 3, .int (nI (s)), .int (nI (b)), .int (nI (X)), .int (nI (y)), .int (nI (0))]) dX8_chain_100 (by decide) rfl ?_
          refine rm_aload_n dX8_chain_102 rfl rfl ?_
          refine rm_getr 27 (t := 31) dX8_chain_103 flX8_75 (by decide) rfl rfl ?_
          refine rm_iload_n dX8_chain_106 rfl rfl ?_
          refine rm_iload dX8_chain_107 rfl ?_
          refine rm_if_eq (tgt := 124) dX8_chain_109 (by decide) (fun h109 => ?_) (fun h109 => (absurd h109 (by decide)))
          refine rm_aload_n dX8_chain_124 rfl rfl ?_
          refine rm_getr 27 (t := 31) dX8_chain_125 flX8_75 (by decide) rfl rfl ?_
          refine rm_iload_n dX8_chain_128 rfl rfl ?_
          refine rm_iald (f := 27) (j := X) (x := nI (cur)) dX8_chain_129 rfl (by decide) rfl rfl (rfl) (show X < 200 from by omega) ((show (rm_cu a X cur (rm_lg (rm_BB a) s X)) 31 X = nI cur from zv_u_s _ _ _ _)) ?_
          refine rm_iast (f := 27) (j := X) dX8_chain_130 rfl (by decide) rfl rfl (rfl) (show X < 200 from by omega) ?_
          refine rm_iinc (v := nI (y + 1)) (lv' := [.ref 3, .int (nI (s)), .int (nI (b)), .int (nI (X)), .int (nI (y + 1)), .int (nI (0))]) dX8_chain_131 rfl (by rw [← nI_1]; rfl) (by decide) rfl ?_
          refine rm_goto (tgt := 47) dX8_chain_134 (by decide) ?_
          have e1 : (rm_BB a X y && (decide (0 < (rm_lg (rm_BB a) s X) y) && decide (cur ≤ (rm_lg (rm_BB a) s X) y))) = false := by rw [decide_eq_false (show ¬ cur ≤ (rm_lg (rm_BB a) s X) y by omega), Bool.and_false]; exact Bool.and_false _
          have e2 : zv_u (rm_cu a X cur (rm_lg (rm_BB a) s X)) 31 X (nI (cur)) = rm_cu a X (cur) (rm_lg (rm_BB a) s X) := by unfold rm_cu; rw [zv_u_u]
          rw [e2]
          refine ih (y + 1) (cur) (by omega) (by omega) (fun rest => ?_) [.int (nI (0))]
          have h9 := hQ rest
          rw [show rm_li (rm_BB a X) (rm_lg (rm_BB a) s X) (n + 1) y cur = rm_li (rm_BB a X) (rm_lg (rm_BB a) s X) n (y + 1) (cur) from by show rm_li _ _ _ _ (if _ then _ else _) = _; rw [e1]; rfl] at h9
          exact h9
        · refine rm_iconst (v := nI (1)) dX8_chain_95 (by decide) ?_
          refine rm_goto (tgt := 100) dX8_chain_96 (by decide) ?_
          refine rm_istore (lv' := [.ref 3, .int (nI (s)), .int (nI (b)), .int (nI (X)), .int (nI (y)), .int (nI (1))]) dX8_chain_100 (by decide) rfl ?_
          refine rm_aload_n dX8_chain_102 rfl rfl ?_
          refine rm_getr 27 (t := 31) dX8_chain_103 flX8_75 (by decide) rfl rfl ?_
          refine rm_iload_n dX8_chain_106 rfl rfl ?_
          refine rm_iload dX8_chain_107 rfl ?_
          refine rm_if_eq (tgt := 124) dX8_chain_109 (by decide) (fun h109 => (absurd h109 (by decide))) (fun h109 => ?_)
          refine rm_aload_n dX8_chain_112 rfl rfl ?_
          refine rm_getr 27 (t := 31) dX8_chain_113 flX8_75 (by decide) rfl rfl ?_
          refine rm_iload dX8_chain_116 rfl ?_
          refine rm_iald (f := 27) (j := y) (x := nI ((rm_lg (rm_BB a) s X) y)) dX8_chain_118 rfl (by decide) rfl rfl (rfl) (show y < 200 from by omega) ((show (rm_cu a X cur (rm_lg (rm_BB a) s X)) 31 y = nI ((rm_lg (rm_BB a) s X) y) from by unfold rm_cu; rw [zv_u_j _ _ (by omega), rm_cl_r (by omega)])) ?_
          refine rm_iconst (v := nI (1)) dX8_chain_119 (by decide) ?_
          refine rm_iadd dX8_chain_120 ?_
          refine rm_top (nI_add ((rm_lg (rm_BB a) s X) y) (1)) ?_
          refine rm_goto (tgt := 130) dX8_chain_121 (by decide) ?_
          refine rm_iast (f := 27) (j := X) dX8_chain_130 rfl (by decide) rfl rfl (rfl) (show X < 200 from by omega) ?_
          refine rm_iinc (v := nI (y + 1)) (lv' := [.ref 3, .int (nI (s)), .int (nI (b)), .int (nI (X)), .int (nI (y + 1)), .int (nI (1))]) dX8_chain_131 rfl (by rw [← nI_1]; rfl) (by decide) rfl ?_
          refine rm_goto (tgt := 47) dX8_chain_134 (by decide) ?_
          have e1 : (rm_BB a X y && (decide (0 < (rm_lg (rm_BB a) s X) y) && decide (cur ≤ (rm_lg (rm_BB a) s X) y))) = true := by rw [show rm_BB a X y = true from decide_eq_true h66, decide_eq_true (show 0 < (rm_lg (rm_BB a) s X) y from rm_gt0 (by omega) h76), decide_eq_true (show cur ≤ (rm_lg (rm_BB a) s X) y by omega)]; rfl
          have e2 : zv_u (rm_cu a X cur (rm_lg (rm_BB a) s X)) 31 X (nI ((rm_lg (rm_BB a) s X) y + 1)) = rm_cu a X ((rm_lg (rm_BB a) s X) y + 1) (rm_lg (rm_BB a) s X) := by unfold rm_cu; rw [zv_u_u]
          rw [e2]
          refine ih (y + 1) ((rm_lg (rm_BB a) s X) y + 1) (by omega) (by omega) (fun rest => ?_) [.int (nI (1))]
          have h9 := hQ rest
          rw [show rm_li (rm_BB a X) (rm_lg (rm_BB a) s X) (n + 1) y cur = rm_li (rm_BB a X) (rm_lg (rm_BB a) s X) n (y + 1) ((rm_lg (rm_BB a) s X) y + 1) from by show rm_li _ _ _ _ (if _ then _ else _) = _; rw [e1]; rfl] at h9
          exact h9
theorem cM_chain_l (d : Nat) {a : zv_I} {nl s b : Nat} (hn : a 3 4 = nI nl) (hnb : nl ≤ 200) (hs : s < nl) {Q : Option Value → zv_I → Prop} (hQ : ∀ rest, rm_V mX8_chain d 143 ([.ref 3, .int (nI s), .int (nI b)] ++ rest) [] (rm_cl a nl (rm_lg (rm_BB a) s nl)) Q) : ∀ n X, X + n = nl → ∀ rest, rm_V mX8_chain d 20 ([.ref 3, .int (nI s), .int (nI b), .int (nI X)] ++ rest) [] (rm_cl a X (rm_lg (rm_BB a) s X)) Q := by
  intro n
  induction n with
  | zero =>
    intro X hX rest
    refine rm_less ⟨rest, rfl⟩ ?_
    have hX2 : X = nl := by omega
    subst hX2
    refine rm_iload_n dX8_chain_20 rfl rfl ?_
    refine rm_aload_n dX8_chain_21 rfl rfl ?_
    refine rm_geti 4 (x := nI (X)) dX8_chain_22 flX8_89 rfl (by rw [rm_cl_o (by decide)]; exact hn) ?_
    refine rm_icN_ge (tgt := 143) dX8_chain_25 (by decide) (by omega) (by omega) (fun h25 => ?_) (fun h25 => (absurd h25 (by omega)))
    exact hQ [.int (nI X)]
  | succ n ih =>
    intro X hX rest
    refine rm_less ⟨rest, rfl⟩ ?_
    refine rm_iload_n dX8_chain_20 rfl rfl ?_
    refine rm_aload_n dX8_chain_21 rfl rfl ?_
    refine rm_geti 4 (x := nI (nl)) dX8_chain_22 flX8_89 rfl (by rw [rm_cl_o (by decide)]; exact hn) ?_
    refine rm_icN_ge (tgt := 143) dX8_chain_25 (by decide) (by omega) (by omega) (fun h25 => (absurd h25 (by omega))) (fun h25 => ?_)
    refine rm_aload_n dX8_chain_28 rfl rfl ?_
    refine rm_getr 27 (t := 31) dX8_chain_29 flX8_75 (by decide) rfl rfl ?_
    refine rm_iload_n dX8_chain_32 rfl rfl ?_
    refine rm_iload_n dX8_chain_33 rfl rfl ?_
    refine rm_iload_n dX8_chain_34 rfl rfl ?_
    refine rm_icN_ne (tgt := 42) dX8_chain_35 (by decide) (by omega) (by omega) (fun h35 => ?_) (fun h35 => ?_)
    · refine rm_iconst (v := nI (0)) dX8_chain_42 (by decide) ?_
      refine rm_iast (f := 27) (j := X) dX8_chain_43 rfl (by decide) rfl rfl (rfl) (show X < 200 from by omega) ?_
      refine rm_iload_n dX8_chain_44 rfl rfl ?_
      refine rm_istore (lv' := [.ref 3, .int (nI (s)), .int (nI (b)), .int (nI (X)), .int (nI (s))]) dX8_chain_45 (by decide) rfl ?_
      by_cases hsX : s ≤ X
      · refine cM_chain_i d (by omega) (X - s) s 0 (by omega) (by omega) (fun rest2 => ?_) []
        refine rm_less ⟨rest2, rfl⟩ ?_
        have e3 : rm_cu a X (rm_li (rm_BB a X) (rm_lg (rm_BB a) s X) (X - s) s 0) (rm_lg (rm_BB a) s X) = rm_cl a (X + 1) (rm_lg (rm_BB a) s (X + 1)) := by
          refine rm_cl_n ?_ ?_
          · show (if X = X then rm_li (rm_BB a X) (rm_lg (rm_BB a) s X) (X - s) s (if X = s then 1 else 0) else _) = _
            rw [if_pos rfl, if_neg h35]
          · intro j hj
            show (if j = X then _ else rm_lg (rm_BB a) s X j) = _
            rw [if_neg (by omega)]
        rw [e3]
        refine rm_iinc (v := nI (X + 1)) (lv' := [.ref 3, .int (nI (s)), .int (nI (b)), .int (nI (X + 1))]) dX8_chain_137 rfl (by rw [← nI_1]; rfl) (by decide) rfl ?_
        refine rm_goto (tgt := 20) dX8_chain_140 (by decide) ?_
        exact ih (X + 1) (by omega) []
      · have hend : ∀ rest2, rm_V mX8_chain d 137 ([.ref 3, .int (nI s), .int (nI b), .int (nI X)] ++ rest2) [] (rm_cu a X 0 (rm_lg (rm_BB a) s X)) Q := by
          intro rest2
          refine rm_less ⟨rest2, rfl⟩ ?_
          have e3 : rm_cu a X 0 (rm_lg (rm_BB a) s X) = rm_cl a (X + 1) (rm_lg (rm_BB a) s (X + 1)) := by
            refine rm_cl_n ?_ ?_
            · show (if X = X then rm_li (rm_BB a X) (rm_lg (rm_BB a) s X) (X - s) s (if X = s then 1 else 0) else _) = _
              rw [if_pos rfl, if_neg h35, show X - s = 0 by omega]; rfl
            · intro j hj
              show (if j = X then _ else rm_lg (rm_BB a) s X j) = _
              rw [if_neg (by omega)]
          rw [e3]
          refine rm_iinc (v := nI (X + 1)) (lv' := [.ref 3, .int (nI (s)), .int (nI (b)), .int (nI (X + 1))]) dX8_chain_137 rfl (by rw [← nI_1]; rfl) (by decide) rfl ?_
          refine rm_goto (tgt := 20) dX8_chain_140 (by decide) ?_
          exact ih (X + 1) (by omega) []
        refine rm_iload dX8_chain_47 rfl ?_
        refine rm_iload_n dX8_chain_49 rfl rfl ?_
        refine rm_icN_ge (tgt := 137) dX8_chain_50 (by decide) (by omega) (by omega) (fun h50 => ?_) (fun h50 => (absurd h50 (by omega)))
        exact hend [.int (nI s)]
    · refine rm_iconst (v := nI (1)) dX8_chain_38 (by decide) ?_
      refine rm_goto (tgt := 43) dX8_chain_39 (by decide) ?_
      refine rm_iast (f := 27) (j := X) dX8_chain_43 rfl (by decide) rfl rfl (rfl) (show X < 200 from by omega) ?_
      refine rm_iload_n dX8_chain_44 rfl rfl ?_
      refine rm_istore (lv' := [.ref 3, .int (nI (s)), .int (nI (b)), .int (nI (X)), .int (nI (s))]) dX8_chain_45 (by decide) rfl ?_
      by_cases hsX : s ≤ X
      · refine cM_chain_i d (by omega) (X - s) s 1 (by omega) (by omega) (fun rest2 => ?_) []
        refine rm_less ⟨rest2, rfl⟩ ?_
        have e3 : rm_cu a X (rm_li (rm_BB a X) (rm_lg (rm_BB a) s X) (X - s) s 1) (rm_lg (rm_BB a) s X) = rm_cl a (X + 1) (rm_lg (rm_BB a) s (X + 1)) := by
          refine rm_cl_n ?_ ?_
          · show (if X = X then rm_li (rm_BB a X) (rm_lg (rm_BB a) s X) (X - s) s (if X = s then 1 else 0) else _) = _
            rw [if_pos rfl, if_pos h35]
          · intro j hj
            show (if j = X then _ else rm_lg (rm_BB a) s X j) = _
            rw [if_neg (by omega)]
        rw [e3]
        refine rm_iinc (v := nI (X + 1)) (lv' := [.ref 3, .int (nI (s)), .int (nI (b)), .int (nI (X + 1))]) dX8_chain_137 rfl (by rw [← nI_1]; rfl) (by decide) rfl ?_
        refine rm_goto (tgt := 20) dX8_chain_140 (by decide) ?_
        exact ih (X + 1) (by omega) []
      · have hend : ∀ rest2, rm_V mX8_chain d 137 ([.ref 3, .int (nI s), .int (nI b), .int (nI X)] ++ rest2) [] (rm_cu a X 1 (rm_lg (rm_BB a) s X)) Q := by
          intro rest2
          refine rm_less ⟨rest2, rfl⟩ ?_
          have e3 : rm_cu a X 1 (rm_lg (rm_BB a) s X) = rm_cl a (X + 1) (rm_lg (rm_BB a) s (X + 1)) := by
            refine rm_cl_n ?_ ?_
            · show (if X = X then rm_li (rm_BB a X) (rm_lg (rm_BB a) s X) (X - s) s (if X = s then 1 else 0) else _) = _
              rw [if_pos rfl, if_pos h35, show X - s = 0 by omega]; rfl
            · intro j hj
              show (if j = X then _ else rm_lg (rm_BB a) s X j) = _
              rw [if_neg (by omega)]
          rw [e3]
          refine rm_iinc (v := nI (X + 1)) (lv' := [.ref 3, .int (nI (s)), .int (nI (b)), .int (nI (X + 1))]) dX8_chain_137 rfl (by rw [← nI_1]; rfl) (by decide) rfl ?_
          refine rm_goto (tgt := 20) dX8_chain_140 (by decide) ?_
          exact ih (X + 1) (by omega) []
        refine rm_iload dX8_chain_47 rfl ?_
        refine rm_iload_n dX8_chain_49 rfl rfl ?_
        refine rm_icN_ge (tgt := 137) dX8_chain_50 (by decide) (by omega) (by omega) (fun h50 => ?_) (fun h50 => (absurd h50 (by omega)))
        exact hend [.int (nI s)]
def q_chR (a : zv_I) (nl : Nat) (x y : Int32) : Int32 := if (rm_lt x nl && rm_lt y nl) = true then (if rm_BB a (rm_nv y) (rm_nv x) = true then nI (rm_lg (rm_BB a) (rm_nv x) nl (rm_nv y)) else nI 0) else -1
def q_chA (a : zv_I) (nl : Nat) (x y : Int32) : zv_I := if (rm_lt x nl && rm_lt y nl) = true then rm_cl a nl (rm_lg (rm_BB a) (rm_nv x) nl) else a
theorem cM_chain (d : Nat) {a : zv_I} {nl : Nat} (hn : a 3 4 = nI nl) (hnb : nl ≤ 200) (x y : Int32) : rm_V mX8_chain (d + 2) 0 [.ref 3, .int x, .int y] [] a (rm_p (q_chR a nl x y) (q_chA a nl x y)) := by
  refine rm_aload_n dX8_chain_0 rfl rfl ?_
  refine rm_iload_n dX8_chain_1 rfl rfl ?_
  refine rm_callV (As := [.int (x)]) (st := []) dX8_chain_2 cvX8_142 rfl rfl (by decide) (zv_cat_i [x]) (Nat.le_of_ble_eq_true rfl) (cM_isLetter d hn (by omega) (x)) (fun v b q => ?_)
  obtain ⟨rfl, rfl⟩ := q
  show rm_V _ _ 5 [.ref 3, .int (x), .int (y)] [.int (rm_b (rm_lt (x) nl))] _ _
  refine rm_ifB_eq (tgt := 16) dX8_chain_5 (by decide) (fun h5 => ?_) (fun h5 => ?_)
  · refine rm_iconst (v := (-1 : Int32)) dX8_chain_16 (by decide) ?_
    refine rm_iret dX8_chain_17 rfl rfl ?_
    exact ⟨by unfold q_chR; rw [h5]; rfl, by unfold q_chA; rw [h5]; rfl⟩
  · obtain ⟨x1, hx1, rfl⟩ := rm_lt_t h5 (by omega)
    refine rm_aload_n dX8_chain_8 rfl rfl ?_
    refine rm_iload_n dX8_chain_9 rfl rfl ?_
    refine rm_callV (As := [.int (y)]) (st := []) dX8_chain_10 cvX8_142 rfl rfl (by decide) (zv_cat_i [y]) (Nat.le_of_ble_eq_true rfl) (cM_isLetter d hn (by omega) (y)) (fun v b q => ?_)
    obtain ⟨rfl, rfl⟩ := q
    show rm_V _ _ 13 [.ref 3, .int (nI (x1)), .int (y)] [.int (rm_b (rm_lt (y) nl))] _ _
    refine rm_ifB_ne (tgt := 18) dX8_chain_13 (by decide) (fun h13 => ?_) (fun h13 => ?_)
    · obtain ⟨y1, hy1, rfl⟩ := rm_lt_t h13 (by omega)
      refine rm_iconst (v := nI (0)) dX8_chain_18 (by decide) ?_
      refine rm_istore_n (lv' := [.ref 3, .int (nI (x1)), .int (nI (y1)), .int (nI (0))]) dX8_chain_19 rfl (by decide) rfl ?_
      have h9 := cM_chain_l (d + 2) (a := a) (b := y1) (Q := rm_p (q_chR a nl (nI x1) (nI y1)) (q_chA a nl (nI x1) (nI y1))) hn hnb (s := x1) (by omega) (fun rest => ?_) nl 0 (by omega) []
      · rw [rm_cl_0] at h9
        exact h9
      refine rm_less ⟨rest, rfl⟩ ?_
      refine rm_aload_n dX8_chain_143 rfl rfl ?_
      refine rm_getr 22 (t := 26) dX8_chain_144 flX8_65 (by decide) rfl rfl ?_
      refine rm_sipush (v := nI (200)) dX8_chain_147 (by decide) ?_
      refine rm_iload_n dX8_chain_150 rfl rfl ?_
      refine rm_imul dX8_chain_151 ?_
      refine rm_top (pk_mul (200) (y1)) ?_
      refine rm_iload_n dX8_chain_152 rfl rfl ?_
      refine rm_iadd dX8_chain_153 ?_
      refine rm_top (nI_add (200 * y1) (x1)) ?_
      refine rm_zald (j := 200 * y1 + x1) (x := (a 26 (200 * y1 + x1))) dX8_chain_154 (rfl) (by omega) ((show rm_cl a nl (rm_lg (rm_BB a) x1 nl) 26 (200 * y1 + x1) = a 26 (200 * y1 + x1) from by rw [rm_cl_o (by decide)])) ?_
      refine rm_if_eq (tgt := 167) dX8_chain_155 (by decide) (fun h155 => ?_) (fun h155 => ?_)
      · refine rm_iconst (v := nI (0)) dX8_chain_167 (by decide) ?_
        refine rm_iret dX8_chain_168 rfl rfl ?_
        exact ⟨by unfold q_chR; rw [h5, h13, if_pos (by rfl), rm_nv_n (n := x1) (by omega), rm_nv_n (n := y1) (by omega), show rm_BB a y1 x1 = false from decide_eq_false (fun q => q h155), if_neg (by decide)], by unfold q_chA; rw [h5, h13, if_pos (by rfl), rm_nv_n (n := x1) (by omega)]⟩
      · refine rm_aload_n dX8_chain_158 rfl rfl ?_
        refine rm_getr 27 (t := 31) dX8_chain_159 flX8_75 (by decide) rfl rfl ?_
        refine rm_iload_n dX8_chain_162 rfl rfl ?_
        refine rm_iald (f := 27) (j := y1) (x := nI (rm_lg (rm_BB a) x1 nl y1)) dX8_chain_163 rfl (by decide) rfl rfl (rfl) (show y1 < 200 from by omega) (rm_cl_r (by omega)) ?_
        refine rm_goto (tgt := 168) dX8_chain_164 (by decide) ?_
        refine rm_iret dX8_chain_168 rfl rfl ?_
        exact ⟨by unfold q_chR; rw [h5, h13, if_pos (by rfl), rm_nv_n (n := x1) (by omega), rm_nv_n (n := y1) (by omega), show rm_BB a y1 x1 = true from decide_eq_true h155, if_pos rfl], by unfold q_chA; rw [h5, h13, if_pos (by rfl), rm_nv_n (n := x1) (by omega)]⟩
    · refine rm_iconst (v := (-1 : Int32)) dX8_chain_16 (by decide) ?_
      refine rm_iret dX8_chain_17 rfl rfl ?_
      exact ⟨by unfold q_chR; rw [h13, Bool.and_false]; rfl, by unfold q_chA; rw [h13, Bool.and_false]; rfl⟩
theorem rm_and1 (x : Int32) : x &&& nI 1 = 0 ∨ x &&& nI 1 = nI 1 := by
  have h : ∀ y : BitVec 32, y &&& 1#32 = 0#32 ∨ y &&& 1#32 = 1#32 := by
    intro y
    have h1 : (y &&& 1#32).toNat = y.toNat % 2 := by rw [BitVec.toNat_and]; exact Nat.and_one_is_mod _
    rcases Nat.mod_two_eq_zero_or_one y.toNat with e | e
    · exact Or.inl (BitVec.eq_of_toNat_eq (by rw [h1, e]; rfl))
    · exact Or.inr (BitVec.eq_of_toNat_eq (by rw [h1, e]; rfl))
  rcases h x.toBitVec with e | e
  · exact Or.inl (Int32.toBitVec_inj.mp e)
  · exact Or.inr (Int32.toBitVec_inj.mp e)
theorem rm_row_z {a : zv_I} {l d : Nat} (h : ((a 18 l) >>> ((nI d) &&& 31)) &&& (nI 1) = 0) : rm_row a l d = false := decide_eq_false (by rw [h]; decide)
theorem rm_row_n {a : zv_I} {l d : Nat} (h : ¬ ((a 18 l) >>> ((nI d) &&& 31)) &&& (nI 1) = 0) : rm_row a l d = true := decide_eq_true ((rm_and1 _).resolve_left h)
def rm_fr (a : zv_I) (l : Nat) : Nat := (rm_fst (rm_row a l) 6 0).getD 0
/-- a letter has a row -/
def rm_hr (a : zv_I) (l : Nat) : Prop := rm_fst (rm_row a l) 6 0 = some (rm_fr a l)
theorem rm_hr_lt {a : zv_I} {l : Nat} (h : rm_hr a l) : rm_fr a l < 6 := by have := (rm_fst_some h).2.1; omega
theorem cM_firstRow_l (d : Nat) {a : zv_I} {l e : Nat} (hl : l < 200) : ∀ n k, rm_fst (rm_row a l) n k = some e → rm_V mX8_firstRow d 2 [.ref 3, .int (nI l), .int (nI k)] [] a (rm_p (nI e) a) := by
  intro n
  induction n with
  | zero => intro k h; cases h
  | succ n ih =>
    intro k h
    refine rm_aload_n dX8_firstRow_2 rfl rfl ?_
    refine rm_getr 14 (t := 18) dX8_firstRow_3 flX8_40 (by decide) rfl rfl ?_
    refine rm_iload_n dX8_firstRow_6 rfl rfl ?_
    refine rm_iald (f := 14) (j := l) (x := (a 18 (l))) dX8_firstRow_7 rfl (by decide) rfl rfl (rfl) (show l < 200 from by omega) (rfl) ?_
    refine rm_iload_n dX8_firstRow_8 rfl rfl ?_
    refine rm_ishr dX8_firstRow_9 ?_
    refine rm_iconst (v := nI (1)) dX8_firstRow_10 (by decide) ?_
    refine rm_iand dX8_firstRow_11 ?_
    refine rm_if_ne (tgt := 21) dX8_firstRow_12 (by decide) (fun h12 => ?_) (fun h12 => ?_)
    · refine rm_iload_n dX8_firstRow_21 rfl rfl ?_
      refine rm_iret dX8_firstRow_22 rfl rfl ?_
      rw [rm_fst_t (rm_row_n h12)] at h
      cases h
      exact ⟨rfl, rfl⟩
    · refine rm_iinc (v := nI (k + 1)) (lv' := [.ref 3, .int (nI (l)), .int (nI (k + 1))]) dX8_firstRow_15 rfl (by rw [← nI_1]; rfl) (by decide) rfl ?_
      refine rm_goto (tgt := 2) dX8_firstRow_18 (by decide) ?_
      rw [rm_fst_f (rm_row_z h12)] at h
      exact ih (k + 1) h
theorem cM_firstRow (d : Nat) {a : zv_I} {l : Nat} (hl : l < 200) (h : rm_hr a l) : rm_V mX8_firstRow d 0 [.ref 3, .int (nI l)] [] a (rm_p (nI (rm_fr a l)) a) := by
  refine rm_iconst (v := nI (0)) dX8_firstRow_0 (by decide) ?_
  refine rm_istore_n (lv' := [.ref 3, .int (nI (l)), .int (nI (0))]) dX8_firstRow_1 rfl (by decide) rfl ?_
  exact cM_firstRow_l d hl 6 0 h
def rm_sum (f : Nat → Int32) (p : Nat) : Nat → Int32
  | 0 => nI 0
  | n + 1 => rm_sum f p n + f (p + n)
def rm_su (a : zv_I) (l d p n : Nat) : Int32 := rm_sum (fun k => a 19 (48 * l + 8 * d + k)) p n
theorem cM_sumOf_l (d : Nat) {a : zv_I} {l e p many : Nat} (hl : l < 200) (he : e < 6) (hp : p + many ≤ 8) : ∀ n k, k + n = many → rm_V mX8_sumOf d 6 [.ref 3, .int (nI l), .int (nI e), .int (nI p), .int (nI many), .int (rm_su a l e p k), .int (nI (p + k))] [] a (rm_p (rm_su a l e p many) a) := by
  intro n
  induction n with
  | zero =>
    intro k hk
    have hk2 : k = many := by omega
    subst hk2
    refine rm_iload dX8_sumOf_6 rfl ?_
    refine rm_iload_n dX8_sumOf_8 rfl rfl ?_
    refine rm_iload dX8_sumOf_9 rfl ?_
    refine rm_iadd dX8_sumOf_11 ?_
    refine rm_top (nI_add (p) (k)) ?_
    refine rm_icN_ge (tgt := 43) dX8_sumOf_12 (by decide) (by omega) (by omega) (fun h12 => ?_) (fun h12 => (absurd h12 (by omega)))
    refine rm_iload dX8_sumOf_43 rfl ?_
    refine rm_iret dX8_sumOf_45 rfl rfl ?_
    exact ⟨rfl, rfl⟩
  | succ n ih =>
    intro k hk
    refine rm_iload dX8_sumOf_6 rfl ?_
    refine rm_iload_n dX8_sumOf_8 rfl rfl ?_
    refine rm_iload dX8_sumOf_9 rfl ?_
    refine rm_iadd dX8_sumOf_11 ?_
    refine rm_top (nI_add (p) (many)) ?_
    refine rm_icN_ge (tgt := 43) dX8_sumOf_12 (by decide) (by omega) (by omega) (fun h12 => (absurd h12 (by omega))) (fun h12 => ?_)
    refine rm_iload dX8_sumOf_15 rfl ?_
    refine rm_aload_n dX8_sumOf_17 rfl rfl ?_
    refine rm_getr 15 (t := 19) dX8_sumOf_18 flX8_43 (by decide) rfl rfl ?_
    refine rm_bipush (v := nI (48)) dX8_sumOf_21 (by decide) ?_
    refine rm_iload_n dX8_sumOf_23 rfl rfl ?_
    refine rm_imul dX8_sumOf_24 ?_
    refine rm_top (pk_mul (48) (l)) ?_
    refine rm_bipush (v := nI (8)) dX8_sumOf_25 (by decide) ?_
    refine rm_iload_n dX8_sumOf_27 rfl rfl ?_
    refine rm_imul dX8_sumOf_28 ?_
    refine rm_top (pk_mul (8) (e)) ?_
    refine rm_iadd dX8_sumOf_29 ?_
    refine rm_top (nI_add (48 * l) (8 * e)) ?_
    refine rm_iload dX8_sumOf_30 rfl ?_
    refine rm_iadd dX8_sumOf_32 ?_
    refine rm_top (nI_add (48 * l + (8 * e)) (p + k)) ?_
    refine rm_iald (f := 15) (j := 48 * l + (8 * e) + (p + k)) (x := (a 19 (48 * l + (8 * e) + (p + k)))) dX8_sumOf_33 rfl (by decide) rfl rfl (rfl) (show 48 * l + (8 * e) + (p + k) < 9600 from by omega) (rfl) ?_
    refine rm_iadd dX8_sumOf_34 ?_
    refine rm_istore (lv' := [.ref 3, .int (nI (l)), .int (nI (e)), .int (nI (p)), .int (nI (many)), .int ((((rm_su a l e p k)) + ((a 19 (48 * l + (8 * e) + (p + k)))))), .int (nI (p + k))]) dX8_sumOf_35 (by decide) rfl ?_
    refine rm_iinc (v := nI (p + k + 1)) (lv' := [.ref 3, .int (nI (l)), .int (nI (e)), .int (nI (p)), .int (nI (many)), .int ((((rm_su a l e p k)) + ((a 19 (48 * l + (8 * e) + (p + k)))))), .int (nI (p + k + 1))]) dX8_sumOf_37 rfl (by rw [← nI_1]; rfl) (by decide) rfl ?_
    refine rm_goto (tgt := 6) dX8_sumOf_40 (by decide) ?_
    exact ih (k + 1) (by omega)
theorem cM_sumOf (d : Nat) {a : zv_I} {l e p many : Nat} (hl : l < 200) (he : e < 6) (hp : p + many ≤ 8) : rm_V mX8_sumOf d 0 [.ref 3, .int (nI l), .int (nI e), .int (nI p), .int (nI many)] [] a (rm_p (rm_su a l e p many) a) := by
  refine rm_iconst (v := nI (0)) dX8_sumOf_0 (by decide) ?_
  refine rm_istore (lv' := [.ref 3, .int (nI (l)), .int (nI (e)), .int (nI (p)), .int (nI (many)), .int (nI (0))]) dX8_sumOf_1 (by decide) rfl ?_
  refine rm_iload_n dX8_sumOf_3 rfl rfl ?_
  refine rm_istore (lv' := [.ref 3, .int (nI (l)), .int (nI (e)), .int (nI (p)), .int (nI (many)), .int (nI (0)), .int (nI (p))]) dX8_sumOf_4 (by decide) rfl ?_
  exact cM_sumOf_l d hl he hp many 0 (by omega)
/-- a slot's thing: none, a letter, or a letter's clock -/
def rm_thw (t : Int32) : Option (Bool × Nat) := if t = 0 then none else if t < 0 then some (false, rm_nv (-1 - t)) else some (true, rm_nv (t - nI 1))
def rm_th (a : zv_I) (m s : Nat) : Option (Bool × Nat) := rm_thw (a 27 (40 * m + s))
theorem rm_thw_0 : rm_thw 0 = none := rfl
theorem rm_thw_l {l : Nat} (h : l < 200) : rm_thw (nI (l + 1)) = some (true, l) := by
  unfold rm_thw
  rw [if_neg (rm_slp h).1, if_neg (rm_slp h).2, show nI (l + 1) - nI 1 = nI l from nI_pred l, rm_nv_n (by omega)]
theorem rm_thw_c {l : Nat} (h : l < 200) : rm_thw (-1 - nI l) = some (false, l) := by
  unfold rm_thw
  rw [if_neg (rm_sln h).1, if_pos (rm_sln h).2.1, (rm_sln h).2.2.1, rm_nv_n (by omega)]
def p_ok (v : Int32) : Int32 × Int32 := (v, nI 0)
def p_no (k : Nat) : Int32 × Int32 := (-1, nI k)
def rm_kd2 (a : zv_I) (l : Nat) : Nat := rm_nv (a 10 l)
def rm_m6x (n : Int32) : Int32 := ((n - n / nI 6 * nI 6) + nI 6) - ((n - n / nI 6 * nI 6) + nI 6) / nI 6 * nI 6
def rm_m6 (n : Int32) : Nat := rm_nv (rm_m6x n)
def rm_hun (n : Int32) : Bool := decide ((-100 : Int32) ≤ n ∧ n ≤ nI 100)
theorem rm_hun_i {n : Int32} (h : rm_hun n = true) : ∃ k : Fin 201, n = Int32.ofInt ((k.1 : Int) - 100) := by
  have h := of_decide_eq_true h
  have h1 := Int32.le_iff_toInt_le.mp h.1
  have h2 := Int32.le_iff_toInt_le.mp h.2
  rw [show (-100 : Int32).toInt = -100 from by decide] at h1
  rw [show (nI 100).toInt = 100 from by decide] at h2
  refine ⟨⟨(n.toInt + 100).toNat, by omega⟩, ?_⟩
  show n = Int32.ofInt (((n.toInt + 100).toNat : Int) - 100)
  rw [show (((n.toInt + 100).toNat : Int) - 100) = n.toInt by omega, Int32.ofInt_toInt]
theorem rm_m6_k : ∀ k : Fin 201, rm_m6x (Int32.ofInt ((k.1 : Int) - 100)) = nI (rm_m6 (Int32.ofInt ((k.1 : Int) - 100))) ∧ rm_m6 (Int32.ofInt ((k.1 : Int) - 100)) < 6 := by decide +kernel
theorem rm_m6_n {n : Int32} (h : rm_hun n = true) : rm_m6x n = nI (rm_m6 n) ∧ rm_m6 n < 6 := by
  obtain ⟨k, rfl⟩ := rm_hun_i h
  exact rm_m6_k k
def p_fL (a : zv_I) (n : Int32) : Option (Bool × Nat) → Int32 × Int32
  | none => p_no 10
  | some (false, _) => p_no 11
  | some (true, l) => if rm_of 5 (rm_kd2 a l) (rm_m6 n) = true then p_ok (a 13 l) else p_no 11
def p_fC (a : zv_I) (l : Nat) (n : Int32) : Nat → Int32 × Int32
  | 1 => if rm_lt n 8 = true then p_ok (a 19 (48 * l + 8 * rm_fr a l + rm_nv n)) else p_no 12
  | 2 => if rm_lt n 6 = true then (if rm_row a l (rm_nv n) = true then p_ok (rm_su a l (rm_nv n) 0 8) else p_no 10) else p_no 12
  | _ => if rm_lt n 5 = true then p_ok (rm_su a l (rm_fr a l) 2 (rm_nv n)) else p_no 12
def p_fK (a : zv_I) (n : Int32) (w : Nat) : Option (Bool × Nat) → Int32 × Int32
  | none => p_no 10
  | some (true, _) => p_no 11
  | some (false, l) => p_fC a l n w
def p_fS (a : zv_I) : Option (Bool × Nat) → Int32 × Int32
  | none => p_ok (nI 0)
  | some (false, _) => p_no 11
  | some (true, l) => if rm_of 5 (rm_kd2 a l) 1 = true then p_ok (nI 1) else p_no 14
def p_fg (a : zv_I) (th : Option (Bool × Nat)) (n : Int32) : Nat → Int32 × Int32
  | 0 => p_fL a n th
  | 1 => p_fK a n 1 th
  | 2 => p_fK a n 2 th
  | 3 => if n < 0 then p_no 13 else p_ok n
  | 4 => p_fK a n 4 th
  | 5 => p_fS a th
  | 6 => if n = 0 then p_no 15 else p_ok (nI 100 / n)
  | _ => if n &&& nI 1 = 0 then p_no 10 else p_ok (nI 1)
def q_fg (a : zv_I) (nm : Nat) (m s w n : Int32) : Int32 × Int32 := if (rm_lt m nm && (rm_lt s 40 && (rm_lt w 8 && rm_hun n))) = true then p_fg a (rm_th a (rm_nv m) (rm_nv s)) n (rm_nv w) else p_no 1
theorem cM_letterTaken_0 (d : Nat) {a : zv_I} {k9 : Nat} {x n : Int32} (ho : rm_m6 n < 6)  : rm_V mX8_letterTaken (d + 2) 0 [.ref 3, .int (nI 0), .int (x), .int (nI (rm_m6 n))] [] a (rm_p (p_fL a n (none)).1 (zv_u a 3 24 (p_fL a n (none)).2)) := by
  refine rm_iload_n dX8_letterTaken_0 rfl rfl ?_
  refine rm_if_lt (tgt := 21) dX8_letterTaken_1 (by decide) (fun h1 => (absurd h1 (by decide))) (fun h1 => ?_)
  refine rm_iload_n dX8_letterTaken_4 rfl rfl ?_
  refine rm_if_le (tgt := 28) dX8_letterTaken_5 (by decide) (fun h5 => ?_) (fun h5 => (absurd (show nI 0 ≤ 0 by decide) h5))
  refine rm_iload_n dX8_letterTaken_28 rfl rfl ?_
  refine rm_if_ne (tgt := 41) dX8_letterTaken_29 (by decide) (fun h29 => (absurd (show nI 0 = 0 from rfl) h29)) (fun h29 => ?_)
  refine rm_aload_n dX8_letterTaken_32 rfl rfl ?_
  refine rm_bipush (v := nI (10)) dX8_letterTaken_33 (by decide) ?_
  refine rm_callV (As := [.int (nI (10))]) (st := []) dX8_letterTaken_35 cvX8_103 rfl rfl (by decide) (zv_cat_i [nI (10)]) (Nat.le_of_ble_eq_true rfl) (cM_refused (d + 1) (a) (nI (10))) (fun v b q => ?_)
  obtain ⟨rfl, rfl⟩ := q
  show rm_V _ _ 38 [.ref 3, .int (nI (0)), .int (x), .int (nI (rm_m6 n))] [.int ((-1 : Int32))] _ _
  refine rm_goto (tgt := 51) dX8_letterTaken_38 (by decide) ?_
  refine rm_iret dX8_letterTaken_51 rfl rfl ?_
  exact ⟨rfl, rfl⟩
theorem cM_letterTaken_l (d : Nat) {a : zv_I} {l : Nat} {x n : Int32} (ho : rm_m6 n < 6) (hl : l < 200) (hk : a 10 l = nI (rm_kd2 a l) ∧ rm_kd2 a l < 6) : rm_V mX8_letterTaken (d + 2) 0 [.ref 3, .int (nI (l + 1)), .int (nI l), .int (nI (rm_m6 n))] [] a (rm_p (p_fL a n (some (true, l))).1 (zv_u a 3 24 (p_fL a n (some (true, l))).2)) := by
  refine rm_iload_n dX8_letterTaken_0 rfl rfl ?_
  refine rm_if_lt (tgt := 21) dX8_letterTaken_1 (by decide) (fun h1 => (absurd h1 (rm_slp hl).2)) (fun h1 => ?_)
  refine rm_iload_n dX8_letterTaken_4 rfl rfl ?_
  refine rm_if_le (tgt := 28) dX8_letterTaken_5 (by decide) (fun h5 => ((rm_le0 (by omega) (by omega) h5).elim)) (fun h5 => ?_)
  refine rm_aload_n dX8_letterTaken_8 rfl rfl ?_
  refine rm_getr 6 (t := 10) dX8_letterTaken_9 flX8_16 (by decide) rfl rfl ?_
  refine rm_iload_n dX8_letterTaken_12 rfl rfl ?_
  refine rm_iald (f := 6) (j := l) (x := nI (rm_kd2 a l)) dX8_letterTaken_13 rfl (by decide) rfl rfl (rfl) (show l < 200 from by omega) (hk.1) ?_
  refine rm_iload_n dX8_letterTaken_14 rfl rfl ?_
  refine rm_callS (As := [.int (nI (rm_kd2 a l)), .int (nI (rm_m6 n))]) (st := []) dX8_letterTaken_15 csX8_222 rfl (by decide) (zv_cat_i [nI (rm_kd2 a l), nI (rm_m6 n)]) (Nat.le_of_ble_eq_true rfl) (cM_isOf d a (k := rm_kd2 a l) (o := rm_m6 n) hk.2 ho) (fun v b q => ?_)
  obtain ⟨rfl, rfl⟩ := q
  show rm_V _ _ 18 [.ref 3, .int (nI (l + 1)), .int (nI (l)), .int (nI (rm_m6 n))] [.int (rm_b (rm_of 5 (rm_kd2 a l) (rm_m6 n)))] _ _
  refine rm_ifB_ne (tgt := 28) dX8_letterTaken_18 (by decide) (fun h18 => ?_) (fun h18 => ?_)
  · refine rm_iload_n dX8_letterTaken_28 rfl rfl ?_
    refine rm_if_ne (tgt := 41) dX8_letterTaken_29 (by decide) (fun h29 => ?_) (fun h29 => (absurd h29 (rm_slp hl).1))
    refine rm_aload_n dX8_letterTaken_41 rfl rfl ?_
    refine rm_aload_n dX8_letterTaken_42 rfl rfl ?_
    refine rm_getr 9 (t := 13) dX8_letterTaken_43 flX8_25 (by decide) rfl rfl ?_
    refine rm_iload_n dX8_letterTaken_46 rfl rfl ?_
    refine rm_iald (f := 9) (j := l) (x := (a 13 (l))) dX8_letterTaken_47 rfl (by decide) rfl rfl (rfl) (show l < 200 from by omega) (rfl) ?_
    refine rm_callV (As := [.int ((a 13 (l)))]) (st := []) dX8_letterTaken_48 cvX8_106 rfl rfl (by decide) (zv_cat_i [(a 13 (l))]) (Nat.le_of_ble_eq_true rfl) (cM_done (d + 1) (a) ((a 13 (l)))) (fun v b q => ?_)
    obtain ⟨rfl, rfl⟩ := q
    show rm_V _ _ 51 [.ref 3, .int (nI (l + 1)), .int (nI (l)), .int (nI (rm_m6 n))] [.int ((a 13 (l)))] _ _
    refine rm_iret dX8_letterTaken_51 rfl rfl ?_
    exact ⟨by show _ = some (Value.int (if rm_of 5 (rm_kd2 a l) (rm_m6 n) = true then p_ok (a 13 l) else p_no 11).1); rw [h18, if_pos rfl]; rfl, by show zv_u a 3 24 (if rm_of 5 (rm_kd2 a l) (rm_m6 n) = true then p_ok (a 13 l) else p_no 11).2 = _; rw [h18, if_pos rfl]; rfl⟩
  · refine rm_aload_n dX8_letterTaken_21 rfl rfl ?_
    refine rm_bipush (v := nI (11)) dX8_letterTaken_22 (by decide) ?_
    refine rm_callV (As := [.int (nI (11))]) (st := []) dX8_letterTaken_24 cvX8_103 rfl rfl (by decide) (zv_cat_i [nI (11)]) (Nat.le_of_ble_eq_true rfl) (cM_refused (d + 1) (a) (nI (11))) (fun v b q => ?_)
    obtain ⟨rfl, rfl⟩ := q
    show rm_V _ _ 27 [.ref 3, .int (nI (l + 1)), .int (nI (l)), .int (nI (rm_m6 n))] [.int ((-1 : Int32))] _ _
    refine rm_iret dX8_letterTaken_27 rfl rfl ?_
    exact ⟨by show _ = some (Value.int (if rm_of 5 (rm_kd2 a l) (rm_m6 n) = true then p_ok (a 13 l) else p_no 11).1); rw [h18, if_neg (by decide)]; rfl, by show zv_u a 3 24 (if rm_of 5 (rm_kd2 a l) (rm_m6 n) = true then p_ok (a 13 l) else p_no 11).2 = _; rw [h18, if_neg (by decide)]; rfl⟩
theorem cM_letterTaken_c (d : Nat) {a : zv_I} {l : Nat} {x n : Int32} (ho : rm_m6 n < 6) (hl : l < 200) : rm_V mX8_letterTaken (d + 2) 0 [.ref 3, .int ((-1 - nI l : Int32)), .int (nI l), .int (nI (rm_m6 n))] [] a (rm_p (p_fL a n (some (false, l))).1 (zv_u a 3 24 (p_fL a n (some (false, l))).2)) := by
  refine rm_iload_n dX8_letterTaken_0 rfl rfl ?_
  refine rm_if_lt (tgt := 21) dX8_letterTaken_1 (by decide) (fun h1 => ?_) (fun h1 => (absurd (rm_sln hl).2.1 h1))
  refine rm_aload_n dX8_letterTaken_21 rfl rfl ?_
  refine rm_bipush (v := nI (11)) dX8_letterTaken_22 (by decide) ?_
  refine rm_callV (As := [.int (nI (11))]) (st := []) dX8_letterTaken_24 cvX8_103 rfl rfl (by decide) (zv_cat_i [nI (11)]) (Nat.le_of_ble_eq_true rfl) (cM_refused (d + 1) (a) (nI (11))) (fun v b q => ?_)
  obtain ⟨rfl, rfl⟩ := q
  show rm_V _ _ 27 [.ref 3, .int ((-1 - nI l : Int32)), .int (nI (l)), .int (nI (rm_m6 n))] [.int ((-1 : Int32))] _ _
  refine rm_iret dX8_letterTaken_27 rfl rfl ?_
  exact ⟨rfl, rfl⟩
theorem cM_clockTaken_1 (d : Nat) {a : zv_I} {l : Nat} {n : Int32} (hl : l < 200) (hr : rm_hr a l) : rm_V mX8_clockTaken (d + 1) 0 [.ref 3, .int (nI l), .int (nI 1), .int n] [] a (rm_p (p_fC a l n 1).1 (zv_u a 3 24 (p_fC a l n 1).2)) := by
  have hf := rm_hr_lt hr
  refine rm_aload_n dX8_clockTaken_0 rfl rfl ?_
  refine rm_iload_n dX8_clockTaken_1 rfl rfl ?_
  refine rm_callV (As := [.int (nI (l))]) (st := []) dX8_clockTaken_2 cvX8_225 rfl rfl (by decide) (zv_cat_i [nI (l)]) (Nat.le_of_ble_eq_true rfl) (cM_firstRow (d + 0) hl hr) (fun v b q => ?_)
  obtain ⟨rfl, rfl⟩ := q
  show rm_V _ _ 5 [.ref 3, .int (nI (l)), .int (nI (1)), .int (n)] [.int (nI (rm_fr a l))] _ _
  refine rm_istore (lv' := [.ref 3, .int (nI (l)), .int (nI (1)), .int (n), .int (nI (rm_fr a l))]) dX8_clockTaken_5 (by decide) rfl ?_
  refine rm_iload_n dX8_clockTaken_7 rfl rfl ?_
  refine rm_iconst (v := nI (1)) dX8_clockTaken_8 (by decide) ?_
  refine rm_icN_ne (tgt := 53) dX8_clockTaken_9 (by decide) (by omega) (by omega) (fun h9 => (absurd rfl h9)) (fun h9 => ?_)
  refine rm_iload_n dX8_clockTaken_12 rfl rfl ?_
  refine rm_iconst (v := nI (0)) dX8_clockTaken_13 (by decide) ?_
  refine rm_bipush (v := nI (7)) dX8_clockTaken_14 (by decide) ?_
  refine rm_callS (As := [.int (n), .int (nI (0)), .int (nI (7))]) (st := []) dX8_clockTaken_16 csX8_82 rfl (by decide) (zv_cat_i [n, nI (0), nI (7)]) (Nat.le_of_ble_eq_true rfl) (cM_in (d) (a) (n) (nI 0) (nI 7)) (fun v b q => ?_)
  obtain ⟨rfl, rfl⟩ := q
  rw [rm_in01 _ 7 (by decide)]
  show rm_V _ _ 19 [.ref 3, .int (nI (l)), .int (nI (1)), .int (n), .int (nI (rm_fr a l))] [.int (rm_b (rm_lt (n) 8))] _ _
  refine rm_ifB_eq (tgt := 46) dX8_clockTaken_19 (by decide) (fun h19 => ?_) (fun h19 => ?_)
  · refine rm_aload_n dX8_clockTaken_46 rfl rfl ?_
    refine rm_bipush (v := nI (12)) dX8_clockTaken_47 (by decide) ?_
    refine rm_callV (As := [.int (nI (12))]) (st := []) dX8_clockTaken_49 cvX8_103 rfl rfl (by decide) (zv_cat_i [nI (12)]) (Nat.le_of_ble_eq_true rfl) (cM_refused (d) (a) (nI (12))) (fun v b q => ?_)
    obtain ⟨rfl, rfl⟩ := q
    show rm_V _ _ 52 [.ref 3, .int (nI (l)), .int (nI (1)), .int (n), .int (nI (rm_fr a l))] [.int ((-1 : Int32))] _ _
    refine rm_iret dX8_clockTaken_52 rfl rfl ?_
    exact ⟨by show _ = some (Value.int (if rm_lt n 8 = true then p_ok (a 19 (48 * l + 8 * rm_fr a l + rm_nv n)) else p_no 12).1); rw [h19, if_neg (by decide)]; rfl, by show zv_u a 3 24 (if rm_lt n 8 = true then p_ok (a 19 (48 * l + 8 * rm_fr a l + rm_nv n)) else p_no 12).2 = _; rw [h19, if_neg (by decide)]; rfl⟩
  · obtain ⟨n1, hn1, rfl⟩ := rm_lt_t h19 (by omega)
    refine rm_aload_n dX8_clockTaken_22 rfl rfl ?_
    refine rm_aload_n dX8_clockTaken_23 rfl rfl ?_
    refine rm_getr 15 (t := 19) dX8_clockTaken_24 flX8_43 (by decide) rfl rfl ?_
    refine rm_bipush (v := nI (48)) dX8_clockTaken_27 (by decide) ?_
    refine rm_iload_n dX8_clockTaken_29 rfl rfl ?_
    refine rm_imul dX8_clockTaken_30 ?_
    refine rm_top (pk_mul (48) (l)) ?_
    refine rm_bipush (v := nI (8)) dX8_clockTaken_31 (by decide) ?_
    refine rm_iload dX8_clockTaken_33 rfl ?_
    refine rm_imul dX8_clockTaken_35 ?_
    refine rm_top (pk_mul (8) (rm_fr a l)) ?_
    refine rm_iadd dX8_clockTaken_36 ?_
    refine rm_top (nI_add (48 * l) (8 * (rm_fr a l))) ?_
    refine rm_iload_n dX8_clockTaken_37 rfl rfl ?_
    refine rm_iadd dX8_clockTaken_38 ?_
    refine rm_top (nI_add (48 * l + (8 * (rm_fr a l))) (n1)) ?_
    refine rm_iald (f := 15) (j := 48 * l + (8 * (rm_fr a l)) + n1) (x := (a 19 (48 * l + (8 * (rm_fr a l)) + n1))) dX8_clockTaken_39 rfl (by decide) rfl rfl (rfl) (show 48 * l + (8 * (rm_fr a l)) + n1 < 9600 from by omega) (rfl) ?_
    refine rm_callV (As := [.int ((a 19 (48 * l + (8 * (rm_fr a l)) + n1)))]) (st := []) dX8_clockTaken_40 cvX8_106 rfl rfl (by decide) (zv_cat_i [(a 19 (48 * l + (8 * (rm_fr a l)) + n1))]) (Nat.le_of_ble_eq_true rfl) (cM_done (d) (a) ((a 19 (48 * l + (8 * (rm_fr a l)) + n1)))) (fun v b q => ?_)
    obtain ⟨rfl, rfl⟩ := q
    show rm_V _ _ 43 [.ref 3, .int (nI (l)), .int (nI (1)), .int (nI (n1)), .int (nI (rm_fr a l))] [.int ((a 19 (48 * l + (8 * (rm_fr a l)) + n1)))] _ _
    refine rm_goto (tgt := 52) dX8_clockTaken_43 (by decide) ?_
    refine rm_iret dX8_clockTaken_52 rfl rfl ?_
    exact ⟨by show _ = some (Value.int (if rm_lt (nI n1) 8 = true then p_ok (a 19 (48 * l + 8 * rm_fr a l + rm_nv (nI n1))) else p_no 12).1); rw [h19, if_pos rfl, rm_nv_n (n := n1) (by omega)]; rfl, by show zv_u a 3 24 (if rm_lt (nI n1) 8 = true then p_ok (a 19 (48 * l + 8 * rm_fr a l + rm_nv (nI n1))) else p_no 12).2 = _; rw [h19, if_pos rfl, rm_nv_n (n := n1) (by omega)]; rfl⟩
theorem cM_clockTaken_2 (d : Nat) {a : zv_I} {l : Nat} {n : Int32} (hl : l < 200) (hr : rm_hr a l) : rm_V mX8_clockTaken (d + 1) 0 [.ref 3, .int (nI l), .int (nI 2), .int n] [] a (rm_p (p_fC a l n 2).1 (zv_u a 3 24 (p_fC a l n 2).2)) := by
  have hf := rm_hr_lt hr
  refine rm_aload_n dX8_clockTaken_0 rfl rfl ?_
  refine rm_iload_n dX8_clockTaken_1 rfl rfl ?_
  refine rm_callV (As := [.int (nI (l))]) (st := []) dX8_clockTaken_2 cvX8_225 rfl rfl (by decide) (zv_cat_i [nI (l)]) (Nat.le_of_ble_eq_true rfl) (cM_firstRow (d + 0) hl hr) (fun v b q => ?_)
  obtain ⟨rfl, rfl⟩ := q
  show rm_V _ _ 5 [.ref 3, .int (nI (l)), .int (nI (2)), .int (n)] [.int (nI (rm_fr a l))] _ _
  refine rm_istore (lv' := [.ref 3, .int (nI (l)), .int (nI (2)), .int (n), .int (nI (rm_fr a l))]) dX8_clockTaken_5 (by decide) rfl ?_
  refine rm_iload_n dX8_clockTaken_7 rfl rfl ?_
  refine rm_iconst (v := nI (1)) dX8_clockTaken_8 (by decide) ?_
  refine rm_icN_ne (tgt := 53) dX8_clockTaken_9 (by decide) (by omega) (by omega) (fun h9 => ?_) (fun h9 => (absurd h9 (by decide)))
  refine rm_iload_n dX8_clockTaken_53 rfl rfl ?_
  refine rm_iconst (v := nI (2)) dX8_clockTaken_54 (by decide) ?_
  refine rm_icN_ne (tgt := 112) dX8_clockTaken_55 (by decide) (by omega) (by omega) (fun h55 => (absurd rfl h55)) (fun h55 => ?_)
  refine rm_iload_n dX8_clockTaken_58 rfl rfl ?_
  refine rm_iconst (v := nI (0)) dX8_clockTaken_59 (by decide) ?_
  refine rm_iconst (v := nI (5)) dX8_clockTaken_60 (by decide) ?_
  refine rm_callS (As := [.int (n), .int (nI (0)), .int (nI (5))]) (st := []) dX8_clockTaken_61 csX8_82 rfl (by decide) (zv_cat_i [n, nI (0), nI (5)]) (Nat.le_of_ble_eq_true rfl) (cM_in (d) (a) (n) (nI 0) (nI 5)) (fun v b q => ?_)
  obtain ⟨rfl, rfl⟩ := q
  rw [rm_in01 _ 5 (by decide)]
  show rm_V _ _ 64 [.ref 3, .int (nI (l)), .int (nI (2)), .int (n), .int (nI (rm_fr a l))] [.int (rm_b (rm_lt (n) 6))] _ _
  refine rm_ifB_ne (tgt := 76) dX8_clockTaken_64 (by decide) (fun h64 => ?_) (fun h64 => ?_)
  · obtain ⟨n1, hn1, rfl⟩ := rm_lt_t h64 (by omega)
    refine rm_aload_n dX8_clockTaken_76 rfl rfl ?_
    refine rm_getr 14 (t := 18) dX8_clockTaken_77 flX8_40 (by decide) rfl rfl ?_
    refine rm_iload_n dX8_clockTaken_80 rfl rfl ?_
    refine rm_iald (f := 14) (j := l) (x := (a 18 (l))) dX8_clockTaken_81 rfl (by decide) rfl rfl (rfl) (show l < 200 from by omega) (rfl) ?_
    refine rm_iload_n dX8_clockTaken_82 rfl rfl ?_
    refine rm_ishr dX8_clockTaken_83 ?_
    refine rm_iconst (v := nI (1)) dX8_clockTaken_84 (by decide) ?_
    refine rm_iand dX8_clockTaken_85 ?_
    refine rm_if_ne (tgt := 98) dX8_clockTaken_86 (by decide) (fun h86 => ?_) (fun h86 => ?_)
    · refine rm_aload_n dX8_clockTaken_98 rfl rfl ?_
      refine rm_aload_n dX8_clockTaken_99 rfl rfl ?_
      refine rm_iload_n dX8_clockTaken_100 rfl rfl ?_
      refine rm_iload_n dX8_clockTaken_101 rfl rfl ?_
      refine rm_iconst (v := nI (0)) dX8_clockTaken_102 (by decide) ?_
      refine rm_bipush (v := nI (8)) dX8_clockTaken_103 (by decide) ?_
      refine rm_callV (As := [.int (nI (l)), .int (nI (n1)), .int (nI (0)), .int (nI (8))]) (st := [.ref 3]) dX8_clockTaken_105 cvX8_228 rfl rfl (by decide) (zv_cat_i [nI (l), nI (n1), nI (0), nI (8)]) (Nat.le_of_ble_eq_true rfl) (cM_sumOf d (l := l) (e := n1) (p := 0) (many := 8) hl (by omega) (by omega)) (fun v b q => ?_)
      obtain ⟨rfl, rfl⟩ := q
      show rm_V _ _ 108 [.ref 3, .int (nI (l)), .int (nI (2)), .int (nI (n1)), .int (nI (rm_fr a l))] [.int ((rm_su a l (n1) 0 8)), .ref 3] _ _
      refine rm_callV (As := [.int ((rm_su a l (n1) 0 8))]) (st := []) dX8_clockTaken_108 cvX8_106 rfl rfl (by decide) (zv_cat_i [(rm_su a l (n1) 0 8)]) (Nat.le_of_ble_eq_true rfl) (cM_done (d) (a) ((rm_su a l (n1) 0 8))) (fun v b q => ?_)
      obtain ⟨rfl, rfl⟩ := q
      show rm_V _ _ 111 [.ref 3, .int (nI (l)), .int (nI (2)), .int (nI (n1)), .int (nI (rm_fr a l))] [.int ((rm_su a l (n1) 0 8))] _ _
      refine rm_iret dX8_clockTaken_111 rfl rfl ?_
      exact ⟨by show _ = some (Value.int (if rm_lt (nI n1) 6 = true then (if rm_row a l (rm_nv (nI n1)) = true then p_ok (rm_su a l (rm_nv (nI n1)) 0 8) else p_no 10) else p_no 12).1); rw [h64, if_pos rfl, rm_nv_n (n := n1) (by omega), rm_row_n h86, if_pos rfl]; rfl, by show zv_u a 3 24 (if rm_lt (nI n1) 6 = true then (if rm_row a l (rm_nv (nI n1)) = true then p_ok (rm_su a l (rm_nv (nI n1)) 0 8) else p_no 10) else p_no 12).2 = _; rw [h64, if_pos rfl, rm_nv_n (n := n1) (by omega), rm_row_n h86, if_pos rfl]; rfl⟩
    · refine rm_aload_n dX8_clockTaken_89 rfl rfl ?_
      refine rm_bipush (v := nI (10)) dX8_clockTaken_90 (by decide) ?_
      refine rm_callV (As := [.int (nI (10))]) (st := []) dX8_clockTaken_92 cvX8_103 rfl rfl (by decide) (zv_cat_i [nI (10)]) (Nat.le_of_ble_eq_true rfl) (cM_refused (d) (a) (nI (10))) (fun v b q => ?_)
      obtain ⟨rfl, rfl⟩ := q
      show rm_V _ _ 95 [.ref 3, .int (nI (l)), .int (nI (2)), .int (nI (n1)), .int (nI (rm_fr a l))] [.int ((-1 : Int32))] _ _
      refine rm_goto (tgt := 111) dX8_clockTaken_95 (by decide) ?_
      refine rm_iret dX8_clockTaken_111 rfl rfl ?_
      exact ⟨by show _ = some (Value.int (if rm_lt (nI n1) 6 = true then (if rm_row a l (rm_nv (nI n1)) = true then p_ok (rm_su a l (rm_nv (nI n1)) 0 8) else p_no 10) else p_no 12).1); rw [h64, if_pos rfl, rm_nv_n (n := n1) (by omega), rm_row_z h86, if_neg (by decide)]; rfl, by show zv_u a 3 24 (if rm_lt (nI n1) 6 = true then (if rm_row a l (rm_nv (nI n1)) = true then p_ok (rm_su a l (rm_nv (nI n1)) 0 8) else p_no 10) else p_no 12).2 = _; rw [h64, if_pos rfl, rm_nv_n (n := n1) (by omega), rm_row_z h86, if_neg (by decide)]; rfl⟩
  · refine rm_aload_n dX8_clockTaken_67 rfl rfl ?_
    refine rm_bipush (v := nI (12)) dX8_clockTaken_68 (by decide) ?_
    refine rm_callV (As := [.int (nI (12))]) (st := []) dX8_clockTaken_70 cvX8_103 rfl rfl (by decide) (zv_cat_i [nI (12)]) (Nat.le_of_ble_eq_true rfl) (cM_refused (d) (a) (nI (12))) (fun v b q => ?_)
    obtain ⟨rfl, rfl⟩ := q
    show rm_V _ _ 73 [.ref 3, .int (nI (l)), .int (nI (2)), .int (n), .int (nI (rm_fr a l))] [.int ((-1 : Int32))] _ _
    refine rm_goto (tgt := 111) dX8_clockTaken_73 (by decide) ?_
    refine rm_iret dX8_clockTaken_111 rfl rfl ?_
    exact ⟨by show _ = some (Value.int (if rm_lt n 6 = true then (if rm_row a l (rm_nv n) = true then p_ok (rm_su a l (rm_nv n) 0 8) else p_no 10) else p_no 12).1); rw [h64, if_neg (by decide)]; rfl, by show zv_u a 3 24 (if rm_lt n 6 = true then (if rm_row a l (rm_nv n) = true then p_ok (rm_su a l (rm_nv n) 0 8) else p_no 10) else p_no 12).2 = _; rw [h64, if_neg (by decide)]; rfl⟩
theorem cM_clockTaken_4 (d : Nat) {a : zv_I} {l : Nat} {n : Int32} (hl : l < 200) (hr : rm_hr a l) : rm_V mX8_clockTaken (d + 1) 0 [.ref 3, .int (nI l), .int (nI 4), .int n] [] a (rm_p (p_fC a l n 4).1 (zv_u a 3 24 (p_fC a l n 4).2)) := by
  have hf := rm_hr_lt hr
  refine rm_aload_n dX8_clockTaken_0 rfl rfl ?_
  refine rm_iload_n dX8_clockTaken_1 rfl rfl ?_
  refine rm_callV (As := [.int (nI (l))]) (st := []) dX8_clockTaken_2 cvX8_225 rfl rfl (by decide) (zv_cat_i [nI (l)]) (Nat.le_of_ble_eq_true rfl) (cM_firstRow (d + 0) hl hr) (fun v b q => ?_)
  obtain ⟨rfl, rfl⟩ := q
  show rm_V _ _ 5 [.ref 3, .int (nI (l)), .int (nI (4)), .int (n)] [.int (nI (rm_fr a l))] _ _
  refine rm_istore (lv' := [.ref 3, .int (nI (l)), .int (nI (4)), .int (n), .int (nI (rm_fr a l))]) dX8_clockTaken_5 (by decide) rfl ?_
  refine rm_iload_n dX8_clockTaken_7 rfl rfl ?_
  refine rm_iconst (v := nI (1)) dX8_clockTaken_8 (by decide) ?_
  refine rm_icN_ne (tgt := 53) dX8_clockTaken_9 (by decide) (by omega) (by omega) (fun h9 => ?_) (fun h9 => (absurd h9 (by decide)))
  refine rm_iload_n dX8_clockTaken_53 rfl rfl ?_
  refine rm_iconst (v := nI (2)) dX8_clockTaken_54 (by decide) ?_
  refine rm_icN_ne (tgt := 112) dX8_clockTaken_55 (by decide) (by omega) (by omega) (fun h55 => ?_) (fun h55 => (absurd h55 (by decide)))
  refine rm_iload_n dX8_clockTaken_112 rfl rfl ?_
  refine rm_iconst (v := nI (0)) dX8_clockTaken_113 (by decide) ?_
  refine rm_iconst (v := nI (4)) dX8_clockTaken_114 (by decide) ?_
  refine rm_callS (As := [.int (n), .int (nI (0)), .int (nI (4))]) (st := []) dX8_clockTaken_115 csX8_82 rfl (by decide) (zv_cat_i [n, nI (0), nI (4)]) (Nat.le_of_ble_eq_true rfl) (cM_in (d) (a) (n) (nI 0) (nI 4)) (fun v b q => ?_)
  obtain ⟨rfl, rfl⟩ := q
  rw [rm_in01 _ 4 (by decide)]
  show rm_V _ _ 118 [.ref 3, .int (nI (l)), .int (nI (4)), .int (n), .int (nI (rm_fr a l))] [.int (rm_b (rm_lt (n) 5))] _ _
  refine rm_ifB_eq (tgt := 137) dX8_clockTaken_118 (by decide) (fun h118 => ?_) (fun h118 => ?_)
  · refine rm_aload_n dX8_clockTaken_137 rfl rfl ?_
    refine rm_bipush (v := nI (12)) dX8_clockTaken_138 (by decide) ?_
    refine rm_callV (As := [.int (nI (12))]) (st := []) dX8_clockTaken_140 cvX8_103 rfl rfl (by decide) (zv_cat_i [nI (12)]) (Nat.le_of_ble_eq_true rfl) (cM_refused (d) (a) (nI (12))) (fun v b q => ?_)
    obtain ⟨rfl, rfl⟩ := q
    show rm_V _ _ 143 [.ref 3, .int (nI (l)), .int (nI (4)), .int (n), .int (nI (rm_fr a l))] [.int ((-1 : Int32))] _ _
    refine rm_iret dX8_clockTaken_143 rfl rfl ?_
    exact ⟨by show _ = some (Value.int (if rm_lt n 5 = true then p_ok (rm_su a l (rm_fr a l) 2 (rm_nv n)) else p_no 12).1); rw [h118, if_neg (by decide)]; rfl, by show zv_u a 3 24 (if rm_lt n 5 = true then p_ok (rm_su a l (rm_fr a l) 2 (rm_nv n)) else p_no 12).2 = _; rw [h118, if_neg (by decide)]; rfl⟩
  · obtain ⟨n1, hn1, rfl⟩ := rm_lt_t h118 (by omega)
    refine rm_aload_n dX8_clockTaken_121 rfl rfl ?_
    refine rm_aload_n dX8_clockTaken_122 rfl rfl ?_
    refine rm_iload_n dX8_clockTaken_123 rfl rfl ?_
    refine rm_iload dX8_clockTaken_124 rfl ?_
    refine rm_iconst (v := nI (2)) dX8_clockTaken_126 (by decide) ?_
    refine rm_iload_n dX8_clockTaken_127 rfl rfl ?_
    refine rm_callV (As := [.int (nI (l)), .int (nI (rm_fr a l)), .int (nI (2)), .int (nI (n1))]) (st := [.ref 3]) dX8_clockTaken_128 cvX8_228 rfl rfl (by decide) (zv_cat_i [nI (l), nI (rm_fr a l), nI (2), nI (n1)]) (Nat.le_of_ble_eq_true rfl) (cM_sumOf d (l := l) (e := rm_fr a l) (p := 2) (many := n1) hl (by omega) (by omega)) (fun v b q => ?_)
    obtain ⟨rfl, rfl⟩ := q
    show rm_V _ _ 131 [.ref 3, .int (nI (l)), .int (nI (4)), .int (nI (n1)), .int (nI (rm_fr a l))] [.int ((rm_su a l (rm_fr a l) 2 n1)), .ref 3] _ _
    refine rm_callV (As := [.int ((rm_su a l (rm_fr a l) 2 n1))]) (st := []) dX8_clockTaken_131 cvX8_106 rfl rfl (by decide) (zv_cat_i [(rm_su a l (rm_fr a l) 2 n1)]) (Nat.le_of_ble_eq_true rfl) (cM_done (d) (a) ((rm_su a l (rm_fr a l) 2 n1))) (fun v b q => ?_)
    obtain ⟨rfl, rfl⟩ := q
    show rm_V _ _ 134 [.ref 3, .int (nI (l)), .int (nI (4)), .int (nI (n1)), .int (nI (rm_fr a l))] [.int ((rm_su a l (rm_fr a l) 2 n1))] _ _
    refine rm_goto (tgt := 143) dX8_clockTaken_134 (by decide) ?_
    refine rm_iret dX8_clockTaken_143 rfl rfl ?_
    exact ⟨by show _ = some (Value.int (if rm_lt (nI n1) 5 = true then p_ok (rm_su a l (rm_fr a l) 2 (rm_nv (nI n1))) else p_no 12).1); rw [h118, if_pos rfl, rm_nv_n (n := n1) (by omega)]; rfl, by show zv_u a 3 24 (if rm_lt (nI n1) 5 = true then p_ok (rm_su a l (rm_fr a l) 2 (rm_nv (nI n1))) else p_no 12).2 = _; rw [h118, if_pos rfl, rm_nv_n (n := n1) (by omega)]; rfl⟩
theorem cM_forge (d : Nat) {a : zv_I} {nm nl : Nat} (hm : a 3 0 = nI nm) (hmb : nm ≤ 8) (hnb : nl ≤ 200) (hsl : ∀ m s, m < nm → s < 40 → rm_sl a nl m s) (hkx : ∀ l, l < nl → a 10 l = nI (rm_kd2 a l) ∧ rm_kd2 a l < 6) (hhr : ∀ l, l < nl → rm_hr a l) (m s x n : Int32) : rm_V mX8_forge (d + 3) 0 [.ref 3, .int m, .int s, .int x, .int n] [] a (rm_p (q_fg a nm m s x n).1 (zv_u a 3 24 (q_fg a nm m s x n).2)) := by
  refine rm_aload_n dX8_forge_0 rfl rfl ?_
  refine rm_iload_n dX8_forge_1 rfl rfl ?_
  refine rm_callV (As := [.int (m)]) (st := []) dX8_forge_2 cvX8_113 rfl rfl (by decide) (zv_cat_i [m]) (Nat.le_of_ble_eq_true rfl) (cM_isMember (d + 1) hm (by omega) (m)) (fun v b q => ?_)
  obtain ⟨rfl, rfl⟩ := q
  show rm_V _ _ 5 [.ref 3, .int (m), .int (s), .int (x), .int (n)] [.int (rm_b (rm_lt (m) nm))] _ _
  refine rm_ifB_eq (tgt := 40) dX8_forge_5 (by decide) (fun h5 => ?_) (fun h5 => ?_)
  · refine rm_aload_n dX8_forge_40 rfl rfl ?_
    refine rm_iconst (v := nI (1)) dX8_forge_41 (by decide) ?_
    refine rm_callV (As := [.int (nI (1))]) (st := []) dX8_forge_42 cvX8_103 rfl rfl (by decide) (zv_cat_i [nI (1)]) (Nat.le_of_ble_eq_true rfl) (cM_refused (d + 2) (a) (nI (1))) (fun v b q => ?_)
    obtain ⟨rfl, rfl⟩ := q
    show rm_V _ _ 45 [.ref 3, .int (m), .int (s), .int (x), .int (n)] [.int ((-1 : Int32))] _ _
    refine rm_iret dX8_forge_45 rfl rfl ?_
    exact ⟨by unfold q_fg; rw [h5]; rw [if_neg (by simp)]; rfl, by unfold q_fg; rw [h5]; rw [if_neg (by simp)]; rfl⟩
  · obtain ⟨m1, hm1, rfl⟩ := rm_lt_t h5 (by omega)
    refine rm_iload_n dX8_forge_8 rfl rfl ?_
    refine rm_iconst (v := nI (0)) dX8_forge_9 (by decide) ?_
    refine rm_bipush (v := nI (39)) dX8_forge_10 (by decide) ?_
    refine rm_callS (As := [.int (s), .int (nI (0)), .int (nI (39))]) (st := []) dX8_forge_12 csX8_82 rfl (by decide) (zv_cat_i [s, nI (0), nI (39)]) (Nat.le_of_ble_eq_true rfl) (cM_in (d + 2) (a) (s) (nI 0) (nI 39)) (fun v b q => ?_)
    obtain ⟨rfl, rfl⟩ := q
    rw [rm_in01 _ 39 (by decide)]
    show rm_V _ _ 15 [.ref 3, .int (nI (m1)), .int (s), .int (x), .int (n)] [.int (rm_b (rm_lt (s) 40))] _ _
    refine rm_ifB_eq (tgt := 40) dX8_forge_15 (by decide) (fun h15 => ?_) (fun h15 => ?_)
    · refine rm_aload_n dX8_forge_40 rfl rfl ?_
      refine rm_iconst (v := nI (1)) dX8_forge_41 (by decide) ?_
      refine rm_callV (As := [.int (nI (1))]) (st := []) dX8_forge_42 cvX8_103 rfl rfl (by decide) (zv_cat_i [nI (1)]) (Nat.le_of_ble_eq_true rfl) (cM_refused (d + 2) (a) (nI (1))) (fun v b q => ?_)
      obtain ⟨rfl, rfl⟩ := q
      show rm_V _ _ 45 [.ref 3, .int (nI (m1)), .int (s), .int (x), .int (n)] [.int ((-1 : Int32))] _ _
      refine rm_iret dX8_forge_45 rfl rfl ?_
      exact ⟨by unfold q_fg; rw [h5, h15]; rw [if_neg (by simp)]; rfl, by unfold q_fg; rw [h5, h15]; rw [if_neg (by simp)]; rfl⟩
    · obtain ⟨s1, hs1, rfl⟩ := rm_lt_t h15 (by omega)
      refine rm_iload_n dX8_forge_18 rfl rfl ?_
      refine rm_iconst (v := nI (0)) dX8_forge_19 (by decide) ?_
      refine rm_bipush (v := nI (7)) dX8_forge_20 (by decide) ?_
      refine rm_callS (As := [.int (x), .int (nI (0)), .int (nI (7))]) (st := []) dX8_forge_22 csX8_82 rfl (by decide) (zv_cat_i [x, nI (0), nI (7)]) (Nat.le_of_ble_eq_true rfl) (cM_in (d + 2) (a) (x) (nI 0) (nI 7)) (fun v b q => ?_)
      obtain ⟨rfl, rfl⟩ := q
      rw [rm_in01 _ 7 (by decide)]
      show rm_V _ _ 25 [.ref 3, .int (nI (m1)), .int (nI (s1)), .int (x), .int (n)] [.int (rm_b (rm_lt (x) 8))] _ _
      refine rm_ifB_eq (tgt := 40) dX8_forge_25 (by decide) (fun h25 => ?_) (fun h25 => ?_)
      · refine rm_aload_n dX8_forge_40 rfl rfl ?_
        refine rm_iconst (v := nI (1)) dX8_forge_41 (by decide) ?_
        refine rm_callV (As := [.int (nI (1))]) (st := []) dX8_forge_42 cvX8_103 rfl rfl (by decide) (zv_cat_i [nI (1)]) (Nat.le_of_ble_eq_true rfl) (cM_refused (d + 2) (a) (nI (1))) (fun v b q => ?_)
        obtain ⟨rfl, rfl⟩ := q
        show rm_V _ _ 45 [.ref 3, .int (nI (m1)), .int (nI (s1)), .int (x), .int (n)] [.int ((-1 : Int32))] _ _
        refine rm_iret dX8_forge_45 rfl rfl ?_
        exact ⟨by unfold q_fg; rw [h5, h15, h25]; rw [if_neg (by simp)]; rfl, by unfold q_fg; rw [h5, h15, h25]; rw [if_neg (by simp)]; rfl⟩
      · obtain ⟨x1, hx1, rfl⟩ := rm_lt_t h25 (by omega)
        refine rm_iload dX8_forge_28 rfl ?_
        refine rm_bipush (v := (-100 : Int32)) dX8_forge_30 (by decide) ?_
        refine rm_bipush (v := nI (100)) dX8_forge_32 (by decide) ?_
        refine rm_callS (As := [.int (n), .int ((-100 : Int32)), .int (nI (100))]) (st := []) dX8_forge_34 csX8_82 rfl (by decide) (zv_cat_i [n, (-100 : Int32), nI (100)]) (Nat.le_of_ble_eq_true rfl) (cM_in (d + 2) a n (-100 : Int32) (nI 100)) (fun v b q => ?_)
        obtain ⟨rfl, rfl⟩ := q
        rw [show decide ((-100 : Int32) ≤ n ∧ n ≤ nI 100) = rm_hun n from rfl]
        show rm_V _ _ 37 [.ref 3, .int (nI (m1)), .int (nI (s1)), .int (nI (x1)), .int (n)] [.int (rm_b (rm_hun n))] _ _
        refine rm_ifB_ne (tgt := 46) dX8_forge_37 (by decide) (fun h37 => ?_) (fun h37 => ?_)
        · refine rm_aload_n dX8_forge_46 rfl rfl ?_
          refine rm_getr 23 (t := 27) dX8_forge_47 flX8_69 (by decide) rfl rfl ?_
          refine rm_bipush (v := nI (40)) dX8_forge_50 (by decide) ?_
          refine rm_iload_n dX8_forge_52 rfl rfl ?_
          refine rm_imul dX8_forge_53 ?_
          refine rm_top (pk_mul (40) (m1)) ?_
          refine rm_iload_n dX8_forge_54 rfl rfl ?_
          refine rm_iadd dX8_forge_55 ?_
          refine rm_top (nI_add (40 * m1) (s1)) ?_
          refine rm_iald (f := 23) (j := 40 * m1 + s1) (x := (a 27 (40 * m1 + s1))) dX8_forge_56 rfl (by decide) rfl rfl (rfl) (show 40 * m1 + s1 < 320 from by omega) (rfl) ?_
          have hqq : q_fg a nm (nI m1) (nI s1) (nI x1) n = p_fg a (rm_th a m1 s1) n x1 := by unfold q_fg; rw [h5, h15, h25, h37, if_pos (by rfl), rm_nv_n (n := m1) (by omega), rm_nv_n (n := s1) (by omega), rm_nv_n (n := x1) (by omega)]
          rw [hqq]
          unfold rm_th
          rcases hsl m1 s1 (by omega) (by omega) with hg | ⟨l9, hl9, hg⟩ | ⟨l9, hl9, hg⟩
          · rw [hg, rm_thw_0]
            rcases (show x1 = 0 ∨ x1 = 1 ∨ x1 = 2 ∨ x1 = 3 ∨ x1 = 4 ∨ x1 = 5 ∨ x1 = 6 ∨ x1 = 7 by omega) with rfl | rfl | rfl | rfl | rfl | rfl | rfl | rfl
            · refine rm_istore (lv' := [.ref 3, .int (nI (m1)), .int (nI (s1)), .int (nI (0)), .int (n), .int (nI (0))]) dX8_forge_57 (by decide) rfl ?_
              refine rm_iload dX8_forge_59 rfl ?_
              refine rm_if_ge (tgt := 71) dX8_forge_61 (by decide) (fun h61 => ?_) (fun h61 => (absurd (show (0 : Int32) ≤ nI 0 by decide) h61))
              refine rm_iload dX8_forge_71 rfl ?_
              refine rm_iconst (v := nI (1)) dX8_forge_73 (by decide) ?_
              refine rm_isub dX8_forge_74 ?_
              refine rm_istore (lv' := [.ref 3, .int (nI (m1)), .int (nI (s1)), .int (nI (0)), .int (n), .int (nI (0)), .int (((nI (0)) - (nI (1))))]) dX8_forge_75 (by decide) rfl ?_
              refine rm_iload_n dX8_forge_77 rfl rfl ?_
              refine rm_tableIn (off := 42) (tgt := 120) dX8_forge_78 (by decide) (by decide) (by decide) (by decide) ?_
              refine rm_aload_n dX8_forge_120 rfl rfl ?_
              refine rm_iload dX8_forge_121 rfl ?_
              refine rm_iload dX8_forge_123 rfl ?_
              refine rm_iload dX8_forge_125 rfl ?_
              refine rm_bipush (v := nI (6)) dX8_forge_127 (by decide) ?_
              refine rm_irem dX8_forge_129 (by decide) ?_
              refine rm_bipush (v := nI (6)) dX8_forge_130 (by decide) ?_
              refine rm_iadd dX8_forge_132 ?_
              refine rm_bipush (v := nI (6)) dX8_forge_133 (by decide) ?_
              refine rm_irem dX8_forge_135 (by decide) ?_
              refine rm_top (y := nI (rm_m6 n)) ((rm_m6_n h37).1) ?_
              refine rm_callV (As := [.int (nI (0)), .int (((nI (0)) - (nI (1)))), .int (nI (rm_m6 n))]) (st := []) dX8_forge_136 cvX8_215 rfl rfl (by decide) (zv_cat_i [nI (0), ((nI (0)) - (nI (1))), nI (rm_m6 n)]) (Nat.le_of_ble_eq_true rfl) (cM_letterTaken_0 d (k9 := 0) (x := ((nI (0)) - (nI (1)))) (rm_m6_n h37).2) (fun v b q => ?_)
              obtain ⟨rfl, rfl⟩ := q
              show rm_V _ _ 139 [.ref 3, .int (nI (m1)), .int (nI (s1)), .int (nI (0)), .int (n), .int (nI (0)), .int (((nI (0)) - (nI (1))))] [.int ((p_fL a n none).1)] _ _
              refine rm_iret dX8_forge_139 rfl rfl ?_
              exact ⟨rfl, rfl⟩
            · refine rm_istore (lv' := [.ref 3, .int (nI (m1)), .int (nI (s1)), .int (nI (1)), .int (n), .int (nI (0))]) dX8_forge_57 (by decide) rfl ?_
              refine rm_iload dX8_forge_59 rfl ?_
              refine rm_if_ge (tgt := 71) dX8_forge_61 (by decide) (fun h61 => ?_) (fun h61 => (absurd (show (0 : Int32) ≤ nI 0 by decide) h61))
              refine rm_iload dX8_forge_71 rfl ?_
              refine rm_iconst (v := nI (1)) dX8_forge_73 (by decide) ?_
              refine rm_isub dX8_forge_74 ?_
              refine rm_istore (lv' := [.ref 3, .int (nI (m1)), .int (nI (s1)), .int (nI (1)), .int (n), .int (nI (0)), .int (((nI (0)) - (nI (1))))]) dX8_forge_75 (by decide) rfl ?_
              refine rm_iload_n dX8_forge_77 rfl rfl ?_
              refine rm_tableIn (off := 62) (tgt := 140) dX8_forge_78 (by decide) (by decide) (by decide) (by decide) ?_
              refine rm_iload dX8_forge_140 rfl ?_
              refine rm_if_le (tgt := 154) dX8_forge_142 (by decide) (fun h142 => ?_) (fun h142 => (absurd (show nI 0 ≤ 0 by decide) h142))
              refine rm_iload dX8_forge_154 rfl ?_
              refine rm_if_ne (tgt := 168) dX8_forge_156 (by decide) (fun h156 => (absurd (show nI 0 = 0 from rfl) h156)) (fun h156 => ?_)
              refine rm_aload_n dX8_forge_159 rfl rfl ?_
              refine rm_bipush (v := nI (10)) dX8_forge_160 (by decide) ?_
              refine rm_callV (As := [.int (nI (10))]) (st := []) dX8_forge_162 cvX8_103 rfl rfl (by decide) (zv_cat_i [nI (10)]) (Nat.le_of_ble_eq_true rfl) (cM_refused (d + 2) (a) (nI (10))) (fun v b q => ?_)
              obtain ⟨rfl, rfl⟩ := q
              show rm_V _ _ 165 [.ref 3, .int (nI (m1)), .int (nI (s1)), .int (nI (1)), .int (n), .int (nI (0)), .int (((nI (0)) - (nI (1))))] [.int ((-1 : Int32))] _ _
              refine rm_goto (tgt := 177) dX8_forge_165 (by decide) ?_
              refine rm_iret dX8_forge_177 rfl rfl ?_
              exact ⟨rfl, rfl⟩
            · refine rm_istore (lv' := [.ref 3, .int (nI (m1)), .int (nI (s1)), .int (nI (2)), .int (n), .int (nI (0))]) dX8_forge_57 (by decide) rfl ?_
              refine rm_iload dX8_forge_59 rfl ?_
              refine rm_if_ge (tgt := 71) dX8_forge_61 (by decide) (fun h61 => ?_) (fun h61 => (absurd (show (0 : Int32) ≤ nI 0 by decide) h61))
              refine rm_iload dX8_forge_71 rfl ?_
              refine rm_iconst (v := nI (1)) dX8_forge_73 (by decide) ?_
              refine rm_isub dX8_forge_74 ?_
              refine rm_istore (lv' := [.ref 3, .int (nI (m1)), .int (nI (s1)), .int (nI (2)), .int (n), .int (nI (0)), .int (((nI (0)) - (nI (1))))]) dX8_forge_75 (by decide) rfl ?_
              refine rm_iload_n dX8_forge_77 rfl rfl ?_
              refine rm_tableIn (off := 62) (tgt := 140) dX8_forge_78 (by decide) (by decide) (by decide) (by decide) ?_
              refine rm_iload dX8_forge_140 rfl ?_
              refine rm_if_le (tgt := 154) dX8_forge_142 (by decide) (fun h142 => ?_) (fun h142 => (absurd (show nI 0 ≤ 0 by decide) h142))
              refine rm_iload dX8_forge_154 rfl ?_
              refine rm_if_ne (tgt := 168) dX8_forge_156 (by decide) (fun h156 => (absurd (show nI 0 = 0 from rfl) h156)) (fun h156 => ?_)
              refine rm_aload_n dX8_forge_159 rfl rfl ?_
              refine rm_bipush (v := nI (10)) dX8_forge_160 (by decide) ?_
              refine rm_callV (As := [.int (nI (10))]) (st := []) dX8_forge_162 cvX8_103 rfl rfl (by decide) (zv_cat_i [nI (10)]) (Nat.le_of_ble_eq_true rfl) (cM_refused (d + 2) (a) (nI (10))) (fun v b q => ?_)
              obtain ⟨rfl, rfl⟩ := q
              show rm_V _ _ 165 [.ref 3, .int (nI (m1)), .int (nI (s1)), .int (nI (2)), .int (n), .int (nI (0)), .int (((nI (0)) - (nI (1))))] [.int ((-1 : Int32))] _ _
              refine rm_goto (tgt := 177) dX8_forge_165 (by decide) ?_
              refine rm_iret dX8_forge_177 rfl rfl ?_
              exact ⟨rfl, rfl⟩
            · refine rm_istore (lv' := [.ref 3, .int (nI (m1)), .int (nI (s1)), .int (nI (3)), .int (n), .int (nI (0))]) dX8_forge_57 (by decide) rfl ?_
              refine rm_iload dX8_forge_59 rfl ?_
              refine rm_if_ge (tgt := 71) dX8_forge_61 (by decide) (fun h61 => ?_) (fun h61 => (absurd (show (0 : Int32) ≤ nI 0 by decide) h61))
              refine rm_iload dX8_forge_71 rfl ?_
              refine rm_iconst (v := nI (1)) dX8_forge_73 (by decide) ?_
              refine rm_isub dX8_forge_74 ?_
              refine rm_istore (lv' := [.ref 3, .int (nI (m1)), .int (nI (s1)), .int (nI (3)), .int (n), .int (nI (0)), .int (((nI (0)) - (nI (1))))]) dX8_forge_75 (by decide) rfl ?_
              refine rm_iload_n dX8_forge_77 rfl rfl ?_
              refine rm_tableIn (off := 100) (tgt := 178) dX8_forge_78 (by decide) (by decide) (by decide) (by decide) ?_
              refine rm_iload dX8_forge_178 rfl ?_
              refine rm_if_ge (tgt := 192) dX8_forge_180 (by decide) (fun h180 => ?_) (fun h180 => ?_)
              · refine rm_aload_n dX8_forge_192 rfl rfl ?_
                refine rm_iload dX8_forge_193 rfl ?_
                refine rm_callV (As := [.int (n)]) (st := []) dX8_forge_195 cvX8_106 rfl rfl (by decide) (zv_cat_i [n]) (Nat.le_of_ble_eq_true rfl) (cM_done (d + 2) (a) (n)) (fun v b q => ?_)
                obtain ⟨rfl, rfl⟩ := q
                show rm_V _ _ 198 [.ref 3, .int (nI (m1)), .int (nI (s1)), .int (nI (3)), .int (n), .int (nI (0)), .int (((nI (0)) - (nI (1))))] [.int (n)] _ _
                refine rm_iret dX8_forge_198 rfl rfl ?_
                exact ⟨by show _ = some (Value.int (if n < 0 then p_no 13 else p_ok n).1); rw [if_neg (Int32.not_lt.mpr h180)]; rfl, by show zv_u a 3 24 (if n < 0 then p_no 13 else p_ok n).2 = _; rw [if_neg (Int32.not_lt.mpr h180)]; rfl⟩
              · refine rm_aload_n dX8_forge_183 rfl rfl ?_
                refine rm_bipush (v := nI (13)) dX8_forge_184 (by decide) ?_
                refine rm_callV (As := [.int (nI (13))]) (st := []) dX8_forge_186 cvX8_103 rfl rfl (by decide) (zv_cat_i [nI (13)]) (Nat.le_of_ble_eq_true rfl) (cM_refused (d + 2) (a) (nI (13))) (fun v b q => ?_)
                obtain ⟨rfl, rfl⟩ := q
                show rm_V _ _ 189 [.ref 3, .int (nI (m1)), .int (nI (s1)), .int (nI (3)), .int (n), .int (nI (0)), .int (((nI (0)) - (nI (1))))] [.int ((-1 : Int32))] _ _
                refine rm_goto (tgt := 198) dX8_forge_189 (by decide) ?_
                refine rm_iret dX8_forge_198 rfl rfl ?_
                exact ⟨by show _ = some (Value.int (if n < 0 then p_no 13 else p_ok n).1); rw [if_pos (Int32.not_le.mp h180)]; rfl, by show zv_u a 3 24 (if n < 0 then p_no 13 else p_ok n).2 = _; rw [if_pos (Int32.not_le.mp h180)]; rfl⟩
            · refine rm_istore (lv' := [.ref 3, .int (nI (m1)), .int (nI (s1)), .int (nI (4)), .int (n), .int (nI (0))]) dX8_forge_57 (by decide) rfl ?_
              refine rm_iload dX8_forge_59 rfl ?_
              refine rm_if_ge (tgt := 71) dX8_forge_61 (by decide) (fun h61 => ?_) (fun h61 => (absurd (show (0 : Int32) ≤ nI 0 by decide) h61))
              refine rm_iload dX8_forge_71 rfl ?_
              refine rm_iconst (v := nI (1)) dX8_forge_73 (by decide) ?_
              refine rm_isub dX8_forge_74 ?_
              refine rm_istore (lv' := [.ref 3, .int (nI (m1)), .int (nI (s1)), .int (nI (4)), .int (n), .int (nI (0)), .int (((nI (0)) - (nI (1))))]) dX8_forge_75 (by decide) rfl ?_
              refine rm_iload_n dX8_forge_77 rfl rfl ?_
              refine rm_tableIn (off := 62) (tgt := 140) dX8_forge_78 (by decide) (by decide) (by decide) (by decide) ?_
              refine rm_iload dX8_forge_140 rfl ?_
              refine rm_if_le (tgt := 154) dX8_forge_142 (by decide) (fun h142 => ?_) (fun h142 => (absurd (show nI 0 ≤ 0 by decide) h142))
              refine rm_iload dX8_forge_154 rfl ?_
              refine rm_if_ne (tgt := 168) dX8_forge_156 (by decide) (fun h156 => (absurd (show nI 0 = 0 from rfl) h156)) (fun h156 => ?_)
              refine rm_aload_n dX8_forge_159 rfl rfl ?_
              refine rm_bipush (v := nI (10)) dX8_forge_160 (by decide) ?_
              refine rm_callV (As := [.int (nI (10))]) (st := []) dX8_forge_162 cvX8_103 rfl rfl (by decide) (zv_cat_i [nI (10)]) (Nat.le_of_ble_eq_true rfl) (cM_refused (d + 2) (a) (nI (10))) (fun v b q => ?_)
              obtain ⟨rfl, rfl⟩ := q
              show rm_V _ _ 165 [.ref 3, .int (nI (m1)), .int (nI (s1)), .int (nI (4)), .int (n), .int (nI (0)), .int (((nI (0)) - (nI (1))))] [.int ((-1 : Int32))] _ _
              refine rm_goto (tgt := 177) dX8_forge_165 (by decide) ?_
              refine rm_iret dX8_forge_177 rfl rfl ?_
              exact ⟨rfl, rfl⟩
            · refine rm_istore (lv' := [.ref 3, .int (nI (m1)), .int (nI (s1)), .int (nI (5)), .int (n), .int (nI (0))]) dX8_forge_57 (by decide) rfl ?_
              refine rm_iload dX8_forge_59 rfl ?_
              refine rm_if_ge (tgt := 71) dX8_forge_61 (by decide) (fun h61 => ?_) (fun h61 => (absurd (show (0 : Int32) ≤ nI 0 by decide) h61))
              refine rm_iload dX8_forge_71 rfl ?_
              refine rm_iconst (v := nI (1)) dX8_forge_73 (by decide) ?_
              refine rm_isub dX8_forge_74 ?_
              refine rm_istore (lv' := [.ref 3, .int (nI (m1)), .int (nI (s1)), .int (nI (5)), .int (n), .int (nI (0)), .int (((nI (0)) - (nI (1))))]) dX8_forge_75 (by decide) rfl ?_
              refine rm_iload_n dX8_forge_77 rfl rfl ?_
              refine rm_tableIn (off := 121) (tgt := 199) dX8_forge_78 (by decide) (by decide) (by decide) (by decide) ?_
              refine rm_iload dX8_forge_199 rfl ?_
              refine rm_if_ge (tgt := 213) dX8_forge_201 (by decide) (fun h201 => ?_) (fun h201 => (absurd (show (0 : Int32) ≤ nI 0 by decide) h201))
              refine rm_iload dX8_forge_213 rfl ?_
              refine rm_if_le (tgt := 241) dX8_forge_215 (by decide) (fun h215 => ?_) (fun h215 => (absurd (show nI 0 ≤ 0 by decide) h215))
              refine rm_aload_n dX8_forge_241 rfl rfl ?_
              refine rm_iload dX8_forge_242 rfl ?_
              refine rm_if_le (tgt := 251) dX8_forge_244 (by decide) (fun h244 => ?_) (fun h244 => (absurd (show nI 0 ≤ 0 by decide) h244))
              refine rm_iconst (v := nI (0)) dX8_forge_251 (by decide) ?_
              refine rm_callV (As := [.int (nI (0))]) (st := []) dX8_forge_252 cvX8_106 rfl rfl (by decide) (zv_cat_i [nI (0)]) (Nat.le_of_ble_eq_true rfl) (cM_done (d + 2) (a) (nI (0))) (fun v b q => ?_)
              obtain ⟨rfl, rfl⟩ := q
              show rm_V _ _ 255 [.ref 3, .int (nI (m1)), .int (nI (s1)), .int (nI (5)), .int (n), .int (nI (0)), .int (((nI (0)) - (nI (1))))] [.int (nI (0))] _ _
              refine rm_iret dX8_forge_255 rfl rfl ?_
              exact ⟨rfl, rfl⟩
            · refine rm_istore (lv' := [.ref 3, .int (nI (m1)), .int (nI (s1)), .int (nI (6)), .int (n), .int (nI (0))]) dX8_forge_57 (by decide) rfl ?_
              refine rm_iload dX8_forge_59 rfl ?_
              refine rm_if_ge (tgt := 71) dX8_forge_61 (by decide) (fun h61 => ?_) (fun h61 => (absurd (show (0 : Int32) ≤ nI 0 by decide) h61))
              refine rm_iload dX8_forge_71 rfl ?_
              refine rm_iconst (v := nI (1)) dX8_forge_73 (by decide) ?_
              refine rm_isub dX8_forge_74 ?_
              refine rm_istore (lv' := [.ref 3, .int (nI (m1)), .int (nI (s1)), .int (nI (6)), .int (n), .int (nI (0)), .int (((nI (0)) - (nI (1))))]) dX8_forge_75 (by decide) rfl ?_
              refine rm_iload_n dX8_forge_77 rfl rfl ?_
              refine rm_tableIn (off := 178) (tgt := 256) dX8_forge_78 (by decide) (by decide) (by decide) (by decide) ?_
              refine rm_iload dX8_forge_256 rfl ?_
              refine rm_if_ne (tgt := 270) dX8_forge_258 (by decide) (fun h258 => ?_) (fun h258 => ?_)
              · refine rm_aload_n dX8_forge_270 rfl rfl ?_
                refine rm_bipush (v := nI (100)) dX8_forge_271 (by decide) ?_
                refine rm_iload dX8_forge_273 rfl ?_
                refine rm_idiv dX8_forge_275 h258 ?_
                refine rm_callV (As := [.int (((nI (100)) / (n)))]) (st := []) dX8_forge_276 cvX8_106 rfl rfl (by decide) (zv_cat_i [((nI (100)) / (n))]) (Nat.le_of_ble_eq_true rfl) (cM_done (d + 2) (a) (((nI (100)) / (n)))) (fun v b q => ?_)
                obtain ⟨rfl, rfl⟩ := q
                show rm_V _ _ 279 [.ref 3, .int (nI (m1)), .int (nI (s1)), .int (nI (6)), .int (n), .int (nI (0)), .int (((nI (0)) - (nI (1))))] [.int (((nI (100)) / (n)))] _ _
                refine rm_iret dX8_forge_279 rfl rfl ?_
                exact ⟨by show _ = some (Value.int (if n = 0 then p_no 15 else p_ok (nI 100 / n)).1); rw [if_neg h258]; rfl, by show zv_u a 3 24 (if n = 0 then p_no 15 else p_ok (nI 100 / n)).2 = _; rw [if_neg h258]; rfl⟩
              · refine rm_aload_n dX8_forge_261 rfl rfl ?_
                refine rm_bipush (v := nI (15)) dX8_forge_262 (by decide) ?_
                refine rm_callV (As := [.int (nI (15))]) (st := []) dX8_forge_264 cvX8_103 rfl rfl (by decide) (zv_cat_i [nI (15)]) (Nat.le_of_ble_eq_true rfl) (cM_refused (d + 2) (a) (nI (15))) (fun v b q => ?_)
                obtain ⟨rfl, rfl⟩ := q
                show rm_V _ _ 267 [.ref 3, .int (nI (m1)), .int (nI (s1)), .int (nI (6)), .int (n), .int (nI (0)), .int (((nI (0)) - (nI (1))))] [.int ((-1 : Int32))] _ _
                refine rm_goto (tgt := 279) dX8_forge_267 (by decide) ?_
                refine rm_iret dX8_forge_279 rfl rfl ?_
                exact ⟨by show _ = some (Value.int (if n = 0 then p_no 15 else p_ok (nI 100 / n)).1); rw [if_pos h258]; rfl, by show zv_u a 3 24 (if n = 0 then p_no 15 else p_ok (nI 100 / n)).2 = _; rw [if_pos h258]; rfl⟩
            · refine rm_istore (lv' := [.ref 3, .int (nI (m1)), .int (nI (s1)), .int (nI (7)), .int (n), .int (nI (0))]) dX8_forge_57 (by decide) rfl ?_
              refine rm_iload dX8_forge_59 rfl ?_
              refine rm_if_ge (tgt := 71) dX8_forge_61 (by decide) (fun h61 => ?_) (fun h61 => (absurd (show (0 : Int32) ≤ nI 0 by decide) h61))
              refine rm_iload dX8_forge_71 rfl ?_
              refine rm_iconst (v := nI (1)) dX8_forge_73 (by decide) ?_
              refine rm_isub dX8_forge_74 ?_
              refine rm_istore (lv' := [.ref 3, .int (nI (m1)), .int (nI (s1)), .int (nI (7)), .int (n), .int (nI (0)), .int (((nI (0)) - (nI (1))))]) dX8_forge_75 (by decide) rfl ?_
              refine rm_iload_n dX8_forge_77 rfl rfl ?_
              refine rm_tableOut (tgt := 280) dX8_forge_78 (by decide) (by decide) ?_
              refine rm_iload dX8_forge_280 rfl ?_
              refine rm_iconst (v := nI (1)) dX8_forge_282 (by decide) ?_
              refine rm_iand dX8_forge_283 ?_
              refine rm_if_ne (tgt := 296) dX8_forge_284 (by decide) (fun h284 => ?_) (fun h284 => ?_)
              · refine rm_aload_n dX8_forge_296 rfl rfl ?_
                refine rm_iconst (v := nI (1)) dX8_forge_297 (by decide) ?_
                refine rm_callV (As := [.int (nI (1))]) (st := []) dX8_forge_298 cvX8_106 rfl rfl (by decide) (zv_cat_i [nI (1)]) (Nat.le_of_ble_eq_true rfl) (cM_done (d + 2) (a) (nI (1))) (fun v b q => ?_)
                obtain ⟨rfl, rfl⟩ := q
                show rm_V _ _ 301 [.ref 3, .int (nI (m1)), .int (nI (s1)), .int (nI (7)), .int (n), .int (nI (0)), .int (((nI (0)) - (nI (1))))] [.int (nI (1))] _ _
                refine rm_iret dX8_forge_301 rfl rfl ?_
                exact ⟨by show _ = some (Value.int (if n &&& nI 1 = 0 then p_no 10 else p_ok (nI 1)).1); rw [if_neg h284]; rfl, by show zv_u a 3 24 (if n &&& nI 1 = 0 then p_no 10 else p_ok (nI 1)).2 = _; rw [if_neg h284]; rfl⟩
              · refine rm_aload_n dX8_forge_287 rfl rfl ?_
                refine rm_bipush (v := nI (10)) dX8_forge_288 (by decide) ?_
                refine rm_callV (As := [.int (nI (10))]) (st := []) dX8_forge_290 cvX8_103 rfl rfl (by decide) (zv_cat_i [nI (10)]) (Nat.le_of_ble_eq_true rfl) (cM_refused (d + 2) (a) (nI (10))) (fun v b q => ?_)
                obtain ⟨rfl, rfl⟩ := q
                show rm_V _ _ 293 [.ref 3, .int (nI (m1)), .int (nI (s1)), .int (nI (7)), .int (n), .int (nI (0)), .int (((nI (0)) - (nI (1))))] [.int ((-1 : Int32))] _ _
                refine rm_goto (tgt := 301) dX8_forge_293 (by decide) ?_
                refine rm_iret dX8_forge_301 rfl rfl ?_
                exact ⟨by show _ = some (Value.int (if n &&& nI 1 = 0 then p_no 10 else p_ok (nI 1)).1); rw [if_pos h284]; rfl, by show zv_u a 3 24 (if n &&& nI 1 = 0 then p_no 10 else p_ok (nI 1)).2 = _; rw [if_pos h284]; rfl⟩
          · rw [hg, rm_thw_l (by omega)]
            have hl8 : l9 < 200 := by omega
            rcases (show x1 = 0 ∨ x1 = 1 ∨ x1 = 2 ∨ x1 = 3 ∨ x1 = 4 ∨ x1 = 5 ∨ x1 = 6 ∨ x1 = 7 by omega) with rfl | rfl | rfl | rfl | rfl | rfl | rfl | rfl
            · refine rm_istore (lv' := [.ref 3, .int (nI (m1)), .int (nI (s1)), .int (nI (0)), .int (n), .int (nI (l9 + 1))]) dX8_forge_57 (by decide) rfl ?_
              refine rm_iload dX8_forge_59 rfl ?_
              refine rm_if_ge (tgt := 71) dX8_forge_61 (by decide) (fun h61 => ?_) (fun h61 => (absurd (Int32.not_lt.mp (rm_slp hl8).2) h61))
              refine rm_iload dX8_forge_71 rfl ?_
              refine rm_iconst (v := nI (1)) dX8_forge_73 (by decide) ?_
              refine rm_isub dX8_forge_74 ?_
              refine rm_top (y := nI (l9)) (nI_pred l9) ?_
              refine rm_istore (lv' := [.ref 3, .int (nI (m1)), .int (nI (s1)), .int (nI (0)), .int (n), .int (nI (l9 + 1)), .int (nI (l9))]) dX8_forge_75 (by decide) rfl ?_
              refine rm_iload_n dX8_forge_77 rfl rfl ?_
              refine rm_tableIn (off := 42) (tgt := 120) dX8_forge_78 (by decide) (by decide) (by decide) (by decide) ?_
              refine rm_aload_n dX8_forge_120 rfl rfl ?_
              refine rm_iload dX8_forge_121 rfl ?_
              refine rm_iload dX8_forge_123 rfl ?_
              refine rm_iload dX8_forge_125 rfl ?_
              refine rm_bipush (v := nI (6)) dX8_forge_127 (by decide) ?_
              refine rm_irem dX8_forge_129 (by decide) ?_
              refine rm_bipush (v := nI (6)) dX8_forge_130 (by decide) ?_
              refine rm_iadd dX8_forge_132 ?_
              refine rm_bipush (v := nI (6)) dX8_forge_133 (by decide) ?_
              refine rm_irem dX8_forge_135 (by decide) ?_
              refine rm_top (y := nI (rm_m6 n)) ((rm_m6_n h37).1) ?_
              refine rm_callV (As := [.int (nI (l9 + 1)), .int (nI (l9)), .int (nI (rm_m6 n))]) (st := []) dX8_forge_136 cvX8_215 rfl rfl (by decide) (zv_cat_i [nI (l9 + 1), nI (l9), nI (rm_m6 n)]) (Nat.le_of_ble_eq_true rfl) (cM_letterTaken_l d (x := nI 0 - nI 1) (rm_m6_n h37).2 (l := l9) hl8 (hkx l9 hl9)) (fun v b q => ?_)
              obtain ⟨rfl, rfl⟩ := q
              show rm_V _ _ 139 [.ref 3, .int (nI (m1)), .int (nI (s1)), .int (nI (0)), .int (n), .int (nI (l9 + 1)), .int (nI (l9))] [.int ((p_fL a n (some (true, l9))).1)] _ _
              refine rm_iret dX8_forge_139 rfl rfl ?_
              exact ⟨rfl, rfl⟩
            · refine rm_istore (lv' := [.ref 3, .int (nI (m1)), .int (nI (s1)), .int (nI (1)), .int (n), .int (nI (l9 + 1))]) dX8_forge_57 (by decide) rfl ?_
              refine rm_iload dX8_forge_59 rfl ?_
              refine rm_if_ge (tgt := 71) dX8_forge_61 (by decide) (fun h61 => ?_) (fun h61 => (absurd (Int32.not_lt.mp (rm_slp hl8).2) h61))
              refine rm_iload dX8_forge_71 rfl ?_
              refine rm_iconst (v := nI (1)) dX8_forge_73 (by decide) ?_
              refine rm_isub dX8_forge_74 ?_
              refine rm_top (y := nI (l9)) (nI_pred l9) ?_
              refine rm_istore (lv' := [.ref 3, .int (nI (m1)), .int (nI (s1)), .int (nI (1)), .int (n), .int (nI (l9 + 1)), .int (nI (l9))]) dX8_forge_75 (by decide) rfl ?_
              refine rm_iload_n dX8_forge_77 rfl rfl ?_
              refine rm_tableIn (off := 62) (tgt := 140) dX8_forge_78 (by decide) (by decide) (by decide) (by decide) ?_
              refine rm_iload dX8_forge_140 rfl ?_
              refine rm_if_le (tgt := 154) dX8_forge_142 (by decide) (fun h142 => ((rm_le0 (by omega) (by omega) h142).elim)) (fun h142 => ?_)
              refine rm_aload_n dX8_forge_145 rfl rfl ?_
              refine rm_bipush (v := nI (11)) dX8_forge_146 (by decide) ?_
              refine rm_callV (As := [.int (nI (11))]) (st := []) dX8_forge_148 cvX8_103 rfl rfl (by decide) (zv_cat_i [nI (11)]) (Nat.le_of_ble_eq_true rfl) (cM_refused (d + 2) (a) (nI (11))) (fun v b q => ?_)
              obtain ⟨rfl, rfl⟩ := q
              show rm_V _ _ 151 [.ref 3, .int (nI (m1)), .int (nI (s1)), .int (nI (1)), .int (n), .int (nI (l9 + 1)), .int (nI (l9))] [.int ((-1 : Int32))] _ _
              refine rm_goto (tgt := 177) dX8_forge_151 (by decide) ?_
              refine rm_iret dX8_forge_177 rfl rfl ?_
              exact ⟨rfl, rfl⟩
            · refine rm_istore (lv' := [.ref 3, .int (nI (m1)), .int (nI (s1)), .int (nI (2)), .int (n), .int (nI (l9 + 1))]) dX8_forge_57 (by decide) rfl ?_
              refine rm_iload dX8_forge_59 rfl ?_
              refine rm_if_ge (tgt := 71) dX8_forge_61 (by decide) (fun h61 => ?_) (fun h61 => (absurd (Int32.not_lt.mp (rm_slp hl8).2) h61))
              refine rm_iload dX8_forge_71 rfl ?_
              refine rm_iconst (v := nI (1)) dX8_forge_73 (by decide) ?_
              refine rm_isub dX8_forge_74 ?_
              refine rm_top (y := nI (l9)) (nI_pred l9) ?_
              refine rm_istore (lv' := [.ref 3, .int (nI (m1)), .int (nI (s1)), .int (nI (2)), .int (n), .int (nI (l9 + 1)), .int (nI (l9))]) dX8_forge_75 (by decide) rfl ?_
              refine rm_iload_n dX8_forge_77 rfl rfl ?_
              refine rm_tableIn (off := 62) (tgt := 140) dX8_forge_78 (by decide) (by decide) (by decide) (by decide) ?_
              refine rm_iload dX8_forge_140 rfl ?_
              refine rm_if_le (tgt := 154) dX8_forge_142 (by decide) (fun h142 => ((rm_le0 (by omega) (by omega) h142).elim)) (fun h142 => ?_)
              refine rm_aload_n dX8_forge_145 rfl rfl ?_
              refine rm_bipush (v := nI (11)) dX8_forge_146 (by decide) ?_
              refine rm_callV (As := [.int (nI (11))]) (st := []) dX8_forge_148 cvX8_103 rfl rfl (by decide) (zv_cat_i [nI (11)]) (Nat.le_of_ble_eq_true rfl) (cM_refused (d + 2) (a) (nI (11))) (fun v b q => ?_)
              obtain ⟨rfl, rfl⟩ := q
              show rm_V _ _ 151 [.ref 3, .int (nI (m1)), .int (nI (s1)), .int (nI (2)), .int (n), .int (nI (l9 + 1)), .int (nI (l9))] [.int ((-1 : Int32))] _ _
              refine rm_goto (tgt := 177) dX8_forge_151 (by decide) ?_
              refine rm_iret dX8_forge_177 rfl rfl ?_
              exact ⟨rfl, rfl⟩
            · refine rm_istore (lv' := [.ref 3, .int (nI (m1)), .int (nI (s1)), .int (nI (3)), .int (n), .int (nI (l9 + 1))]) dX8_forge_57 (by decide) rfl ?_
              refine rm_iload dX8_forge_59 rfl ?_
              refine rm_if_ge (tgt := 71) dX8_forge_61 (by decide) (fun h61 => ?_) (fun h61 => (absurd (Int32.not_lt.mp (rm_slp hl8).2) h61))
              refine rm_iload dX8_forge_71 rfl ?_
              refine rm_iconst (v := nI (1)) dX8_forge_73 (by decide) ?_
              refine rm_isub dX8_forge_74 ?_
              refine rm_top (y := nI (l9)) (nI_pred l9) ?_
              refine rm_istore (lv' := [.ref 3, .int (nI (m1)), .int (nI (s1)), .int (nI (3)), .int (n), .int (nI (l9 + 1)), .int (nI (l9))]) dX8_forge_75 (by decide) rfl ?_
              refine rm_iload_n dX8_forge_77 rfl rfl ?_
              refine rm_tableIn (off := 100) (tgt := 178) dX8_forge_78 (by decide) (by decide) (by decide) (by decide) ?_
              refine rm_iload dX8_forge_178 rfl ?_
              refine rm_if_ge (tgt := 192) dX8_forge_180 (by decide) (fun h180 => ?_) (fun h180 => ?_)
              · refine rm_aload_n dX8_forge_192 rfl rfl ?_
                refine rm_iload dX8_forge_193 rfl ?_
                refine rm_callV (As := [.int (n)]) (st := []) dX8_forge_195 cvX8_106 rfl rfl (by decide) (zv_cat_i [n]) (Nat.le_of_ble_eq_true rfl) (cM_done (d + 2) (a) (n)) (fun v b q => ?_)
                obtain ⟨rfl, rfl⟩ := q
                show rm_V _ _ 198 [.ref 3, .int (nI (m1)), .int (nI (s1)), .int (nI (3)), .int (n), .int (nI (l9 + 1)), .int (nI (l9))] [.int (n)] _ _
                refine rm_iret dX8_forge_198 rfl rfl ?_
                exact ⟨by show _ = some (Value.int (if n < 0 then p_no 13 else p_ok n).1); rw [if_neg (Int32.not_lt.mpr h180)]; rfl, by show zv_u a 3 24 (if n < 0 then p_no 13 else p_ok n).2 = _; rw [if_neg (Int32.not_lt.mpr h180)]; rfl⟩
              · refine rm_aload_n dX8_forge_183 rfl rfl ?_
                refine rm_bipush (v := nI (13)) dX8_forge_184 (by decide) ?_
                refine rm_callV (As := [.int (nI (13))]) (st := []) dX8_forge_186 cvX8_103 rfl rfl (by decide) (zv_cat_i [nI (13)]) (Nat.le_of_ble_eq_true rfl) (cM_refused (d + 2) (a) (nI (13))) (fun v b q => ?_)
                obtain ⟨rfl, rfl⟩ := q
                show rm_V _ _ 189 [.ref 3, .int (nI (m1)), .int (nI (s1)), .int (nI (3)), .int (n), .int (nI (l9 + 1)), .int (nI (l9))] [.int ((-1 : Int32))] _ _
                refine rm_goto (tgt := 198) dX8_forge_189 (by decide) ?_
                refine rm_iret dX8_forge_198 rfl rfl ?_
                exact ⟨by show _ = some (Value.int (if n < 0 then p_no 13 else p_ok n).1); rw [if_pos (Int32.not_le.mp h180)]; rfl, by show zv_u a 3 24 (if n < 0 then p_no 13 else p_ok n).2 = _; rw [if_pos (Int32.not_le.mp h180)]; rfl⟩
            · refine rm_istore (lv' := [.ref 3, .int (nI (m1)), .int (nI (s1)), .int (nI (4)), .int (n), .int (nI (l9 + 1))]) dX8_forge_57 (by decide) rfl ?_
              refine rm_iload dX8_forge_59 rfl ?_
              refine rm_if_ge (tgt := 71) dX8_forge_61 (by decide) (fun h61 => ?_) (fun h61 => (absurd (Int32.not_lt.mp (rm_slp hl8).2) h61))
              refine rm_iload dX8_forge_71 rfl ?_
              refine rm_iconst (v := nI (1)) dX8_forge_73 (by decide) ?_
              refine rm_isub dX8_forge_74 ?_
              refine rm_top (y := nI (l9)) (nI_pred l9) ?_
              refine rm_istore (lv' := [.ref 3, .int (nI (m1)), .int (nI (s1)), .int (nI (4)), .int (n), .int (nI (l9 + 1)), .int (nI (l9))]) dX8_forge_75 (by decide) rfl ?_
              refine rm_iload_n dX8_forge_77 rfl rfl ?_
              refine rm_tableIn (off := 62) (tgt := 140) dX8_forge_78 (by decide) (by decide) (by decide) (by decide) ?_
              refine rm_iload dX8_forge_140 rfl ?_
              refine rm_if_le (tgt := 154) dX8_forge_142 (by decide) (fun h142 => ((rm_le0 (by omega) (by omega) h142).elim)) (fun h142 => ?_)
              refine rm_aload_n dX8_forge_145 rfl rfl ?_
              refine rm_bipush (v := nI (11)) dX8_forge_146 (by decide) ?_
              refine rm_callV (As := [.int (nI (11))]) (st := []) dX8_forge_148 cvX8_103 rfl rfl (by decide) (zv_cat_i [nI (11)]) (Nat.le_of_ble_eq_true rfl) (cM_refused (d + 2) (a) (nI (11))) (fun v b q => ?_)
              obtain ⟨rfl, rfl⟩ := q
              show rm_V _ _ 151 [.ref 3, .int (nI (m1)), .int (nI (s1)), .int (nI (4)), .int (n), .int (nI (l9 + 1)), .int (nI (l9))] [.int ((-1 : Int32))] _ _
              refine rm_goto (tgt := 177) dX8_forge_151 (by decide) ?_
              refine rm_iret dX8_forge_177 rfl rfl ?_
              exact ⟨rfl, rfl⟩
            · refine rm_istore (lv' := [.ref 3, .int (nI (m1)), .int (nI (s1)), .int (nI (5)), .int (n), .int (nI (l9 + 1))]) dX8_forge_57 (by decide) rfl ?_
              refine rm_iload dX8_forge_59 rfl ?_
              refine rm_if_ge (tgt := 71) dX8_forge_61 (by decide) (fun h61 => ?_) (fun h61 => (absurd (Int32.not_lt.mp (rm_slp hl8).2) h61))
              refine rm_iload dX8_forge_71 rfl ?_
              refine rm_iconst (v := nI (1)) dX8_forge_73 (by decide) ?_
              refine rm_isub dX8_forge_74 ?_
              refine rm_top (y := nI (l9)) (nI_pred l9) ?_
              refine rm_istore (lv' := [.ref 3, .int (nI (m1)), .int (nI (s1)), .int (nI (5)), .int (n), .int (nI (l9 + 1)), .int (nI (l9))]) dX8_forge_75 (by decide) rfl ?_
              refine rm_iload_n dX8_forge_77 rfl rfl ?_
              refine rm_tableIn (off := 121) (tgt := 199) dX8_forge_78 (by decide) (by decide) (by decide) (by decide) ?_
              refine rm_iload dX8_forge_199 rfl ?_
              refine rm_if_ge (tgt := 213) dX8_forge_201 (by decide) (fun h201 => ?_) (fun h201 => (absurd (Int32.not_lt.mp (rm_slp hl8).2) h201))
              refine rm_iload dX8_forge_213 rfl ?_
              refine rm_if_le (tgt := 241) dX8_forge_215 (by decide) (fun h215 => ((rm_le0 (by omega) (by omega) h215).elim)) (fun h215 => ?_)
              refine rm_aload_n dX8_forge_218 rfl rfl ?_
              refine rm_getr 6 (t := 10) dX8_forge_219 flX8_16 (by decide) rfl rfl ?_
              refine rm_iload dX8_forge_222 rfl ?_
              refine rm_iald (f := 6) (j := l9) (x := nI (rm_kd2 a l9)) dX8_forge_224 rfl (by decide) rfl rfl (rfl) (show l9 < 200 from by omega) ((hkx l9 hl9).1) ?_
              refine rm_iconst (v := nI (1)) dX8_forge_225 (by decide) ?_
              refine rm_callS (As := [.int (nI (rm_kd2 a l9)), .int (nI (1))]) (st := []) dX8_forge_226 csX8_222 rfl (by decide) (zv_cat_i [nI (rm_kd2 a l9), nI (1)]) (Nat.le_of_ble_eq_true rfl) (cM_isOf (d + 1) a (k := rm_kd2 a l9) (o := 1) (hkx l9 hl9).2 (by decide)) (fun v b q => ?_)
              obtain ⟨rfl, rfl⟩ := q
              show rm_V _ _ 229 [.ref 3, .int (nI (m1)), .int (nI (s1)), .int (nI (5)), .int (n), .int (nI (l9 + 1)), .int (nI (l9))] [.int (rm_b (rm_of 5 (rm_kd2 a l9) 1))] _ _
              refine rm_ifB_ne (tgt := 241) dX8_forge_229 (by decide) (fun h229 => ?_) (fun h229 => ?_)
              · refine rm_aload_n dX8_forge_241 rfl rfl ?_
                refine rm_iload dX8_forge_242 rfl ?_
                refine rm_if_le (tgt := 251) dX8_forge_244 (by decide) (fun h244 => ((rm_le0 (by omega) (by omega) h244).elim)) (fun h244 => ?_)
                refine rm_iconst (v := nI (1)) dX8_forge_247 (by decide) ?_
                refine rm_goto (tgt := 252) dX8_forge_248 (by decide) ?_
                refine rm_callV (As := [.int (nI (1))]) (st := []) dX8_forge_252 cvX8_106 rfl rfl (by decide) (zv_cat_i [nI (1)]) (Nat.le_of_ble_eq_true rfl) (cM_done (d + 2) (a) (nI (1))) (fun v b q => ?_)
                obtain ⟨rfl, rfl⟩ := q
                show rm_V _ _ 255 [.ref 3, .int (nI (m1)), .int (nI (s1)), .int (nI (5)), .int (n), .int (nI (l9 + 1)), .int (nI (l9))] [.int (nI (1))] _ _
                refine rm_iret dX8_forge_255 rfl rfl ?_
                exact ⟨by show _ = some (Value.int (if rm_of 5 (rm_kd2 a l9) 1 = true then p_ok (nI 1) else p_no 14).1); rw [h229, if_pos rfl]; rfl, by show zv_u a 3 24 (if rm_of 5 (rm_kd2 a l9) 1 = true then p_ok (nI 1) else p_no 14).2 = _; rw [h229, if_pos rfl]; rfl⟩
              · refine rm_aload_n dX8_forge_232 rfl rfl ?_
                refine rm_bipush (v := nI (14)) dX8_forge_233 (by decide) ?_
                refine rm_callV (As := [.int (nI (14))]) (st := []) dX8_forge_235 cvX8_103 rfl rfl (by decide) (zv_cat_i [nI (14)]) (Nat.le_of_ble_eq_true rfl) (cM_refused (d + 2) (a) (nI (14))) (fun v b q => ?_)
                obtain ⟨rfl, rfl⟩ := q
                show rm_V _ _ 238 [.ref 3, .int (nI (m1)), .int (nI (s1)), .int (nI (5)), .int (n), .int (nI (l9 + 1)), .int (nI (l9))] [.int ((-1 : Int32))] _ _
                refine rm_goto (tgt := 255) dX8_forge_238 (by decide) ?_
                refine rm_iret dX8_forge_255 rfl rfl ?_
                exact ⟨by show _ = some (Value.int (if rm_of 5 (rm_kd2 a l9) 1 = true then p_ok (nI 1) else p_no 14).1); rw [h229, if_neg (by decide)]; rfl, by show zv_u a 3 24 (if rm_of 5 (rm_kd2 a l9) 1 = true then p_ok (nI 1) else p_no 14).2 = _; rw [h229, if_neg (by decide)]; rfl⟩
            · refine rm_istore (lv' := [.ref 3, .int (nI (m1)), .int (nI (s1)), .int (nI (6)), .int (n), .int (nI (l9 + 1))]) dX8_forge_57 (by decide) rfl ?_
              refine rm_iload dX8_forge_59 rfl ?_
              refine rm_if_ge (tgt := 71) dX8_forge_61 (by decide) (fun h61 => ?_) (fun h61 => (absurd (Int32.not_lt.mp (rm_slp hl8).2) h61))
              refine rm_iload dX8_forge_71 rfl ?_
              refine rm_iconst (v := nI (1)) dX8_forge_73 (by decide) ?_
              refine rm_isub dX8_forge_74 ?_
              refine rm_top (y := nI (l9)) (nI_pred l9) ?_
              refine rm_istore (lv' := [.ref 3, .int (nI (m1)), .int (nI (s1)), .int (nI (6)), .int (n), .int (nI (l9 + 1)), .int (nI (l9))]) dX8_forge_75 (by decide) rfl ?_
              refine rm_iload_n dX8_forge_77 rfl rfl ?_
              refine rm_tableIn (off := 178) (tgt := 256) dX8_forge_78 (by decide) (by decide) (by decide) (by decide) ?_
              refine rm_iload dX8_forge_256 rfl ?_
              refine rm_if_ne (tgt := 270) dX8_forge_258 (by decide) (fun h258 => ?_) (fun h258 => ?_)
              · refine rm_aload_n dX8_forge_270 rfl rfl ?_
                refine rm_bipush (v := nI (100)) dX8_forge_271 (by decide) ?_
                refine rm_iload dX8_forge_273 rfl ?_
                refine rm_idiv dX8_forge_275 h258 ?_
                refine rm_callV (As := [.int (((nI (100)) / (n)))]) (st := []) dX8_forge_276 cvX8_106 rfl rfl (by decide) (zv_cat_i [((nI (100)) / (n))]) (Nat.le_of_ble_eq_true rfl) (cM_done (d + 2) (a) (((nI (100)) / (n)))) (fun v b q => ?_)
                obtain ⟨rfl, rfl⟩ := q
                show rm_V _ _ 279 [.ref 3, .int (nI (m1)), .int (nI (s1)), .int (nI (6)), .int (n), .int (nI (l9 + 1)), .int (nI (l9))] [.int (((nI (100)) / (n)))] _ _
                refine rm_iret dX8_forge_279 rfl rfl ?_
                exact ⟨by show _ = some (Value.int (if n = 0 then p_no 15 else p_ok (nI 100 / n)).1); rw [if_neg h258]; rfl, by show zv_u a 3 24 (if n = 0 then p_no 15 else p_ok (nI 100 / n)).2 = _; rw [if_neg h258]; rfl⟩
              · refine rm_aload_n dX8_forge_261 rfl rfl ?_
                refine rm_bipush (v := nI (15)) dX8_forge_262 (by decide) ?_
                refine rm_callV (As := [.int (nI (15))]) (st := []) dX8_forge_264 cvX8_103 rfl rfl (by decide) (zv_cat_i [nI (15)]) (Nat.le_of_ble_eq_true rfl) (cM_refused (d + 2) (a) (nI (15))) (fun v b q => ?_)
                obtain ⟨rfl, rfl⟩ := q
                show rm_V _ _ 267 [.ref 3, .int (nI (m1)), .int (nI (s1)), .int (nI (6)), .int (n), .int (nI (l9 + 1)), .int (nI (l9))] [.int ((-1 : Int32))] _ _
                refine rm_goto (tgt := 279) dX8_forge_267 (by decide) ?_
                refine rm_iret dX8_forge_279 rfl rfl ?_
                exact ⟨by show _ = some (Value.int (if n = 0 then p_no 15 else p_ok (nI 100 / n)).1); rw [if_pos h258]; rfl, by show zv_u a 3 24 (if n = 0 then p_no 15 else p_ok (nI 100 / n)).2 = _; rw [if_pos h258]; rfl⟩
            · refine rm_istore (lv' := [.ref 3, .int (nI (m1)), .int (nI (s1)), .int (nI (7)), .int (n), .int (nI (l9 + 1))]) dX8_forge_57 (by decide) rfl ?_
              refine rm_iload dX8_forge_59 rfl ?_
              refine rm_if_ge (tgt := 71) dX8_forge_61 (by decide) (fun h61 => ?_) (fun h61 => (absurd (Int32.not_lt.mp (rm_slp hl8).2) h61))
              refine rm_iload dX8_forge_71 rfl ?_
              refine rm_iconst (v := nI (1)) dX8_forge_73 (by decide) ?_
              refine rm_isub dX8_forge_74 ?_
              refine rm_top (y := nI (l9)) (nI_pred l9) ?_
              refine rm_istore (lv' := [.ref 3, .int (nI (m1)), .int (nI (s1)), .int (nI (7)), .int (n), .int (nI (l9 + 1)), .int (nI (l9))]) dX8_forge_75 (by decide) rfl ?_
              refine rm_iload_n dX8_forge_77 rfl rfl ?_
              refine rm_tableOut (tgt := 280) dX8_forge_78 (by decide) (by decide) ?_
              refine rm_iload dX8_forge_280 rfl ?_
              refine rm_iconst (v := nI (1)) dX8_forge_282 (by decide) ?_
              refine rm_iand dX8_forge_283 ?_
              refine rm_if_ne (tgt := 296) dX8_forge_284 (by decide) (fun h284 => ?_) (fun h284 => ?_)
              · refine rm_aload_n dX8_forge_296 rfl rfl ?_
                refine rm_iconst (v := nI (1)) dX8_forge_297 (by decide) ?_
                refine rm_callV (As := [.int (nI (1))]) (st := []) dX8_forge_298 cvX8_106 rfl rfl (by decide) (zv_cat_i [nI (1)]) (Nat.le_of_ble_eq_true rfl) (cM_done (d + 2) (a) (nI (1))) (fun v b q => ?_)
                obtain ⟨rfl, rfl⟩ := q
                show rm_V _ _ 301 [.ref 3, .int (nI (m1)), .int (nI (s1)), .int (nI (7)), .int (n), .int (nI (l9 + 1)), .int (nI (l9))] [.int (nI (1))] _ _
                refine rm_iret dX8_forge_301 rfl rfl ?_
                exact ⟨by show _ = some (Value.int (if n &&& nI 1 = 0 then p_no 10 else p_ok (nI 1)).1); rw [if_neg h284]; rfl, by show zv_u a 3 24 (if n &&& nI 1 = 0 then p_no 10 else p_ok (nI 1)).2 = _; rw [if_neg h284]; rfl⟩
              · refine rm_aload_n dX8_forge_287 rfl rfl ?_
                refine rm_bipush (v := nI (10)) dX8_forge_288 (by decide) ?_
                refine rm_callV (As := [.int (nI (10))]) (st := []) dX8_forge_290 cvX8_103 rfl rfl (by decide) (zv_cat_i [nI (10)]) (Nat.le_of_ble_eq_true rfl) (cM_refused (d + 2) (a) (nI (10))) (fun v b q => ?_)
                obtain ⟨rfl, rfl⟩ := q
                show rm_V _ _ 293 [.ref 3, .int (nI (m1)), .int (nI (s1)), .int (nI (7)), .int (n), .int (nI (l9 + 1)), .int (nI (l9))] [.int ((-1 : Int32))] _ _
                refine rm_goto (tgt := 301) dX8_forge_293 (by decide) ?_
                refine rm_iret dX8_forge_301 rfl rfl ?_
                exact ⟨by show _ = some (Value.int (if n &&& nI 1 = 0 then p_no 10 else p_ok (nI 1)).1); rw [if_pos h284]; rfl, by show zv_u a 3 24 (if n &&& nI 1 = 0 then p_no 10 else p_ok (nI 1)).2 = _; rw [if_pos h284]; rfl⟩
          · rw [hg, rm_thw_c (by omega)]
            have hl8 : l9 < 200 := by omega
            rcases (show x1 = 0 ∨ x1 = 1 ∨ x1 = 2 ∨ x1 = 3 ∨ x1 = 4 ∨ x1 = 5 ∨ x1 = 6 ∨ x1 = 7 by omega) with rfl | rfl | rfl | rfl | rfl | rfl | rfl | rfl
            · refine rm_istore (lv' := [.ref 3, .int (nI (m1)), .int (nI (s1)), .int (nI (0)), .int (n), .int ((-1 - nI l9 : Int32))]) dX8_forge_57 (by decide) rfl ?_
              refine rm_iload dX8_forge_59 rfl ?_
              refine rm_if_ge (tgt := 71) dX8_forge_61 (by decide) (fun h61 => (absurd (rm_sln hl8).2.1 (Int32.not_lt.mpr h61))) (fun h61 => ?_)
              refine rm_iconst (v := (-1 : Int32)) dX8_forge_64 (by decide) ?_
              refine rm_iload dX8_forge_65 rfl ?_
              refine rm_isub dX8_forge_67 ?_
              refine rm_top (y := nI (l9)) ((rm_sln hl8).2.2.1) ?_
              refine rm_goto (tgt := 75) dX8_forge_68 (by decide) ?_
              refine rm_istore (lv' := [.ref 3, .int (nI (m1)), .int (nI (s1)), .int (nI (0)), .int (n), .int ((-1 - nI l9 : Int32)), .int (nI (l9))]) dX8_forge_75 (by decide) rfl ?_
              refine rm_iload_n dX8_forge_77 rfl rfl ?_
              refine rm_tableIn (off := 42) (tgt := 120) dX8_forge_78 (by decide) (by decide) (by decide) (by decide) ?_
              refine rm_aload_n dX8_forge_120 rfl rfl ?_
              refine rm_iload dX8_forge_121 rfl ?_
              refine rm_iload dX8_forge_123 rfl ?_
              refine rm_iload dX8_forge_125 rfl ?_
              refine rm_bipush (v := nI (6)) dX8_forge_127 (by decide) ?_
              refine rm_irem dX8_forge_129 (by decide) ?_
              refine rm_bipush (v := nI (6)) dX8_forge_130 (by decide) ?_
              refine rm_iadd dX8_forge_132 ?_
              refine rm_bipush (v := nI (6)) dX8_forge_133 (by decide) ?_
              refine rm_irem dX8_forge_135 (by decide) ?_
              refine rm_top (y := nI (rm_m6 n)) ((rm_m6_n h37).1) ?_
              refine rm_callV (As := [.int ((-1 - nI l9 : Int32)), .int (nI (l9)), .int (nI (rm_m6 n))]) (st := []) dX8_forge_136 cvX8_215 rfl rfl (by decide) (zv_cat_i [(-1 - nI l9 : Int32), nI (l9), nI (rm_m6 n)]) (Nat.le_of_ble_eq_true rfl) (cM_letterTaken_c d (x := nI 0 - nI 1) (rm_m6_n h37).2 (l := l9) hl8) (fun v b q => ?_)
              obtain ⟨rfl, rfl⟩ := q
              show rm_V _ _ 139 [.ref 3, .int (nI (m1)), .int (nI (s1)), .int (nI (0)), .int (n), .int ((-1 - nI l9 : Int32)), .int (nI (l9))] [.int ((p_fL a n (some (false, l9))).1)] _ _
              refine rm_iret dX8_forge_139 rfl rfl ?_
              exact ⟨rfl, rfl⟩
            · refine rm_istore (lv' := [.ref 3, .int (nI (m1)), .int (nI (s1)), .int (nI (1)), .int (n), .int ((-1 - nI l9 : Int32))]) dX8_forge_57 (by decide) rfl ?_
              refine rm_iload dX8_forge_59 rfl ?_
              refine rm_if_ge (tgt := 71) dX8_forge_61 (by decide) (fun h61 => (absurd (rm_sln hl8).2.1 (Int32.not_lt.mpr h61))) (fun h61 => ?_)
              refine rm_iconst (v := (-1 : Int32)) dX8_forge_64 (by decide) ?_
              refine rm_iload dX8_forge_65 rfl ?_
              refine rm_isub dX8_forge_67 ?_
              refine rm_top (y := nI (l9)) ((rm_sln hl8).2.2.1) ?_
              refine rm_goto (tgt := 75) dX8_forge_68 (by decide) ?_
              refine rm_istore (lv' := [.ref 3, .int (nI (m1)), .int (nI (s1)), .int (nI (1)), .int (n), .int ((-1 - nI l9 : Int32)), .int (nI (l9))]) dX8_forge_75 (by decide) rfl ?_
              refine rm_iload_n dX8_forge_77 rfl rfl ?_
              refine rm_tableIn (off := 62) (tgt := 140) dX8_forge_78 (by decide) (by decide) (by decide) (by decide) ?_
              refine rm_iload dX8_forge_140 rfl ?_
              refine rm_if_le (tgt := 154) dX8_forge_142 (by decide) (fun h142 => ?_) (fun h142 => (absurd (Int32.not_lt.mp (rm_sln hl8).2.2.2) h142))
              refine rm_iload dX8_forge_154 rfl ?_
              refine rm_if_ne (tgt := 168) dX8_forge_156 (by decide) (fun h156 => ?_) (fun h156 => (absurd h156 (rm_sln hl8).1))
              refine rm_aload_n dX8_forge_168 rfl rfl ?_
              refine rm_iload dX8_forge_169 rfl ?_
              refine rm_iload_n dX8_forge_171 rfl rfl ?_
              refine rm_iload dX8_forge_172 rfl ?_
              refine rm_callV (As := [.int (nI (l9)), .int (nI (1)), .int (n)]) (st := []) dX8_forge_174 cvX8_219 rfl rfl (by decide) (zv_cat_i [nI (l9), nI (1), n]) (Nat.le_of_ble_eq_true rfl) (cM_clockTaken_1 (d + 1) (l := l9) (n := n) hl8 (hhr l9 hl9)) (fun v b q => ?_)
              obtain ⟨rfl, rfl⟩ := q
              show rm_V _ _ 177 [.ref 3, .int (nI (m1)), .int (nI (s1)), .int (nI (1)), .int (n), .int ((-1 - nI l9 : Int32)), .int (nI (l9))] [.int ((p_fC a l9 n 1).1)] _ _
              refine rm_iret dX8_forge_177 rfl rfl ?_
              exact ⟨rfl, rfl⟩
            · refine rm_istore (lv' := [.ref 3, .int (nI (m1)), .int (nI (s1)), .int (nI (2)), .int (n), .int ((-1 - nI l9 : Int32))]) dX8_forge_57 (by decide) rfl ?_
              refine rm_iload dX8_forge_59 rfl ?_
              refine rm_if_ge (tgt := 71) dX8_forge_61 (by decide) (fun h61 => (absurd (rm_sln hl8).2.1 (Int32.not_lt.mpr h61))) (fun h61 => ?_)
              refine rm_iconst (v := (-1 : Int32)) dX8_forge_64 (by decide) ?_
              refine rm_iload dX8_forge_65 rfl ?_
              refine rm_isub dX8_forge_67 ?_
              refine rm_top (y := nI (l9)) ((rm_sln hl8).2.2.1) ?_
              refine rm_goto (tgt := 75) dX8_forge_68 (by decide) ?_
              refine rm_istore (lv' := [.ref 3, .int (nI (m1)), .int (nI (s1)), .int (nI (2)), .int (n), .int ((-1 - nI l9 : Int32)), .int (nI (l9))]) dX8_forge_75 (by decide) rfl ?_
              refine rm_iload_n dX8_forge_77 rfl rfl ?_
              refine rm_tableIn (off := 62) (tgt := 140) dX8_forge_78 (by decide) (by decide) (by decide) (by decide) ?_
              refine rm_iload dX8_forge_140 rfl ?_
              refine rm_if_le (tgt := 154) dX8_forge_142 (by decide) (fun h142 => ?_) (fun h142 => (absurd (Int32.not_lt.mp (rm_sln hl8).2.2.2) h142))
              refine rm_iload dX8_forge_154 rfl ?_
              refine rm_if_ne (tgt := 168) dX8_forge_156 (by decide) (fun h156 => ?_) (fun h156 => (absurd h156 (rm_sln hl8).1))
              refine rm_aload_n dX8_forge_168 rfl rfl ?_
              refine rm_iload dX8_forge_169 rfl ?_
              refine rm_iload_n dX8_forge_171 rfl rfl ?_
              refine rm_iload dX8_forge_172 rfl ?_
              refine rm_callV (As := [.int (nI (l9)), .int (nI (2)), .int (n)]) (st := []) dX8_forge_174 cvX8_219 rfl rfl (by decide) (zv_cat_i [nI (l9), nI (2), n]) (Nat.le_of_ble_eq_true rfl) (cM_clockTaken_2 (d + 1) (l := l9) (n := n) hl8 (hhr l9 hl9)) (fun v b q => ?_)
              obtain ⟨rfl, rfl⟩ := q
              show rm_V _ _ 177 [.ref 3, .int (nI (m1)), .int (nI (s1)), .int (nI (2)), .int (n), .int ((-1 - nI l9 : Int32)), .int (nI (l9))] [.int ((p_fC a l9 n 2).1)] _ _
              refine rm_iret dX8_forge_177 rfl rfl ?_
              exact ⟨rfl, rfl⟩
            · refine rm_istore (lv' := [.ref 3, .int (nI (m1)), .int (nI (s1)), .int (nI (3)), .int (n), .int ((-1 - nI l9 : Int32))]) dX8_forge_57 (by decide) rfl ?_
              refine rm_iload dX8_forge_59 rfl ?_
              refine rm_if_ge (tgt := 71) dX8_forge_61 (by decide) (fun h61 => (absurd (rm_sln hl8).2.1 (Int32.not_lt.mpr h61))) (fun h61 => ?_)
              refine rm_iconst (v := (-1 : Int32)) dX8_forge_64 (by decide) ?_
              refine rm_iload dX8_forge_65 rfl ?_
              refine rm_isub dX8_forge_67 ?_
              refine rm_top (y := nI (l9)) ((rm_sln hl8).2.2.1) ?_
              refine rm_goto (tgt := 75) dX8_forge_68 (by decide) ?_
              refine rm_istore (lv' := [.ref 3, .int (nI (m1)), .int (nI (s1)), .int (nI (3)), .int (n), .int ((-1 - nI l9 : Int32)), .int (nI (l9))]) dX8_forge_75 (by decide) rfl ?_
              refine rm_iload_n dX8_forge_77 rfl rfl ?_
              refine rm_tableIn (off := 100) (tgt := 178) dX8_forge_78 (by decide) (by decide) (by decide) (by decide) ?_
              refine rm_iload dX8_forge_178 rfl ?_
              refine rm_if_ge (tgt := 192) dX8_forge_180 (by decide) (fun h180 => ?_) (fun h180 => ?_)
              · refine rm_aload_n dX8_forge_192 rfl rfl ?_
                refine rm_iload dX8_forge_193 rfl ?_
                refine rm_callV (As := [.int (n)]) (st := []) dX8_forge_195 cvX8_106 rfl rfl (by decide) (zv_cat_i [n]) (Nat.le_of_ble_eq_true rfl) (cM_done (d + 2) (a) (n)) (fun v b q => ?_)
                obtain ⟨rfl, rfl⟩ := q
                show rm_V _ _ 198 [.ref 3, .int (nI (m1)), .int (nI (s1)), .int (nI (3)), .int (n), .int ((-1 - nI l9 : Int32)), .int (nI (l9))] [.int (n)] _ _
                refine rm_iret dX8_forge_198 rfl rfl ?_
                exact ⟨by show _ = some (Value.int (if n < 0 then p_no 13 else p_ok n).1); rw [if_neg (Int32.not_lt.mpr h180)]; rfl, by show zv_u a 3 24 (if n < 0 then p_no 13 else p_ok n).2 = _; rw [if_neg (Int32.not_lt.mpr h180)]; rfl⟩
              · refine rm_aload_n dX8_forge_183 rfl rfl ?_
                refine rm_bipush (v := nI (13)) dX8_forge_184 (by decide) ?_
                refine rm_callV (As := [.int (nI (13))]) (st := []) dX8_forge_186 cvX8_103 rfl rfl (by decide) (zv_cat_i [nI (13)]) (Nat.le_of_ble_eq_true rfl) (cM_refused (d + 2) (a) (nI (13))) (fun v b q => ?_)
                obtain ⟨rfl, rfl⟩ := q
                show rm_V _ _ 189 [.ref 3, .int (nI (m1)), .int (nI (s1)), .int (nI (3)), .int (n), .int ((-1 - nI l9 : Int32)), .int (nI (l9))] [.int ((-1 : Int32))] _ _
                refine rm_goto (tgt := 198) dX8_forge_189 (by decide) ?_
                refine rm_iret dX8_forge_198 rfl rfl ?_
                exact ⟨by show _ = some (Value.int (if n < 0 then p_no 13 else p_ok n).1); rw [if_pos (Int32.not_le.mp h180)]; rfl, by show zv_u a 3 24 (if n < 0 then p_no 13 else p_ok n).2 = _; rw [if_pos (Int32.not_le.mp h180)]; rfl⟩
            · refine rm_istore (lv' := [.ref 3, .int (nI (m1)), .int (nI (s1)), .int (nI (4)), .int (n), .int ((-1 - nI l9 : Int32))]) dX8_forge_57 (by decide) rfl ?_
              refine rm_iload dX8_forge_59 rfl ?_
              refine rm_if_ge (tgt := 71) dX8_forge_61 (by decide) (fun h61 => (absurd (rm_sln hl8).2.1 (Int32.not_lt.mpr h61))) (fun h61 => ?_)
              refine rm_iconst (v := (-1 : Int32)) dX8_forge_64 (by decide) ?_
              refine rm_iload dX8_forge_65 rfl ?_
              refine rm_isub dX8_forge_67 ?_
              refine rm_top (y := nI (l9)) ((rm_sln hl8).2.2.1) ?_
              refine rm_goto (tgt := 75) dX8_forge_68 (by decide) ?_
              refine rm_istore (lv' := [.ref 3, .int (nI (m1)), .int (nI (s1)), .int (nI (4)), .int (n), .int ((-1 - nI l9 : Int32)), .int (nI (l9))]) dX8_forge_75 (by decide) rfl ?_
              refine rm_iload_n dX8_forge_77 rfl rfl ?_
              refine rm_tableIn (off := 62) (tgt := 140) dX8_forge_78 (by decide) (by decide) (by decide) (by decide) ?_
              refine rm_iload dX8_forge_140 rfl ?_
              refine rm_if_le (tgt := 154) dX8_forge_142 (by decide) (fun h142 => ?_) (fun h142 => (absurd (Int32.not_lt.mp (rm_sln hl8).2.2.2) h142))
              refine rm_iload dX8_forge_154 rfl ?_
              refine rm_if_ne (tgt := 168) dX8_forge_156 (by decide) (fun h156 => ?_) (fun h156 => (absurd h156 (rm_sln hl8).1))
              refine rm_aload_n dX8_forge_168 rfl rfl ?_
              refine rm_iload dX8_forge_169 rfl ?_
              refine rm_iload_n dX8_forge_171 rfl rfl ?_
              refine rm_iload dX8_forge_172 rfl ?_
              refine rm_callV (As := [.int (nI (l9)), .int (nI (4)), .int (n)]) (st := []) dX8_forge_174 cvX8_219 rfl rfl (by decide) (zv_cat_i [nI (l9), nI (4), n]) (Nat.le_of_ble_eq_true rfl) (cM_clockTaken_4 (d + 1) (l := l9) (n := n) hl8 (hhr l9 hl9)) (fun v b q => ?_)
              obtain ⟨rfl, rfl⟩ := q
              show rm_V _ _ 177 [.ref 3, .int (nI (m1)), .int (nI (s1)), .int (nI (4)), .int (n), .int ((-1 - nI l9 : Int32)), .int (nI (l9))] [.int ((p_fC a l9 n 4).1)] _ _
              refine rm_iret dX8_forge_177 rfl rfl ?_
              exact ⟨rfl, rfl⟩
            · refine rm_istore (lv' := [.ref 3, .int (nI (m1)), .int (nI (s1)), .int (nI (5)), .int (n), .int ((-1 - nI l9 : Int32))]) dX8_forge_57 (by decide) rfl ?_
              refine rm_iload dX8_forge_59 rfl ?_
              refine rm_if_ge (tgt := 71) dX8_forge_61 (by decide) (fun h61 => (absurd (rm_sln hl8).2.1 (Int32.not_lt.mpr h61))) (fun h61 => ?_)
              refine rm_iconst (v := (-1 : Int32)) dX8_forge_64 (by decide) ?_
              refine rm_iload dX8_forge_65 rfl ?_
              refine rm_isub dX8_forge_67 ?_
              refine rm_top (y := nI (l9)) ((rm_sln hl8).2.2.1) ?_
              refine rm_goto (tgt := 75) dX8_forge_68 (by decide) ?_
              refine rm_istore (lv' := [.ref 3, .int (nI (m1)), .int (nI (s1)), .int (nI (5)), .int (n), .int ((-1 - nI l9 : Int32)), .int (nI (l9))]) dX8_forge_75 (by decide) rfl ?_
              refine rm_iload_n dX8_forge_77 rfl rfl ?_
              refine rm_tableIn (off := 121) (tgt := 199) dX8_forge_78 (by decide) (by decide) (by decide) (by decide) ?_
              refine rm_iload dX8_forge_199 rfl ?_
              refine rm_if_ge (tgt := 213) dX8_forge_201 (by decide) (fun h201 => (absurd (rm_sln hl8).2.1 (Int32.not_lt.mpr h201))) (fun h201 => ?_)
              refine rm_aload_n dX8_forge_204 rfl rfl ?_
              refine rm_bipush (v := nI (11)) dX8_forge_205 (by decide) ?_
              refine rm_callV (As := [.int (nI (11))]) (st := []) dX8_forge_207 cvX8_103 rfl rfl (by decide) (zv_cat_i [nI (11)]) (Nat.le_of_ble_eq_true rfl) (cM_refused (d + 2) (a) (nI (11))) (fun v b q => ?_)
              obtain ⟨rfl, rfl⟩ := q
              show rm_V _ _ 210 [.ref 3, .int (nI (m1)), .int (nI (s1)), .int (nI (5)), .int (n), .int ((-1 - nI l9 : Int32)), .int (nI (l9))] [.int ((-1 : Int32))] _ _
              refine rm_goto (tgt := 255) dX8_forge_210 (by decide) ?_
              refine rm_iret dX8_forge_255 rfl rfl ?_
              exact ⟨rfl, rfl⟩
            · refine rm_istore (lv' := [.ref 3, .int (nI (m1)), .int (nI (s1)), .int (nI (6)), .int (n), .int ((-1 - nI l9 : Int32))]) dX8_forge_57 (by decide) rfl ?_
              refine rm_iload dX8_forge_59 rfl ?_
              refine rm_if_ge (tgt := 71) dX8_forge_61 (by decide) (fun h61 => (absurd (rm_sln hl8).2.1 (Int32.not_lt.mpr h61))) (fun h61 => ?_)
              refine rm_iconst (v := (-1 : Int32)) dX8_forge_64 (by decide) ?_
              refine rm_iload dX8_forge_65 rfl ?_
              refine rm_isub dX8_forge_67 ?_
              refine rm_top (y := nI (l9)) ((rm_sln hl8).2.2.1) ?_
              refine rm_goto (tgt := 75) dX8_forge_68 (by decide) ?_
              refine rm_istore (lv' := [.ref 3, .int (nI (m1)), .int (nI (s1)), .int (nI (6)), .int (n), .int ((-1 - nI l9 : Int32)), .int (nI (l9))]) dX8_forge_75 (by decide) rfl ?_
              refine rm_iload_n dX8_forge_77 rfl rfl ?_
              refine rm_tableIn (off := 178) (tgt := 256) dX8_forge_78 (by decide) (by decide) (by decide) (by decide) ?_
              refine rm_iload dX8_forge_256 rfl ?_
              refine rm_if_ne (tgt := 270) dX8_forge_258 (by decide) (fun h258 => ?_) (fun h258 => ?_)
              · refine rm_aload_n dX8_forge_270 rfl rfl ?_
                refine rm_bipush (v := nI (100)) dX8_forge_271 (by decide) ?_
                refine rm_iload dX8_forge_273 rfl ?_
                refine rm_idiv dX8_forge_275 h258 ?_
                refine rm_callV (As := [.int (((nI (100)) / (n)))]) (st := []) dX8_forge_276 cvX8_106 rfl rfl (by decide) (zv_cat_i [((nI (100)) / (n))]) (Nat.le_of_ble_eq_true rfl) (cM_done (d + 2) (a) (((nI (100)) / (n)))) (fun v b q => ?_)
                obtain ⟨rfl, rfl⟩ := q
                show rm_V _ _ 279 [.ref 3, .int (nI (m1)), .int (nI (s1)), .int (nI (6)), .int (n), .int ((-1 - nI l9 : Int32)), .int (nI (l9))] [.int (((nI (100)) / (n)))] _ _
                refine rm_iret dX8_forge_279 rfl rfl ?_
                exact ⟨by show _ = some (Value.int (if n = 0 then p_no 15 else p_ok (nI 100 / n)).1); rw [if_neg h258]; rfl, by show zv_u a 3 24 (if n = 0 then p_no 15 else p_ok (nI 100 / n)).2 = _; rw [if_neg h258]; rfl⟩
              · refine rm_aload_n dX8_forge_261 rfl rfl ?_
                refine rm_bipush (v := nI (15)) dX8_forge_262 (by decide) ?_
                refine rm_callV (As := [.int (nI (15))]) (st := []) dX8_forge_264 cvX8_103 rfl rfl (by decide) (zv_cat_i [nI (15)]) (Nat.le_of_ble_eq_true rfl) (cM_refused (d + 2) (a) (nI (15))) (fun v b q => ?_)
                obtain ⟨rfl, rfl⟩ := q
                show rm_V _ _ 267 [.ref 3, .int (nI (m1)), .int (nI (s1)), .int (nI (6)), .int (n), .int ((-1 - nI l9 : Int32)), .int (nI (l9))] [.int ((-1 : Int32))] _ _
                refine rm_goto (tgt := 279) dX8_forge_267 (by decide) ?_
                refine rm_iret dX8_forge_279 rfl rfl ?_
                exact ⟨by show _ = some (Value.int (if n = 0 then p_no 15 else p_ok (nI 100 / n)).1); rw [if_pos h258]; rfl, by show zv_u a 3 24 (if n = 0 then p_no 15 else p_ok (nI 100 / n)).2 = _; rw [if_pos h258]; rfl⟩
            · refine rm_istore (lv' := [.ref 3, .int (nI (m1)), .int (nI (s1)), .int (nI (7)), .int (n), .int ((-1 - nI l9 : Int32))]) dX8_forge_57 (by decide) rfl ?_
              refine rm_iload dX8_forge_59 rfl ?_
              refine rm_if_ge (tgt := 71) dX8_forge_61 (by decide) (fun h61 => (absurd (rm_sln hl8).2.1 (Int32.not_lt.mpr h61))) (fun h61 => ?_)
              refine rm_iconst (v := (-1 : Int32)) dX8_forge_64 (by decide) ?_
              refine rm_iload dX8_forge_65 rfl ?_
              refine rm_isub dX8_forge_67 ?_
              refine rm_top (y := nI (l9)) ((rm_sln hl8).2.2.1) ?_
              refine rm_goto (tgt := 75) dX8_forge_68 (by decide) ?_
              refine rm_istore (lv' := [.ref 3, .int (nI (m1)), .int (nI (s1)), .int (nI (7)), .int (n), .int ((-1 - nI l9 : Int32)), .int (nI (l9))]) dX8_forge_75 (by decide) rfl ?_
              refine rm_iload_n dX8_forge_77 rfl rfl ?_
              refine rm_tableOut (tgt := 280) dX8_forge_78 (by decide) (by decide) ?_
              refine rm_iload dX8_forge_280 rfl ?_
              refine rm_iconst (v := nI (1)) dX8_forge_282 (by decide) ?_
              refine rm_iand dX8_forge_283 ?_
              refine rm_if_ne (tgt := 296) dX8_forge_284 (by decide) (fun h284 => ?_) (fun h284 => ?_)
              · refine rm_aload_n dX8_forge_296 rfl rfl ?_
                refine rm_iconst (v := nI (1)) dX8_forge_297 (by decide) ?_
                refine rm_callV (As := [.int (nI (1))]) (st := []) dX8_forge_298 cvX8_106 rfl rfl (by decide) (zv_cat_i [nI (1)]) (Nat.le_of_ble_eq_true rfl) (cM_done (d + 2) (a) (nI (1))) (fun v b q => ?_)
                obtain ⟨rfl, rfl⟩ := q
                show rm_V _ _ 301 [.ref 3, .int (nI (m1)), .int (nI (s1)), .int (nI (7)), .int (n), .int ((-1 - nI l9 : Int32)), .int (nI (l9))] [.int (nI (1))] _ _
                refine rm_iret dX8_forge_301 rfl rfl ?_
                exact ⟨by show _ = some (Value.int (if n &&& nI 1 = 0 then p_no 10 else p_ok (nI 1)).1); rw [if_neg h284]; rfl, by show zv_u a 3 24 (if n &&& nI 1 = 0 then p_no 10 else p_ok (nI 1)).2 = _; rw [if_neg h284]; rfl⟩
              · refine rm_aload_n dX8_forge_287 rfl rfl ?_
                refine rm_bipush (v := nI (10)) dX8_forge_288 (by decide) ?_
                refine rm_callV (As := [.int (nI (10))]) (st := []) dX8_forge_290 cvX8_103 rfl rfl (by decide) (zv_cat_i [nI (10)]) (Nat.le_of_ble_eq_true rfl) (cM_refused (d + 2) (a) (nI (10))) (fun v b q => ?_)
                obtain ⟨rfl, rfl⟩ := q
                show rm_V _ _ 293 [.ref 3, .int (nI (m1)), .int (nI (s1)), .int (nI (7)), .int (n), .int ((-1 - nI l9 : Int32)), .int (nI (l9))] [.int ((-1 : Int32))] _ _
                refine rm_goto (tgt := 301) dX8_forge_293 (by decide) ?_
                refine rm_iret dX8_forge_301 rfl rfl ?_
                exact ⟨by show _ = some (Value.int (if n &&& nI 1 = 0 then p_no 10 else p_ok (nI 1)).1); rw [if_pos h284]; rfl, by show zv_u a 3 24 (if n &&& nI 1 = 0 then p_no 10 else p_ok (nI 1)).2 = _; rw [if_pos h284]; rfl⟩
        · refine rm_aload_n dX8_forge_40 rfl rfl ?_
          refine rm_iconst (v := nI (1)) dX8_forge_41 (by decide) ?_
          refine rm_callV (As := [.int (nI (1))]) (st := []) dX8_forge_42 cvX8_103 rfl rfl (by decide) (zv_cat_i [nI (1)]) (Nat.le_of_ble_eq_true rfl) (cM_refused (d + 2) (a) (nI (1))) (fun v b q => ?_)
          obtain ⟨rfl, rfl⟩ := q
          show rm_V _ _ 45 [.ref 3, .int (nI (m1)), .int (nI (s1)), .int (nI (x1)), .int (n)] [.int ((-1 : Int32))] _ _
          refine rm_iret dX8_forge_45 rfl rfl ?_
          exact ⟨by unfold q_fg; rw [h5, h15, h25, h37]; rw [if_neg (by simp)]; rfl, by unfold q_fg; rw [h5, h15, h25, h37]; rw [if_neg (by simp)]; rfl⟩
