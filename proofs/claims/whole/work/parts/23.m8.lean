def rm_NM (a : zv_I) : Nat := rm_nv (a 3 0)
def rm_NC (a : zv_I) : Nat := rm_nv (a 3 1)
def rm_NL (a : zv_I) : Nat := rm_nv (a 3 4)
def rm_NA (a : zv_I) : Nat := rm_nv (a 3 5)
def rm_nx (a : zv_I) (r : Nat) : Option Nat := rm_nxt a (rm_NC a) (rm_NL a) r
def rm_gv (a : zv_I) (r l : Nat) : zv_I := rm_giv a (rm_NM a) (rm_NC a) (rm_NL a) r l
/-- what next wants -/
def rm_nh (a : zv_I) : Prop := a 3 1 = nI (rm_NC a) ∧ rm_NC a ≤ 6 ∧ a 3 4 = nI (rm_NL a) ∧ rm_NL a ≤ 200 ∧ ∀ l, l < rm_NL a → rm_lw a (rm_NC a) l
def rm_gvs (r : Nat) : Nat → zv_I → Nat → zv_I × Nat
  | 0, a, n => (a, n)
  | f + 1, a, n => match rm_nx a r with
    | none => (a, n)
    | some l => rm_gvs r f (rm_gv a r l) (n + 1)
def rm_gvt (r : Nat) : Nat → zv_I → Bool
  | 0, _ => false
  | f + 1, a => match rm_nx a r with
    | none => true
    | some l => rm_gvt r f (rm_gv a r l)
/-- P stays while r gives -/
def rm_stay (P : zv_I → Prop) (r : Nat) : Prop := ∀ a, P a → rm_nh a ∧ ∀ l, rm_nx a r = some l → rm_gh a (rm_NM a) (rm_NC a) (rm_NL a) r l ∧ P (rm_gv a r l)
theorem cM_gives_l (d : Nat) {r : Nat} (hr : r < 8) {P : zv_I → Prop} (hP : rm_stay P r) : ∀ f a n, P a → rm_gvt r f a = true → n + f < 2 ^ 31 → rm_V mX8_gives (d + 6) 8 [.ref 3, .int (nI r), .int (nI n), .int (rm_o (rm_nx a r))] [] a (rm_p (nI (rm_gvs r f a n).2) (rm_gvs r f a n).1) := by
  intro f
  induction f with
  | zero => intro a n _ h; cases h
  | succ f ih =>
    intro a n hPa ht hn
    have hs := hP a hPa
    show rm_V mX8_gives (d + 6) 8 _ [] a (rm_p (nI (match rm_nx a r with | none => (a, n) | some l => rm_gvs r f (rm_gv a r l) (n + 1)).2) (match rm_nx a r with | none => (a, n) | some l => rm_gvs r f (rm_gv a r l) (n + 1)).1)
    have ht : (match rm_nx a r with | none => true | some l => rm_gvt r f (rm_gv a r l)) = true := ht
    cases hx : rm_nx a r with
    | none =>
      refine rm_iload_n dX8_gives_8 rfl rfl ?_
      refine rm_iconst (v := (-1 : Int32)) dX8_gives_9 (by decide) ?_
      refine rm_icmp_eq (tgt := 31) dX8_gives_10 (by decide) (fun h10 => ?_) (fun h10 => (absurd rfl h10))
      refine rm_iload_n dX8_gives_31 rfl rfl ?_
      refine rm_iret dX8_gives_32 rfl rfl ?_
      exact ⟨rfl, rfl⟩
    | some l =>
      rw [hx] at ht
      obtain ⟨gh, hP2⟩ := hs.2 l hx
      have hl2 : l < 2 ^ 31 := by have := gh.2.2.2.2.2.1; have := gh.2.2.2.2.2.2.1; omega
      have nh := (hP _ hP2).1
      refine rm_iload_n dX8_gives_8 rfl rfl ?_
      refine rm_iconst (v := (-1 : Int32)) dX8_gives_9 (by decide) ?_
      refine rm_icmp_eq (tgt := 31) dX8_gives_10 (by decide) (fun h10 => (absurd h10 (rm_ni1 hl2))) (fun h10 => ?_)
      refine rm_aload_n dX8_gives_13 rfl rfl ?_
      refine rm_iload_n dX8_gives_14 rfl rfl ?_
      refine rm_iload_n dX8_gives_15 rfl rfl ?_
      refine rm_callV (As := [.int (nI (r)), .int (nI (l))]) (st := []) dX8_gives_16 cvX8_167 rfl rfl (by decide) (zv_cat_i [nI (r), nI (l)]) (Nat.le_of_ble_eq_true rfl) (cM_give (d + 3) (a := a) (nm := rm_NM a) (nc := rm_NC a) (nl := rm_NL a) (r := r) (l := l) gh) (fun v b q => ?_)
      obtain ⟨rfl, rfl⟩ := q
      show rm_V _ _ 19 [.ref 3, .int (nI (r)), .int (nI (n)), .int (nI (l))] [] _ _
      refine rm_iinc (v := nI (n + 1)) (lv' := [.ref 3, .int (nI (r)), .int (nI (n + 1)), .int (nI (l))]) dX8_gives_19 rfl (by rw [← nI_1]; rfl) (by decide) rfl ?_
      refine rm_aload_n dX8_gives_22 rfl rfl ?_
      refine rm_iload_n dX8_gives_23 rfl rfl ?_
      refine rm_callV (As := [.int (nI (r))]) (st := []) dX8_gives_24 cvX8_164 rfl rfl (by decide) (zv_cat_i [nI (r)]) (Nat.le_of_ble_eq_true rfl) (cM_next d (a := (rm_gv a r l)) (nc := rm_NC (rm_gv a r l)) (nl := rm_NL (rm_gv a r l)) (r := r) nh.1 nh.2.1 nh.2.2.1 nh.2.2.2.1 hr nh.2.2.2.2) (fun v b q => ?_)
      obtain ⟨rfl, rfl⟩ := q
      show rm_V _ _ 27 [.ref 3, .int (nI (r)), .int (nI (n + 1)), .int (nI (l))] [.int (rm_o (rm_nx (rm_gv a r l) r))] _ _
      refine rm_istore_n (lv' := [.ref 3, .int (nI (r)), .int (nI (n + 1)), .int (rm_o (rm_nx (rm_gv a r l) r))]) dX8_gives_27 rfl (by decide) rfl ?_
      refine rm_goto (tgt := 8) dX8_gives_28 (by decide) ?_
      exact ih (rm_gv a r l) (n + 1) hP2 ht (by omega)
theorem cM_gives (d : Nat) {r : Nat} (hr : r < 8) {P : zv_I → Prop} (hP : rm_stay P r) {f : Nat} {a : zv_I} (hPa : P a) (ht : rm_gvt r f a = true) (hf : f < 2 ^ 31) : rm_V mX8_gives (d + 6) 0 [.ref 3, .int (nI r)] [] a (rm_p (nI (rm_gvs r f a 0).2) (rm_gvs r f a 0).1) := by
  have nh := (hP a hPa).1
  refine rm_iconst (v := nI (0)) dX8_gives_0 (by decide) ?_
  refine rm_istore_n (lv' := [.ref 3, .int (nI (r)), .int (nI (0))]) dX8_gives_1 rfl (by decide) rfl ?_
  refine rm_aload_n dX8_gives_2 rfl rfl ?_
  refine rm_iload_n dX8_gives_3 rfl rfl ?_
  refine rm_callV (As := [.int (nI (r))]) (st := []) dX8_gives_4 cvX8_164 rfl rfl (by decide) (zv_cat_i [nI (r)]) (Nat.le_of_ble_eq_true rfl) (cM_next d (a := a) (nc := rm_NC a) (nl := rm_NL a) (r := r) nh.1 nh.2.1 nh.2.2.1 nh.2.2.2.1 hr nh.2.2.2.2) (fun v b q => ?_)
  obtain ⟨rfl, rfl⟩ := q
  show rm_V _ _ 7 [.ref 3, .int (nI (r)), .int (nI (0))] [.int (rm_o (rm_nx a r))] _ _
  refine rm_istore_n (lv' := [.ref 3, .int (nI (r)), .int (nI (0)), .int (rm_o (rm_nx a r))]) dX8_gives_7 rfl (by decide) rfl ?_
  exact cM_gives_l d hr hP f a 0 hPa ht (by omega)
theorem cM_call_1 (d : Nat) {a : zv_I} {nm nc : Nat} (hm : a 3 0 = nI nm) (hmb : nm ≤ 8) (hc : a 3 1 = nI nc) (hcb : nc ≤ 6) {kk w c x : Int32} {good : Bool} (hbad : (rm_lt w nm && (rm_lt c nc && good)) = false) : rm_V mX8_call (d + 2) 0 [.ref 3, .int kk, .int w, .int c, .int x, .int (rm_b good)] [] a (rm_p (-1 : Int32) (zv_u a 3 24 (nI 1))) := by
  refine rm_aload_n dX8_call_0 rfl rfl ?_
  refine rm_iload_n dX8_call_1 rfl rfl ?_
  refine rm_callV (As := [.int (w)]) (st := []) dX8_call_2 cvX8_113 rfl rfl (by decide) (zv_cat_i [w]) (Nat.le_of_ble_eq_true rfl) (cM_isMember d hm (by omega) w) (fun v b q => ?_)
  obtain ⟨rfl, rfl⟩ := q
  show rm_V _ _ 5 [.ref 3, .int (kk), .int (w), .int (c), .int (x), .int (rm_b (good))] [.int (rm_b (rm_lt w nm))] _ _
  refine rm_ifB_eq (tgt := 20) dX8_call_5 (by decide) (fun h5 => ?_) (fun h5 => ?_)
  · refine rm_iconst (v := nI (0)) dX8_call_20 (by decide) ?_
    refine rm_istore (lv' := [.ref 3, .int (kk), .int (w), .int (c), .int (x), .int (rm_b (good)), .int (nI (0))]) dX8_call_21 (by decide) rfl ?_
    refine rm_iload dX8_call_23 rfl ?_
    refine rm_if_eq (tgt := 33) dX8_call_25 (by decide) (fun h25 => ?_) (fun h25 => (absurd h25 (by decide)))
    refine rm_aload_n dX8_call_33 rfl rfl ?_
    refine rm_iconst (v := nI (1)) dX8_call_34 (by decide) ?_
    refine rm_callV (As := [.int (nI (1))]) (st := []) dX8_call_35 cvX8_103 rfl rfl (by decide) (zv_cat_i [nI (1)]) (Nat.le_of_ble_eq_true rfl) (cM_refused (d + 1) a (nI (1))) (fun v b q => ?_)
    obtain ⟨rfl, rfl⟩ := q
    show rm_V _ _ 38 [.ref 3, .int (kk), .int (w), .int (c), .int (x), .int (rm_b (good)), .int (nI (0))] [.int ((-1 : Int32))] _ _
    refine rm_iret dX8_call_38 rfl rfl ?_
    exact ⟨rfl, rfl⟩
  · refine rm_aload_n dX8_call_8 rfl rfl ?_
    refine rm_iload_n dX8_call_9 rfl rfl ?_
    refine rm_callV (As := [.int (c)]) (st := []) dX8_call_10 cvX8_117 rfl rfl (by decide) (zv_cat_i [c]) (Nat.le_of_ble_eq_true rfl) (cM_isCircle d hc (by omega) c) (fun v b q => ?_)
    obtain ⟨rfl, rfl⟩ := q
    show rm_V _ _ 13 [.ref 3, .int (kk), .int (w), .int (c), .int (x), .int (rm_b (good))] [.int (rm_b (rm_lt c nc))] _ _
    refine rm_ifB_eq (tgt := 20) dX8_call_13 (by decide) (fun h13 => ?_) (fun h13 => ?_)
    · refine rm_iconst (v := nI (0)) dX8_call_20 (by decide) ?_
      refine rm_istore (lv' := [.ref 3, .int (kk), .int (w), .int (c), .int (x), .int (rm_b (good)), .int (nI (0))]) dX8_call_21 (by decide) rfl ?_
      refine rm_iload dX8_call_23 rfl ?_
      refine rm_if_eq (tgt := 33) dX8_call_25 (by decide) (fun h25 => ?_) (fun h25 => (absurd h25 (by decide)))
      refine rm_aload_n dX8_call_33 rfl rfl ?_
      refine rm_iconst (v := nI (1)) dX8_call_34 (by decide) ?_
      refine rm_callV (As := [.int (nI (1))]) (st := []) dX8_call_35 cvX8_103 rfl rfl (by decide) (zv_cat_i [nI (1)]) (Nat.le_of_ble_eq_true rfl) (cM_refused (d + 1) a (nI (1))) (fun v b q => ?_)
      obtain ⟨rfl, rfl⟩ := q
      show rm_V _ _ 38 [.ref 3, .int (kk), .int (w), .int (c), .int (x), .int (rm_b (good)), .int (nI (0))] [.int ((-1 : Int32))] _ _
      refine rm_iret dX8_call_38 rfl rfl ?_
      exact ⟨rfl, rfl⟩
    · refine rm_iconst (v := nI (1)) dX8_call_16 (by decide) ?_
      refine rm_goto (tgt := 21) dX8_call_17 (by decide) ?_
      refine rm_istore (lv' := [.ref 3, .int (kk), .int (w), .int (c), .int (x), .int (rm_b (good)), .int (nI (1))]) dX8_call_21 (by decide) rfl ?_
      refine rm_iload dX8_call_23 rfl ?_
      refine rm_if_eq (tgt := 33) dX8_call_25 (by decide) (fun h25 => (absurd h25 (by decide))) (fun h25 => ?_)
      refine rm_iload dX8_call_28 rfl ?_
      refine rm_ifB_ne (tgt := 39) dX8_call_30 (by decide) (fun h30 => ?_) (fun h30 => ?_)
      · rw [h5, h13, h30] at hbad
        cases hbad
      · refine rm_aload_n dX8_call_33 rfl rfl ?_
        refine rm_iconst (v := nI (1)) dX8_call_34 (by decide) ?_
        refine rm_callV (As := [.int (nI (1))]) (st := []) dX8_call_35 cvX8_103 rfl rfl (by decide) (zv_cat_i [nI (1)]) (Nat.le_of_ble_eq_true rfl) (cM_refused (d + 1) a (nI (1))) (fun v b q => ?_)
        obtain ⟨rfl, rfl⟩ := q
        show rm_V _ _ 38 [.ref 3, .int (kk), .int (w), .int (c), .int (x), .int (rm_b (good)), .int (nI (1))] [.int ((-1 : Int32))] _ _
        refine rm_iret dX8_call_38 rfl rfl ?_
        exact ⟨rfl, rfl⟩
def rm_knw (a : zv_I) (w : Nat) : Option Nat → Bool
  | none => true
  | some y => decide (a 12 y = nI w ∨ a 20 (200 * w + y) = nI 3)
def rm_c1 (a : zv_I) : zv_I := zv_u a 3 5 (nI (rm_NA a + 1))
def rm_c2 (a : zv_I) (nc l : Nat) (kk : Int32) (w c : Nat) (x : Int32) : zv_I := rm_mad (rm_c1 a) nc l kk w c x
def rm_c3 (a : zv_I) (nc l : Nat) (kk : Int32) (w c : Nat) (x : Int32) : zv_I := rm_cts (rm_c2 a nc l kk w c x) nc l w c
def rm_c4 (a : zv_I) (nm nc l : Nat) (kk : Int32) (w c : Nat) (x : Int32) : zv_I := rm_goes (rm_c3 a nc l kk w c x) nm l
theorem rm_c3_o {a : zv_I} {nc l w c t j : Nat} {kk x : Int32} (h17 : t ≠ 17) (h23 : t ≠ 23) : rm_c3 a nc l kk w c x t j = rm_c2 a nc l kk w c x t j := by
  unfold rm_c3 rm_cts
  rw [zv_u_t _ _ h23, zv_u_t _ _ h17]
theorem cM_call_2 (d : Nat) {a : zv_I} {nm nc nl w c : Nat} {kk : Int32} {x : Option Nat} (hm : a 3 0 = nI nm) (hmb : nm ≤ 8) (hc : a 3 1 = nI nc) (hcb : nc ≤ 6) (hn : a 3 4 = nI nl) (hnb : nl ≤ 200) (ha : a 3 5 = nI (rm_NA a)) (hab : rm_NA a ≤ 100) (hw : w < nm) (hcc : c < nc) (hx : ∀ y, x = some y → y < nl) (h100 : rm_NA a = 100) : rm_V mX8_call (d + 7) 0 [.ref 3, .int kk, .int (nI w), .int (nI c), .int (rm_o x), .int (rm_b true)] [] a (rm_p (-1 : Int32) (zv_u a 3 24 (nI 2))) := by
  refine rm_aload_n dX8_call_0 rfl rfl ?_
  refine rm_iload_n dX8_call_1 rfl rfl ?_
  refine rm_callV (As := [.int (nI (w))]) (st := []) dX8_call_2 cvX8_113 rfl rfl (by decide) (zv_cat_i [nI (w)]) (Nat.le_of_ble_eq_true rfl) (cM_isMember (d + 5) hm (by omega) (nI w)) (fun v b q => ?_)
  obtain ⟨rfl, rfl⟩ := q
  show rm_V _ _ 5 [.ref 3, .int (kk), .int (nI (w)), .int (nI (c)), .int ((rm_o x)), .int (rm_b (true))] [.int (rm_b (rm_lt (nI w) nm))] _ _
  refine rm_ifB_eq (tgt := 20) dX8_call_5 (by decide) (fun h5 => (absurd h5 (by rw [rm_lt_n (by omega), decide_eq_true hw]; decide))) (fun h5 => ?_)
  refine rm_aload_n dX8_call_8 rfl rfl ?_
  refine rm_iload_n dX8_call_9 rfl rfl ?_
  refine rm_callV (As := [.int (nI (c))]) (st := []) dX8_call_10 cvX8_117 rfl rfl (by decide) (zv_cat_i [nI (c)]) (Nat.le_of_ble_eq_true rfl) (cM_isCircle (d + 5) hc (by omega) (nI c)) (fun v b q => ?_)
  obtain ⟨rfl, rfl⟩ := q
  show rm_V _ _ 13 [.ref 3, .int (kk), .int (nI (w)), .int (nI (c)), .int ((rm_o x)), .int (rm_b (true))] [.int (rm_b (rm_lt (nI c) nc))] _ _
  refine rm_ifB_eq (tgt := 20) dX8_call_13 (by decide) (fun h13 => (absurd h13 (by rw [rm_lt_n (by omega), decide_eq_true hcc]; decide))) (fun h13 => ?_)
  refine rm_iconst (v := nI (1)) dX8_call_16 (by decide) ?_
  refine rm_goto (tgt := 21) dX8_call_17 (by decide) ?_
  refine rm_istore (lv' := [.ref 3, .int (kk), .int (nI (w)), .int (nI (c)), .int ((rm_o x)), .int (rm_b (true)), .int (nI (1))]) dX8_call_21 (by decide) rfl ?_
  refine rm_iload dX8_call_23 rfl ?_
  refine rm_if_eq (tgt := 33) dX8_call_25 (by decide) (fun h25 => (absurd h25 (by decide))) (fun h25 => ?_)
  refine rm_iload dX8_call_28 rfl ?_
  refine rm_ifB_ne (tgt := 39) dX8_call_30 (by decide) (fun h30 => ?_) (fun h30 => (absurd h30 (by decide)))
  refine rm_aload_n dX8_call_39 rfl rfl ?_
  refine rm_geti 5 (x := nI (rm_NA a)) dX8_call_40 flX8_120 rfl (ha) ?_
  refine rm_bipush (v := nI (100)) dX8_call_43 (by decide) ?_
  refine rm_icN_ne (tgt := 54) dX8_call_45 (by decide) (by omega) (by omega) (fun h45 => (absurd h100 h45)) (fun h45 => ?_)
  refine rm_aload_n dX8_call_48 rfl rfl ?_
  refine rm_iconst (v := nI (2)) dX8_call_49 (by decide) ?_
  refine rm_callV (As := [.int (nI (2))]) (st := []) dX8_call_50 cvX8_103 rfl rfl (by decide) (zv_cat_i [nI (2)]) (Nat.le_of_ble_eq_true rfl) (cM_refused (d + 6) a (nI (2))) (fun v b q => ?_)
  obtain ⟨rfl, rfl⟩ := q
  show rm_V _ _ 53 [.ref 3, .int (kk), .int (nI (w)), .int (nI (c)), .int ((rm_o x)), .int (rm_b (true)), .int (nI (1))] [.int ((-1 : Int32))] _ _
  refine rm_iret dX8_call_53 rfl rfl ?_
  exact ⟨rfl, rfl⟩
theorem cM_call_3 (d : Nat) {a : zv_I} {nm nc nl w c : Nat} {kk : Int32} {x : Option Nat} (hm : a 3 0 = nI nm) (hmb : nm ≤ 8) (hc : a 3 1 = nI nc) (hcb : nc ≤ 6) (hn : a 3 4 = nI nl) (hnb : nl ≤ 200) (ha : a 3 5 = nI (rm_NA a)) (hab : rm_NA a ≤ 100) (hw : w < nm) (hcc : c < nc) (hx : ∀ y, x = some y → y < nl) (h100 : rm_NA a < 100) (hbad : (rm_in a w c && rm_knw a w x) = false) : rm_V mX8_call (d + 7) 0 [.ref 3, .int kk, .int (nI w), .int (nI c), .int (rm_o x), .int (rm_b true)] [] a (rm_p (-1 : Int32) (zv_u a 3 24 (nI 3))) := by
  cases x with
  | none =>
    refine rm_aload_n dX8_call_0 rfl rfl ?_
    refine rm_iload_n dX8_call_1 rfl rfl ?_
    refine rm_callV (As := [.int (nI (w))]) (st := []) dX8_call_2 cvX8_113 rfl rfl (by decide) (zv_cat_i [nI (w)]) (Nat.le_of_ble_eq_true rfl) (cM_isMember (d + 5) hm (by omega) (nI w)) (fun v b q => ?_)
    obtain ⟨rfl, rfl⟩ := q
    show rm_V _ _ 5 [.ref 3, .int (kk), .int (nI (w)), .int (nI (c)), .int ((-1 : Int32)), .int (rm_b (true))] [.int (rm_b (rm_lt (nI w) nm))] _ _
    refine rm_ifB_eq (tgt := 20) dX8_call_5 (by decide) (fun h5 => (absurd h5 (by rw [rm_lt_n (by omega), decide_eq_true hw]; decide))) (fun h5 => ?_)
    refine rm_aload_n dX8_call_8 rfl rfl ?_
    refine rm_iload_n dX8_call_9 rfl rfl ?_
    refine rm_callV (As := [.int (nI (c))]) (st := []) dX8_call_10 cvX8_117 rfl rfl (by decide) (zv_cat_i [nI (c)]) (Nat.le_of_ble_eq_true rfl) (cM_isCircle (d + 5) hc (by omega) (nI c)) (fun v b q => ?_)
    obtain ⟨rfl, rfl⟩ := q
    show rm_V _ _ 13 [.ref 3, .int (kk), .int (nI (w)), .int (nI (c)), .int ((-1 : Int32)), .int (rm_b (true))] [.int (rm_b (rm_lt (nI c) nc))] _ _
    refine rm_ifB_eq (tgt := 20) dX8_call_13 (by decide) (fun h13 => (absurd h13 (by rw [rm_lt_n (by omega), decide_eq_true hcc]; decide))) (fun h13 => ?_)
    refine rm_iconst (v := nI (1)) dX8_call_16 (by decide) ?_
    refine rm_goto (tgt := 21) dX8_call_17 (by decide) ?_
    refine rm_istore (lv' := [.ref 3, .int (kk), .int (nI (w)), .int (nI (c)), .int ((-1 : Int32)), .int (rm_b (true)), .int (nI (1))]) dX8_call_21 (by decide) rfl ?_
    refine rm_iload dX8_call_23 rfl ?_
    refine rm_if_eq (tgt := 33) dX8_call_25 (by decide) (fun h25 => (absurd h25 (by decide))) (fun h25 => ?_)
    refine rm_iload dX8_call_28 rfl ?_
    refine rm_ifB_ne (tgt := 39) dX8_call_30 (by decide) (fun h30 => ?_) (fun h30 => (absurd h30 (by decide)))
    refine rm_aload_n dX8_call_39 rfl rfl ?_
    refine rm_geti 5 (x := nI (rm_NA a)) dX8_call_40 flX8_120 rfl (ha) ?_
    refine rm_bipush (v := nI (100)) dX8_call_43 (by decide) ?_
    refine rm_icN_ne (tgt := 54) dX8_call_45 (by decide) (by omega) (by omega) (fun h45 => ?_) (fun h45 => (absurd h45 (by omega)))
    refine rm_iload dX8_call_54 rfl ?_
    refine rm_iconst (v := (-1 : Int32)) dX8_call_56 (by decide) ?_
    refine rm_icmp_eq (tgt := 88) dX8_call_57 (by decide) (fun h57 => ?_) (fun h57 => (absurd rfl h57))
    refine rm_iconst (v := nI (1)) dX8_call_88 (by decide) ?_
    refine rm_goto (tgt := 93) dX8_call_89 (by decide) ?_
    refine rm_istore (lv' := [.ref 3, .int (kk), .int (nI (w)), .int (nI (c)), .int ((-1 : Int32)), .int (rm_b (true)), .int (nI (1)), .int (nI (1))]) dX8_call_93 (by decide) rfl ?_
    refine rm_aload_n dX8_call_95 rfl rfl ?_
    refine rm_iload_n dX8_call_96 rfl rfl ?_
    refine rm_iload_n dX8_call_97 rfl rfl ?_
    refine rm_callV (As := [.int (nI (w)), .int (nI (c))]) (st := []) dX8_call_98 cvX8_92 rfl rfl (by decide) (zv_cat_i [nI (w), nI (c)]) (Nat.le_of_ble_eq_true rfl) (cM_isIn (d + 6) a (m := w) (c := c) (by omega)) (fun v b q => ?_)
    obtain ⟨rfl, rfl⟩ := q
    show rm_V _ _ 101 [.ref 3, .int (kk), .int (nI (w)), .int (nI (c)), .int ((-1 : Int32)), .int (rm_b (true)), .int (nI (1)), .int (nI (1))] [.int (rm_b (rm_in a w c))] _ _
    refine rm_ifB_eq (tgt := 109) dX8_call_101 (by decide) (fun h101 => ?_) (fun h101 => ?_)
    · refine rm_aload_n dX8_call_109 rfl rfl ?_
      refine rm_iconst (v := nI (3)) dX8_call_110 (by decide) ?_
      refine rm_callV (As := [.int (nI (3))]) (st := []) dX8_call_111 cvX8_103 rfl rfl (by decide) (zv_cat_i [nI (3)]) (Nat.le_of_ble_eq_true rfl) (cM_refused (d + 6) a (nI (3))) (fun v b q => ?_)
      obtain ⟨rfl, rfl⟩ := q
      show rm_V _ _ 114 [.ref 3, .int (kk), .int (nI (w)), .int (nI (c)), .int ((-1 : Int32)), .int (rm_b (true)), .int (nI (1)), .int (nI (1))] [.int ((-1 : Int32))] _ _
      refine rm_iret dX8_call_114 rfl rfl ?_
      exact ⟨rfl, rfl⟩
    · refine rm_iload dX8_call_104 rfl ?_
      refine rm_if_ne (tgt := 115) dX8_call_106 (by decide) (fun h106 => ?_) (fun h106 => (absurd h106 (by decide)))
      rw [h101, show rm_knw a w none = true from rfl] at hbad
      cases hbad
  | some y =>
    refine rm_aload_n dX8_call_0 rfl rfl ?_
    refine rm_iload_n dX8_call_1 rfl rfl ?_
    refine rm_callV (As := [.int (nI (w))]) (st := []) dX8_call_2 cvX8_113 rfl rfl (by decide) (zv_cat_i [nI (w)]) (Nat.le_of_ble_eq_true rfl) (cM_isMember (d + 5) hm (by omega) (nI w)) (fun v b q => ?_)
    obtain ⟨rfl, rfl⟩ := q
    show rm_V _ _ 5 [.ref 3, .int (kk), .int (nI (w)), .int (nI (c)), .int (nI (y)), .int (rm_b (true))] [.int (rm_b (rm_lt (nI w) nm))] _ _
    refine rm_ifB_eq (tgt := 20) dX8_call_5 (by decide) (fun h5 => (absurd h5 (by rw [rm_lt_n (by omega), decide_eq_true hw]; decide))) (fun h5 => ?_)
    refine rm_aload_n dX8_call_8 rfl rfl ?_
    refine rm_iload_n dX8_call_9 rfl rfl ?_
    refine rm_callV (As := [.int (nI (c))]) (st := []) dX8_call_10 cvX8_117 rfl rfl (by decide) (zv_cat_i [nI (c)]) (Nat.le_of_ble_eq_true rfl) (cM_isCircle (d + 5) hc (by omega) (nI c)) (fun v b q => ?_)
    obtain ⟨rfl, rfl⟩ := q
    show rm_V _ _ 13 [.ref 3, .int (kk), .int (nI (w)), .int (nI (c)), .int (nI (y)), .int (rm_b (true))] [.int (rm_b (rm_lt (nI c) nc))] _ _
    refine rm_ifB_eq (tgt := 20) dX8_call_13 (by decide) (fun h13 => (absurd h13 (by rw [rm_lt_n (by omega), decide_eq_true hcc]; decide))) (fun h13 => ?_)
    refine rm_iconst (v := nI (1)) dX8_call_16 (by decide) ?_
    refine rm_goto (tgt := 21) dX8_call_17 (by decide) ?_
    refine rm_istore (lv' := [.ref 3, .int (kk), .int (nI (w)), .int (nI (c)), .int (nI (y)), .int (rm_b (true)), .int (nI (1))]) dX8_call_21 (by decide) rfl ?_
    refine rm_iload dX8_call_23 rfl ?_
    refine rm_if_eq (tgt := 33) dX8_call_25 (by decide) (fun h25 => (absurd h25 (by decide))) (fun h25 => ?_)
    refine rm_iload dX8_call_28 rfl ?_
    refine rm_ifB_ne (tgt := 39) dX8_call_30 (by decide) (fun h30 => ?_) (fun h30 => (absurd h30 (by decide)))
    refine rm_aload_n dX8_call_39 rfl rfl ?_
    refine rm_geti 5 (x := nI (rm_NA a)) dX8_call_40 flX8_120 rfl (ha) ?_
    refine rm_bipush (v := nI (100)) dX8_call_43 (by decide) ?_
    refine rm_icN_ne (tgt := 54) dX8_call_45 (by decide) (by omega) (by omega) (fun h45 => ?_) (fun h45 => (absurd h45 (by omega)))
    refine rm_iload dX8_call_54 rfl ?_
    refine rm_iconst (v := (-1 : Int32)) dX8_call_56 (by decide) ?_
    refine rm_icmp_eq (tgt := 88) dX8_call_57 (by decide) (fun h57 => (absurd h57 (rm_ni1 (by have := hx y rfl; omega)))) (fun h57 => ?_)
    refine rm_aload_n dX8_call_60 rfl rfl ?_
    refine rm_getr 8 (t := 12) dX8_call_61 flX8_22 (by decide) rfl rfl ?_
    refine rm_iload dX8_call_64 rfl ?_
    refine rm_iald (f := 8) (j := y) (x := (a 12 (y))) dX8_call_66 rfl (by decide) rfl rfl (rfl) (show y < 200 from by have := hx y rfl; omega) (rfl) ?_
    refine rm_iload_n dX8_call_67 rfl rfl ?_
    refine rm_icmp_eq (tgt := 88) dX8_call_68 (by decide) (fun h68 => ?_) (fun h68 => ?_)
    · refine rm_iconst (v := nI (1)) dX8_call_88 (by decide) ?_
      refine rm_goto (tgt := 93) dX8_call_89 (by decide) ?_
      refine rm_istore (lv' := [.ref 3, .int (kk), .int (nI (w)), .int (nI (c)), .int (nI (y)), .int (rm_b (true)), .int (nI (1)), .int (nI (1))]) dX8_call_93 (by decide) rfl ?_
      refine rm_aload_n dX8_call_95 rfl rfl ?_
      refine rm_iload_n dX8_call_96 rfl rfl ?_
      refine rm_iload_n dX8_call_97 rfl rfl ?_
      refine rm_callV (As := [.int (nI (w)), .int (nI (c))]) (st := []) dX8_call_98 cvX8_92 rfl rfl (by decide) (zv_cat_i [nI (w), nI (c)]) (Nat.le_of_ble_eq_true rfl) (cM_isIn (d + 6) a (m := w) (c := c) (by omega)) (fun v b q => ?_)
      obtain ⟨rfl, rfl⟩ := q
      show rm_V _ _ 101 [.ref 3, .int (kk), .int (nI (w)), .int (nI (c)), .int (nI (y)), .int (rm_b (true)), .int (nI (1)), .int (nI (1))] [.int (rm_b (rm_in a w c))] _ _
      refine rm_ifB_eq (tgt := 109) dX8_call_101 (by decide) (fun h101 => ?_) (fun h101 => ?_)
      · refine rm_aload_n dX8_call_109 rfl rfl ?_
        refine rm_iconst (v := nI (3)) dX8_call_110 (by decide) ?_
        refine rm_callV (As := [.int (nI (3))]) (st := []) dX8_call_111 cvX8_103 rfl rfl (by decide) (zv_cat_i [nI (3)]) (Nat.le_of_ble_eq_true rfl) (cM_refused (d + 6) a (nI (3))) (fun v b q => ?_)
        obtain ⟨rfl, rfl⟩ := q
        show rm_V _ _ 114 [.ref 3, .int (kk), .int (nI (w)), .int (nI (c)), .int (nI (y)), .int (rm_b (true)), .int (nI (1)), .int (nI (1))] [.int ((-1 : Int32))] _ _
        refine rm_iret dX8_call_114 rfl rfl ?_
        exact ⟨rfl, rfl⟩
      · refine rm_iload dX8_call_104 rfl ?_
        refine rm_if_ne (tgt := 115) dX8_call_106 (by decide) (fun h106 => ?_) (fun h106 => (absurd h106 (by decide)))
        rw [h101, show rm_knw a w (some y) = true from decide_eq_true (Or.inl h68)] at hbad
        cases hbad
    · refine rm_aload_n dX8_call_71 rfl rfl ?_
      refine rm_getr 16 (t := 20) dX8_call_72 flX8_46 (by decide) rfl rfl ?_
      refine rm_sipush (v := nI (200)) dX8_call_75 (by decide) ?_
      refine rm_iload_n dX8_call_78 rfl rfl ?_
      refine rm_imul dX8_call_79 ?_
      refine rm_top (pk_mul (200) (w)) ?_
      refine rm_iload dX8_call_80 rfl ?_
      refine rm_iadd dX8_call_82 ?_
      refine rm_top (nI_add (200 * w) (y)) ?_
      refine rm_iald (f := 16) (j := 200 * w + y) (x := (a 20 (200 * w + y))) dX8_call_83 rfl (by decide) rfl rfl (rfl) (show 200 * w + y < 1600 from by have := hx y rfl; omega) (rfl) ?_
      refine rm_iconst (v := nI (3)) dX8_call_84 (by decide) ?_
      refine rm_icmp_ne (tgt := 92) dX8_call_85 (by decide) (fun h85 => ?_) (fun h85 => ?_)
      · refine rm_iconst (v := nI (0)) dX8_call_92 (by decide) ?_
        refine rm_istore (lv' := [.ref 3, .int (kk), .int (nI (w)), .int (nI (c)), .int (nI (y)), .int (rm_b (true)), .int (nI (1)), .int (nI (0))]) dX8_call_93 (by decide) rfl ?_
        refine rm_aload_n dX8_call_95 rfl rfl ?_
        refine rm_iload_n dX8_call_96 rfl rfl ?_
        refine rm_iload_n dX8_call_97 rfl rfl ?_
        refine rm_callV (As := [.int (nI (w)), .int (nI (c))]) (st := []) dX8_call_98 cvX8_92 rfl rfl (by decide) (zv_cat_i [nI (w), nI (c)]) (Nat.le_of_ble_eq_true rfl) (cM_isIn (d + 6) a (m := w) (c := c) (by omega)) (fun v b q => ?_)
        obtain ⟨rfl, rfl⟩ := q
        show rm_V _ _ 101 [.ref 3, .int (kk), .int (nI (w)), .int (nI (c)), .int (nI (y)), .int (rm_b (true)), .int (nI (1)), .int (nI (0))] [.int (rm_b (rm_in a w c))] _ _
        refine rm_ifB_eq (tgt := 109) dX8_call_101 (by decide) (fun h101 => ?_) (fun h101 => ?_)
        · refine rm_aload_n dX8_call_109 rfl rfl ?_
          refine rm_iconst (v := nI (3)) dX8_call_110 (by decide) ?_
          refine rm_callV (As := [.int (nI (3))]) (st := []) dX8_call_111 cvX8_103 rfl rfl (by decide) (zv_cat_i [nI (3)]) (Nat.le_of_ble_eq_true rfl) (cM_refused (d + 6) a (nI (3))) (fun v b q => ?_)
          obtain ⟨rfl, rfl⟩ := q
          show rm_V _ _ 114 [.ref 3, .int (kk), .int (nI (w)), .int (nI (c)), .int (nI (y)), .int (rm_b (true)), .int (nI (1)), .int (nI (0))] [.int ((-1 : Int32))] _ _
          refine rm_iret dX8_call_114 rfl rfl ?_
          exact ⟨rfl, rfl⟩
        · refine rm_iload dX8_call_104 rfl ?_
          refine rm_if_ne (tgt := 115) dX8_call_106 (by decide) (fun h106 => (absurd h106 (by decide))) (fun h106 => ?_)
          refine rm_aload_n dX8_call_109 rfl rfl ?_
          refine rm_iconst (v := nI (3)) dX8_call_110 (by decide) ?_
          refine rm_callV (As := [.int (nI (3))]) (st := []) dX8_call_111 cvX8_103 rfl rfl (by decide) (zv_cat_i [nI (3)]) (Nat.le_of_ble_eq_true rfl) (cM_refused (d + 6) a (nI (3))) (fun v b q => ?_)
          obtain ⟨rfl, rfl⟩ := q
          show rm_V _ _ 114 [.ref 3, .int (kk), .int (nI (w)), .int (nI (c)), .int (nI (y)), .int (rm_b (true)), .int (nI (1)), .int (nI (0))] [.int ((-1 : Int32))] _ _
          refine rm_iret dX8_call_114 rfl rfl ?_
          exact ⟨rfl, rfl⟩
      · refine rm_iconst (v := nI (1)) dX8_call_88 (by decide) ?_
        refine rm_goto (tgt := 93) dX8_call_89 (by decide) ?_
        refine rm_istore (lv' := [.ref 3, .int (kk), .int (nI (w)), .int (nI (c)), .int (nI (y)), .int (rm_b (true)), .int (nI (1)), .int (nI (1))]) dX8_call_93 (by decide) rfl ?_
        refine rm_aload_n dX8_call_95 rfl rfl ?_
        refine rm_iload_n dX8_call_96 rfl rfl ?_
        refine rm_iload_n dX8_call_97 rfl rfl ?_
        refine rm_callV (As := [.int (nI (w)), .int (nI (c))]) (st := []) dX8_call_98 cvX8_92 rfl rfl (by decide) (zv_cat_i [nI (w), nI (c)]) (Nat.le_of_ble_eq_true rfl) (cM_isIn (d + 6) a (m := w) (c := c) (by omega)) (fun v b q => ?_)
        obtain ⟨rfl, rfl⟩ := q
        show rm_V _ _ 101 [.ref 3, .int (kk), .int (nI (w)), .int (nI (c)), .int (nI (y)), .int (rm_b (true)), .int (nI (1)), .int (nI (1))] [.int (rm_b (rm_in a w c))] _ _
        refine rm_ifB_eq (tgt := 109) dX8_call_101 (by decide) (fun h101 => ?_) (fun h101 => ?_)
        · refine rm_aload_n dX8_call_109 rfl rfl ?_
          refine rm_iconst (v := nI (3)) dX8_call_110 (by decide) ?_
          refine rm_callV (As := [.int (nI (3))]) (st := []) dX8_call_111 cvX8_103 rfl rfl (by decide) (zv_cat_i [nI (3)]) (Nat.le_of_ble_eq_true rfl) (cM_refused (d + 6) a (nI (3))) (fun v b q => ?_)
          obtain ⟨rfl, rfl⟩ := q
          show rm_V _ _ 114 [.ref 3, .int (kk), .int (nI (w)), .int (nI (c)), .int (nI (y)), .int (rm_b (true)), .int (nI (1)), .int (nI (1))] [.int ((-1 : Int32))] _ _
          refine rm_iret dX8_call_114 rfl rfl ?_
          exact ⟨rfl, rfl⟩
        · refine rm_iload dX8_call_104 rfl ?_
          refine rm_if_ne (tgt := 115) dX8_call_106 (by decide) (fun h106 => ?_) (fun h106 => (absurd h106 (by decide)))
          rw [h101, show rm_knw a w (some y) = true from decide_eq_true (Or.inr h85)] at hbad
          cases hbad
theorem cM_call_t (d : Nat) {a : zv_I} {nm nc nl w c : Nat} {kk : Int32} {x : Option Nat} (hm : a 3 0 = nI nm) (hmb : nm ≤ 8) (hc : a 3 1 = nI nc) (hcb : nc ≤ 6) (hn : a 3 4 = nI nl) (hnb : nl ≤ 200) (ha : a 3 5 = nI (rm_NA a)) (hab : rm_NA a ≤ 100) (hw : w < nm) (hcc : c < nc) (hx : ∀ y, x = some y → y < nl) (hnl : nl < 200) (h26 : ∀ y, y < nl → a 26 (200 * nl + y) = 0) (h23 : ¬ a 23 (6 * w + c) = -1 → a 23 (6 * w + c) = nI (rm_nv (a 23 (6 * w + c))) ∧ rm_nv (a 23 (6 * w + c)) < 200) {P : zv_I → Prop} (hP : rm_stay P w) {f : Nat} (hf : f < 2 ^ 31) (hPa : P (rm_c4 a nm nc nl kk w c (rm_o x))) (ht : rm_gvt w f (rm_c4 a nm nc nl kk w c (rm_o x)) = true) : rm_V mX8_call (d + 7) 115 [.ref 3, .int kk, .int (nI w), .int (nI c), .int (rm_o x), .int (rm_b true), .int (nI 1), .int (nI 1)] [] a (rm_p (nI nl) (zv_u (rm_gvs w f (rm_c4 a nm nc nl kk w c (rm_o x)) 0).1 3 24 (nI 0))) := by
  have b3 : ∀ j, j ≠ 5 → rm_c1 a 3 j = a 3 j := fun j hj => zv_u_j a _ hj
  have k1 : rm_c2 a nc nl kk w c (rm_o x) 3 1 = nI nc := by unfold rm_c2; rw [rm_mad_3 (by decide), b3 1 (by decide)]; exact hc
  have k0 : rm_c3 a nc nl kk w c (rm_o x) 3 0 = nI nm := by rw [rm_c3_o (by decide) (by decide)]; unfold rm_c2; rw [rm_mad_3 (by decide), b3 0 (by decide)]; exact hm
  have k23 : ¬ rm_c2 a nc nl kk w c (rm_o x) 23 (6 * w + c) = -1 → rm_c2 a nc nl kk w c (rm_o x) 23 (6 * w + c) = nI (rm_nv (rm_c2 a nc nl kk w c (rm_o x) 23 (6 * w + c))) ∧ rm_nv (rm_c2 a nc nl kk w c (rm_o x) 23 (6 * w + c)) < 200 := by rw [show rm_c2 a nc nl kk w c (rm_o x) 23 (6 * w + c) = a 23 (6 * w + c) from congrFun (rm_mad_o (a := rm_c1 a) (by decide) (by decide) (by decide) (by decide) (by decide) (by decide) (by decide) (by decide) (by decide) (by decide) (by decide) (by decide)) _]; exact h23
  have k11 : rm_c3 a nc nl kk w c (rm_o x) 11 nl = nI c := by rw [rm_c3_o (by decide) (by decide)]; exact rm_mad_11
  have k12 : rm_c3 a nc nl kk w c (rm_o x) 12 nl = nI w := by rw [rm_c3_o (by decide) (by decide)]; exact rm_mad_12
  have e11 : rm_ci (rm_c3 a nc nl kk w c (rm_o x)) nl = c := by show rm_nv (rm_c3 a nc nl kk w c (rm_o x) 11 nl) = _; rw [k11]; exact rm_nv_n (by omega)
  have e12 : rm_wr (rm_c3 a nc nl kk w c (rm_o x)) nl = w := by show rm_nv (rm_c3 a nc nl kk w c (rm_o x) 12 nl) = _; rw [k12]; exact rm_nv_n (by omega)
  have k2 : rm_c3 a nc nl kk w c (rm_o x) 11 nl = nI (rm_ci (rm_c3 a nc nl kk w c (rm_o x)) nl) := by rw [e11]; exact k11
  have k3 : rm_ci (rm_c3 a nc nl kk w c (rm_o x)) nl < 6 := by rw [e11]; omega
  have k4 : rm_c3 a nc nl kk w c (rm_o x) 12 nl = nI (rm_wr (rm_c3 a nc nl kk w c (rm_o x)) nl) := by rw [e12]; exact k12
  have k5 : rm_wr (rm_c3 a nc nl kk w c (rm_o x)) nl < 8 := by rw [e12]; omega
  refine rm_aload_n dX8_call_115 rfl rfl ?_
  refine rm_dup dX8_call_116 rfl ?_
  refine rm_geti 5 (x := nI (rm_NA a)) dX8_call_117 flX8_120 rfl (ha) ?_
  refine rm_iconst (v := nI (1)) dX8_call_120 (by decide) ?_
  refine rm_iadd dX8_call_121 ?_
  refine rm_top (nI_add (rm_NA a) (1)) ?_
  refine rm_puti 5 dX8_call_122 fwX8_120 rfl ?_
  refine rm_aload_n dX8_call_125 rfl rfl ?_
  refine rm_iload_n dX8_call_126 rfl rfl ?_
  refine rm_iload_n dX8_call_127 rfl rfl ?_
  refine rm_iload_n dX8_call_128 rfl rfl ?_
  refine rm_iload dX8_call_129 rfl ?_
  refine rm_callV (As := [.int (kk), .int (nI (w)), .int (nI (c)), .int ((rm_o x))]) (st := []) dX8_call_131 cvX8_123 rfl rfl (by decide) (zv_cat_i [kk, nI (w), nI (c), (rm_o x)]) (Nat.le_of_ble_eq_true rfl) (cM_made (d + 5) (a := rm_c1 a) (nc := nc) (l := nl) (w := w) (c := c) (kk := kk) (x := rm_o x) hn hnl hc hcb (by omega) (by omega) h26) (fun v b q => ?_)
  obtain ⟨rfl, rfl⟩ := q
  show rm_V _ _ 134 [.ref 3, .int (kk), .int (nI (w)), .int (nI (c)), .int ((rm_o x)), .int (rm_b (true)), .int (nI (1)), .int (nI (1))] [.int (nI (nl))] _ _
  refine rm_istore (lv' := [.ref 3, .int (kk), .int (nI (w)), .int (nI (c)), .int ((rm_o x)), .int (rm_b (true)), .int (nI (1)), .int (nI (1)), .int (nI (nl))]) dX8_call_134 (by decide) rfl ?_
  refine rm_aload_n dX8_call_136 rfl rfl ?_
  refine rm_iload dX8_call_137 rfl ?_
  refine rm_iload_n dX8_call_139 rfl rfl ?_
  refine rm_iload_n dX8_call_140 rfl rfl ?_
  refine rm_callV (As := [.int (nI (nl)), .int (nI (w)), .int (nI (c))]) (st := []) dX8_call_141 cvX8_127 rfl rfl (by decide) (zv_cat_i [nI (nl), nI (w), nI (c)]) (Nat.le_of_ble_eq_true rfl) (cM_counts (d + 5) (a := rm_c2 a nc nl kk w c (rm_o x)) (nc := nc) (l := nl) (w := w) (c := c) k1 hcb hnl (by omega) (by omega) k23) (fun v b q => ?_)
  obtain ⟨rfl, rfl⟩ := q
  show rm_V _ _ 144 [.ref 3, .int (kk), .int (nI (w)), .int (nI (c)), .int ((rm_o x)), .int (rm_b (true)), .int (nI (1)), .int (nI (1)), .int (nI (nl))] [] _ _
  refine rm_aload_n dX8_call_144 rfl rfl ?_
  refine rm_iload dX8_call_145 rfl ?_
  refine rm_callV (As := [.int (nI (nl))]) (st := []) dX8_call_147 cvX8_131 rfl rfl (by decide) (zv_cat_i [nI (nl)]) (Nat.le_of_ble_eq_true rfl) (cM_goes (d + 5) (a := rm_c3 a nc nl kk w c (rm_o x)) (nm := nm) (l := nl) k0 hmb hnl k2 k3 k4 k5) (fun v b q => ?_)
  obtain ⟨rfl, rfl⟩ := q
  show rm_V _ _ 150 [.ref 3, .int (kk), .int (nI (w)), .int (nI (c)), .int ((rm_o x)), .int (rm_b (true)), .int (nI (1)), .int (nI (1)), .int (nI (nl))] [] _ _
  refine rm_aload_n dX8_call_150 rfl rfl ?_
  refine rm_iload_n dX8_call_151 rfl rfl ?_
  refine rm_callV (As := [.int (nI (w))]) (st := []) dX8_call_152 cvX8_135 rfl rfl (by decide) (zv_cat_i [nI (w)]) (Nat.le_of_ble_eq_true rfl) (cM_gives d (r := w) (by omega) hP (f := f) hPa ht hf) (fun v b q => ?_)
  obtain ⟨rfl, rfl⟩ := q
  show rm_V _ _ 155 [.ref 3, .int (kk), .int (nI (w)), .int (nI (c)), .int ((rm_o x)), .int (rm_b (true)), .int (nI (1)), .int (nI (1)), .int (nI (nl))] [.int (nI (rm_gvs w f (rm_c4 a nm nc nl kk w c (rm_o x)) 0).2)] _ _
  refine rm_pop dX8_call_155 rfl ?_
  refine rm_aload_n dX8_call_156 rfl rfl ?_
  refine rm_iload dX8_call_157 rfl ?_
  refine rm_callV (As := [.int (nI (nl))]) (st := []) dX8_call_159 cvX8_106 rfl rfl (by decide) (zv_cat_i [nI (nl)]) (Nat.le_of_ble_eq_true rfl) (cM_done (d + 6) (((rm_gvs w f (rm_c4 a nm nc nl kk w c (rm_o x)) 0).1)) (nI nl)) (fun v b q => ?_)
  obtain ⟨rfl, rfl⟩ := q
  show rm_V _ _ 162 [.ref 3, .int (kk), .int (nI (w)), .int (nI (c)), .int ((rm_o x)), .int (rm_b (true)), .int (nI (1)), .int (nI (1)), .int (nI (nl))] [.int (nI (nl))] _ _
  refine rm_iret dX8_call_162 rfl rfl ?_
  exact ⟨rfl, rfl⟩
theorem cM_call_0 (d : Nat) {a : zv_I} {nm nc nl w c : Nat} {kk : Int32} {x : Option Nat} (hm : a 3 0 = nI nm) (hmb : nm ≤ 8) (hc : a 3 1 = nI nc) (hcb : nc ≤ 6) (hn : a 3 4 = nI nl) (hnb : nl ≤ 200) (ha : a 3 5 = nI (rm_NA a)) (hab : rm_NA a ≤ 100) (hw : w < nm) (hcc : c < nc) (hx : ∀ y, x = some y → y < nl) (h100 : rm_NA a < 100) (hgood : (rm_in a w c && rm_knw a w x) = true) (hnl : nl < 200) (h26 : ∀ y, y < nl → a 26 (200 * nl + y) = 0) (h23 : ¬ a 23 (6 * w + c) = -1 → a 23 (6 * w + c) = nI (rm_nv (a 23 (6 * w + c))) ∧ rm_nv (a 23 (6 * w + c)) < 200) {P : zv_I → Prop} (hP : rm_stay P w) {f : Nat} (hf : f < 2 ^ 31) (hPa : P (rm_c4 a nm nc nl kk w c (rm_o x))) (ht : rm_gvt w f (rm_c4 a nm nc nl kk w c (rm_o x)) = true) : rm_V mX8_call (d + 7) 0 [.ref 3, .int kk, .int (nI w), .int (nI c), .int (rm_o x), .int (rm_b true)] [] a (rm_p (nI nl) (zv_u (rm_gvs w f (rm_c4 a nm nc nl kk w c (rm_o x)) 0).1 3 24 (nI 0))) := by
  have hg : rm_in a w c = true ∧ rm_knw a w x = true := by rw [Bool.and_eq_true] at hgood; exact hgood
  cases x with
  | none =>
    refine rm_aload_n dX8_call_0 rfl rfl ?_
    refine rm_iload_n dX8_call_1 rfl rfl ?_
    refine rm_callV (As := [.int (nI (w))]) (st := []) dX8_call_2 cvX8_113 rfl rfl (by decide) (zv_cat_i [nI (w)]) (Nat.le_of_ble_eq_true rfl) (cM_isMember (d + 5) hm (by omega) (nI w)) (fun v b q => ?_)
    obtain ⟨rfl, rfl⟩ := q
    show rm_V _ _ 5 [.ref 3, .int (kk), .int (nI (w)), .int (nI (c)), .int ((-1 : Int32)), .int (rm_b (true))] [.int (rm_b (rm_lt (nI w) nm))] _ _
    refine rm_ifB_eq (tgt := 20) dX8_call_5 (by decide) (fun h5 => (absurd h5 (by rw [rm_lt_n (by omega), decide_eq_true hw]; decide))) (fun h5 => ?_)
    refine rm_aload_n dX8_call_8 rfl rfl ?_
    refine rm_iload_n dX8_call_9 rfl rfl ?_
    refine rm_callV (As := [.int (nI (c))]) (st := []) dX8_call_10 cvX8_117 rfl rfl (by decide) (zv_cat_i [nI (c)]) (Nat.le_of_ble_eq_true rfl) (cM_isCircle (d + 5) hc (by omega) (nI c)) (fun v b q => ?_)
    obtain ⟨rfl, rfl⟩ := q
    show rm_V _ _ 13 [.ref 3, .int (kk), .int (nI (w)), .int (nI (c)), .int ((-1 : Int32)), .int (rm_b (true))] [.int (rm_b (rm_lt (nI c) nc))] _ _
    refine rm_ifB_eq (tgt := 20) dX8_call_13 (by decide) (fun h13 => (absurd h13 (by rw [rm_lt_n (by omega), decide_eq_true hcc]; decide))) (fun h13 => ?_)
    refine rm_iconst (v := nI (1)) dX8_call_16 (by decide) ?_
    refine rm_goto (tgt := 21) dX8_call_17 (by decide) ?_
    refine rm_istore (lv' := [.ref 3, .int (kk), .int (nI (w)), .int (nI (c)), .int ((-1 : Int32)), .int (rm_b (true)), .int (nI (1))]) dX8_call_21 (by decide) rfl ?_
    refine rm_iload dX8_call_23 rfl ?_
    refine rm_if_eq (tgt := 33) dX8_call_25 (by decide) (fun h25 => (absurd h25 (by decide))) (fun h25 => ?_)
    refine rm_iload dX8_call_28 rfl ?_
    refine rm_ifB_ne (tgt := 39) dX8_call_30 (by decide) (fun h30 => ?_) (fun h30 => (absurd h30 (by decide)))
    refine rm_aload_n dX8_call_39 rfl rfl ?_
    refine rm_geti 5 (x := nI (rm_NA a)) dX8_call_40 flX8_120 rfl (ha) ?_
    refine rm_bipush (v := nI (100)) dX8_call_43 (by decide) ?_
    refine rm_icN_ne (tgt := 54) dX8_call_45 (by decide) (by omega) (by omega) (fun h45 => ?_) (fun h45 => (absurd h45 (by omega)))
    refine rm_iload dX8_call_54 rfl ?_
    refine rm_iconst (v := (-1 : Int32)) dX8_call_56 (by decide) ?_
    refine rm_icmp_eq (tgt := 88) dX8_call_57 (by decide) (fun h57 => ?_) (fun h57 => (absurd rfl h57))
    refine rm_iconst (v := nI (1)) dX8_call_88 (by decide) ?_
    refine rm_goto (tgt := 93) dX8_call_89 (by decide) ?_
    refine rm_istore (lv' := [.ref 3, .int (kk), .int (nI (w)), .int (nI (c)), .int ((-1 : Int32)), .int (rm_b (true)), .int (nI (1)), .int (nI (1))]) dX8_call_93 (by decide) rfl ?_
    refine rm_aload_n dX8_call_95 rfl rfl ?_
    refine rm_iload_n dX8_call_96 rfl rfl ?_
    refine rm_iload_n dX8_call_97 rfl rfl ?_
    refine rm_callV (As := [.int (nI (w)), .int (nI (c))]) (st := []) dX8_call_98 cvX8_92 rfl rfl (by decide) (zv_cat_i [nI (w), nI (c)]) (Nat.le_of_ble_eq_true rfl) (cM_isIn (d + 6) a (m := w) (c := c) (by omega)) (fun v b q => ?_)
    obtain ⟨rfl, rfl⟩ := q
    show rm_V _ _ 101 [.ref 3, .int (kk), .int (nI (w)), .int (nI (c)), .int ((-1 : Int32)), .int (rm_b (true)), .int (nI (1)), .int (nI (1))] [.int (rm_b (rm_in a w c))] _ _
    refine rm_ifB_eq (tgt := 109) dX8_call_101 (by decide) (fun h101 => (absurd h101 (by rw [hg.1]; decide))) (fun h101 => ?_)
    refine rm_iload dX8_call_104 rfl ?_
    refine rm_if_ne (tgt := 115) dX8_call_106 (by decide) (fun h106 => ?_) (fun h106 => (absurd h106 (by decide)))
    exact cM_call_t d hm hmb hc hcb hn hnb ha hab hw hcc hx hnl h26 h23 hP hf hPa ht
  | some y =>
    refine rm_aload_n dX8_call_0 rfl rfl ?_
    refine rm_iload_n dX8_call_1 rfl rfl ?_
    refine rm_callV (As := [.int (nI (w))]) (st := []) dX8_call_2 cvX8_113 rfl rfl (by decide) (zv_cat_i [nI (w)]) (Nat.le_of_ble_eq_true rfl) (cM_isMember (d + 5) hm (by omega) (nI w)) (fun v b q => ?_)
    obtain ⟨rfl, rfl⟩ := q
    show rm_V _ _ 5 [.ref 3, .int (kk), .int (nI (w)), .int (nI (c)), .int (nI (y)), .int (rm_b (true))] [.int (rm_b (rm_lt (nI w) nm))] _ _
    refine rm_ifB_eq (tgt := 20) dX8_call_5 (by decide) (fun h5 => (absurd h5 (by rw [rm_lt_n (by omega), decide_eq_true hw]; decide))) (fun h5 => ?_)
    refine rm_aload_n dX8_call_8 rfl rfl ?_
    refine rm_iload_n dX8_call_9 rfl rfl ?_
    refine rm_callV (As := [.int (nI (c))]) (st := []) dX8_call_10 cvX8_117 rfl rfl (by decide) (zv_cat_i [nI (c)]) (Nat.le_of_ble_eq_true rfl) (cM_isCircle (d + 5) hc (by omega) (nI c)) (fun v b q => ?_)
    obtain ⟨rfl, rfl⟩ := q
    show rm_V _ _ 13 [.ref 3, .int (kk), .int (nI (w)), .int (nI (c)), .int (nI (y)), .int (rm_b (true))] [.int (rm_b (rm_lt (nI c) nc))] _ _
    refine rm_ifB_eq (tgt := 20) dX8_call_13 (by decide) (fun h13 => (absurd h13 (by rw [rm_lt_n (by omega), decide_eq_true hcc]; decide))) (fun h13 => ?_)
    refine rm_iconst (v := nI (1)) dX8_call_16 (by decide) ?_
    refine rm_goto (tgt := 21) dX8_call_17 (by decide) ?_
    refine rm_istore (lv' := [.ref 3, .int (kk), .int (nI (w)), .int (nI (c)), .int (nI (y)), .int (rm_b (true)), .int (nI (1))]) dX8_call_21 (by decide) rfl ?_
    refine rm_iload dX8_call_23 rfl ?_
    refine rm_if_eq (tgt := 33) dX8_call_25 (by decide) (fun h25 => (absurd h25 (by decide))) (fun h25 => ?_)
    refine rm_iload dX8_call_28 rfl ?_
    refine rm_ifB_ne (tgt := 39) dX8_call_30 (by decide) (fun h30 => ?_) (fun h30 => (absurd h30 (by decide)))
    refine rm_aload_n dX8_call_39 rfl rfl ?_
    refine rm_geti 5 (x := nI (rm_NA a)) dX8_call_40 flX8_120 rfl (ha) ?_
    refine rm_bipush (v := nI (100)) dX8_call_43 (by decide) ?_
    refine rm_icN_ne (tgt := 54) dX8_call_45 (by decide) (by omega) (by omega) (fun h45 => ?_) (fun h45 => (absurd h45 (by omega)))
    refine rm_iload dX8_call_54 rfl ?_
    refine rm_iconst (v := (-1 : Int32)) dX8_call_56 (by decide) ?_
    refine rm_icmp_eq (tgt := 88) dX8_call_57 (by decide) (fun h57 => (absurd h57 (rm_ni1 (by have := hx y rfl; omega)))) (fun h57 => ?_)
    refine rm_aload_n dX8_call_60 rfl rfl ?_
    refine rm_getr 8 (t := 12) dX8_call_61 flX8_22 (by decide) rfl rfl ?_
    refine rm_iload dX8_call_64 rfl ?_
    refine rm_iald (f := 8) (j := y) (x := (a 12 (y))) dX8_call_66 rfl (by decide) rfl rfl (rfl) (show y < 200 from by have := hx y rfl; omega) (rfl) ?_
    refine rm_iload_n dX8_call_67 rfl rfl ?_
    refine rm_icmp_eq (tgt := 88) dX8_call_68 (by decide) (fun h68 => ?_) (fun h68 => ?_)
    · refine rm_iconst (v := nI (1)) dX8_call_88 (by decide) ?_
      refine rm_goto (tgt := 93) dX8_call_89 (by decide) ?_
      refine rm_istore (lv' := [.ref 3, .int (kk), .int (nI (w)), .int (nI (c)), .int (nI (y)), .int (rm_b (true)), .int (nI (1)), .int (nI (1))]) dX8_call_93 (by decide) rfl ?_
      refine rm_aload_n dX8_call_95 rfl rfl ?_
      refine rm_iload_n dX8_call_96 rfl rfl ?_
      refine rm_iload_n dX8_call_97 rfl rfl ?_
      refine rm_callV (As := [.int (nI (w)), .int (nI (c))]) (st := []) dX8_call_98 cvX8_92 rfl rfl (by decide) (zv_cat_i [nI (w), nI (c)]) (Nat.le_of_ble_eq_true rfl) (cM_isIn (d + 6) a (m := w) (c := c) (by omega)) (fun v b q => ?_)
      obtain ⟨rfl, rfl⟩ := q
      show rm_V _ _ 101 [.ref 3, .int (kk), .int (nI (w)), .int (nI (c)), .int (nI (y)), .int (rm_b (true)), .int (nI (1)), .int (nI (1))] [.int (rm_b (rm_in a w c))] _ _
      refine rm_ifB_eq (tgt := 109) dX8_call_101 (by decide) (fun h101 => (absurd h101 (by rw [hg.1]; decide))) (fun h101 => ?_)
      refine rm_iload dX8_call_104 rfl ?_
      refine rm_if_ne (tgt := 115) dX8_call_106 (by decide) (fun h106 => ?_) (fun h106 => (absurd h106 (by decide)))
      exact cM_call_t d hm hmb hc hcb hn hnb ha hab hw hcc hx hnl h26 h23 hP hf hPa ht
    · refine rm_aload_n dX8_call_71 rfl rfl ?_
      refine rm_getr 16 (t := 20) dX8_call_72 flX8_46 (by decide) rfl rfl ?_
      refine rm_sipush (v := nI (200)) dX8_call_75 (by decide) ?_
      refine rm_iload_n dX8_call_78 rfl rfl ?_
      refine rm_imul dX8_call_79 ?_
      refine rm_top (pk_mul (200) (w)) ?_
      refine rm_iload dX8_call_80 rfl ?_
      refine rm_iadd dX8_call_82 ?_
      refine rm_top (nI_add (200 * w) (y)) ?_
      refine rm_iald (f := 16) (j := 200 * w + y) (x := (a 20 (200 * w + y))) dX8_call_83 rfl (by decide) rfl rfl (rfl) (show 200 * w + y < 1600 from by have := hx y rfl; omega) (rfl) ?_
      refine rm_iconst (v := nI (3)) dX8_call_84 (by decide) ?_
      refine rm_icmp_ne (tgt := 92) dX8_call_85 (by decide) (fun h85 => ?_) (fun h85 => ?_)
      · refine rm_iconst (v := nI (0)) dX8_call_92 (by decide) ?_
        refine rm_istore (lv' := [.ref 3, .int (kk), .int (nI (w)), .int (nI (c)), .int (nI (y)), .int (rm_b (true)), .int (nI (1)), .int (nI (0))]) dX8_call_93 (by decide) rfl ?_
        refine rm_aload_n dX8_call_95 rfl rfl ?_
        refine rm_iload_n dX8_call_96 rfl rfl ?_
        refine rm_iload_n dX8_call_97 rfl rfl ?_
        refine rm_callV (As := [.int (nI (w)), .int (nI (c))]) (st := []) dX8_call_98 cvX8_92 rfl rfl (by decide) (zv_cat_i [nI (w), nI (c)]) (Nat.le_of_ble_eq_true rfl) (cM_isIn (d + 6) a (m := w) (c := c) (by omega)) (fun v b q => ?_)
        obtain ⟨rfl, rfl⟩ := q
        show rm_V _ _ 101 [.ref 3, .int (kk), .int (nI (w)), .int (nI (c)), .int (nI (y)), .int (rm_b (true)), .int (nI (1)), .int (nI (0))] [.int (rm_b (rm_in a w c))] _ _
        refine rm_ifB_eq (tgt := 109) dX8_call_101 (by decide) (fun h101 => (absurd h101 (by rw [hg.1]; decide))) (fun h101 => ?_)
        refine rm_iload dX8_call_104 rfl ?_
        refine rm_if_ne (tgt := 115) dX8_call_106 (by decide) (fun h106 => (absurd h106 (by decide))) (fun h106 => ?_)
        refine rm_aload_n dX8_call_109 rfl rfl ?_
        refine rm_iconst (v := nI (3)) dX8_call_110 (by decide) ?_
        refine rm_callV (As := [.int (nI (3))]) (st := []) dX8_call_111 cvX8_103 rfl rfl (by decide) (zv_cat_i [nI (3)]) (Nat.le_of_ble_eq_true rfl) (cM_refused (d + 6) a (nI (3))) (fun v b q => ?_)
        obtain ⟨rfl, rfl⟩ := q
        show rm_V _ _ 114 [.ref 3, .int (kk), .int (nI (w)), .int (nI (c)), .int (nI (y)), .int (rm_b (true)), .int (nI (1)), .int (nI (0))] [.int ((-1 : Int32))] _ _
        refine rm_iret dX8_call_114 rfl rfl ?_
        exact absurd hg.2 (by rw [show rm_knw a w (some y) = false from decide_eq_false (fun q => q.elim h68 h85)]; decide)
      · refine rm_iconst (v := nI (1)) dX8_call_88 (by decide) ?_
        refine rm_goto (tgt := 93) dX8_call_89 (by decide) ?_
        refine rm_istore (lv' := [.ref 3, .int (kk), .int (nI (w)), .int (nI (c)), .int (nI (y)), .int (rm_b (true)), .int (nI (1)), .int (nI (1))]) dX8_call_93 (by decide) rfl ?_
        refine rm_aload_n dX8_call_95 rfl rfl ?_
        refine rm_iload_n dX8_call_96 rfl rfl ?_
        refine rm_iload_n dX8_call_97 rfl rfl ?_
        refine rm_callV (As := [.int (nI (w)), .int (nI (c))]) (st := []) dX8_call_98 cvX8_92 rfl rfl (by decide) (zv_cat_i [nI (w), nI (c)]) (Nat.le_of_ble_eq_true rfl) (cM_isIn (d + 6) a (m := w) (c := c) (by omega)) (fun v b q => ?_)
        obtain ⟨rfl, rfl⟩ := q
        show rm_V _ _ 101 [.ref 3, .int (kk), .int (nI (w)), .int (nI (c)), .int (nI (y)), .int (rm_b (true)), .int (nI (1)), .int (nI (1))] [.int (rm_b (rm_in a w c))] _ _
        refine rm_ifB_eq (tgt := 109) dX8_call_101 (by decide) (fun h101 => (absurd h101 (by rw [hg.1]; decide))) (fun h101 => ?_)
        refine rm_iload dX8_call_104 rfl ?_
        refine rm_if_ne (tgt := 115) dX8_call_106 (by decide) (fun h106 => ?_) (fun h106 => (absurd h106 (by decide)))
        exact cM_call_t d hm hmb hc hcb hn hnb ha hab hw hcc hx hnl h26 h23 hP hf hPa ht
