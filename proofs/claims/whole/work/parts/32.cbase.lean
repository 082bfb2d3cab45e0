/-! THE CLASS: words -/
/-- answers x, leaves the four functions as they are named -/
def cc_p (x : Int32) (sh : zv_S) (I : zv_I) (J : zv_J) (R : zv_R) : zv_Q := fun v sh' I' J' R' => v = some (.int x) ∧ sh = sh' ∧ I = I' ∧ J = J' ∧ R = R'
def cc_q (sh : zv_S) (I : zv_I) (J : zv_J) (R : zv_R) : zv_Q := fun v sh' I' J' R' => v = none ∧ sh = sh' ∧ I = I' ∧ J = J' ∧ R = R'
def cc_r (o : Option Nat) (sh : zv_S) (I : zv_I) (J : zv_J) (R : zv_R) : zv_Q := fun v sh' I' J' R' => v = some (va_rf o) ∧ sh = sh' ∧ I = I' ∧ J = J' ∧ R = R'
theorem cc_c0 : ∀ w ∈ ([] : List Value), w.category = 1 := fun _ h => by cases h
theorem cc_c1 {v : Value} {vs : List Value} (h : v.category = 1) (k : ∀ w ∈ vs, w.category = 1) : ∀ w ∈ v :: vs, w.category = 1 := fun w hw => (List.mem_cons.mp hw).elim (fun e => e ▸ h) (fun e => k w e)
section CB
variable {E : zv_E} {M : zv_M} {d kc ks pc : Nat} {lv st : List Value} {sh : zv_S} {I : zv_I} {J : zv_J} {R : zv_R} {Q : zv_Q}
theorem cc_top {x y : Int32} (h : x = y) (k : zv_V E M d kc ks pc lv (.int y :: st) sh I J R Q) : zv_V E M d kc ks pc lv (.int x :: st) sh I J R Q := h ▸ k
theorem zv_icN_eq {i j : Nat} {off : Int} {tgt : Nat} (hd : decode M.2.1 pc = .ok (.if_icmp .eq off, 3)) (ht : (pc : Int) + off = (tgt : Int)) (hi : i < 2 ^ 31) (hj : j < 2 ^ 31) (kt : i = j → zv_V E M d kc ks tgt lv st sh I J R Q) (kf : i ≠ j → zv_V E M d kc ks (pc + 3) lv st sh I J R Q) : zv_V E M d kc ks pc lv (.int (nI j) :: .int (nI i) :: st) sh I J R Q := zv_icmp_eq hd ht (fun h => kt ((nI_eq hi hj).mp h)) (fun h => kf (fun q => h ((nI_eq hi hj).mpr q)))
theorem zv_icN_ne {i j : Nat} {off : Int} {tgt : Nat} (hd : decode M.2.1 pc = .ok (.if_icmp .ne off, 3)) (ht : (pc : Int) + off = (tgt : Int)) (hi : i < 2 ^ 31) (hj : j < 2 ^ 31) (kt : i ≠ j → zv_V E M d kc ks tgt lv st sh I J R Q) (kf : i = j → zv_V E M d kc ks (pc + 3) lv st sh I J R Q) : zv_V E M d kc ks pc lv (.int (nI j) :: .int (nI i) :: st) sh I J R Q := zv_icmp_ne hd ht (fun h => kt (fun q => h ((nI_eq hi hj).mpr q))) (fun h => kf ((nI_eq hi hj).mp h))
theorem zv_icN_lt {i j : Nat} {off : Int} {tgt : Nat} (hd : decode M.2.1 pc = .ok (.if_icmp .lt off, 3)) (ht : (pc : Int) + off = (tgt : Int)) (hi : i < 2 ^ 31) (hj : j < 2 ^ 31) (kt : i < j → zv_V E M d kc ks tgt lv st sh I J R Q) (kf : j ≤ i → zv_V E M d kc ks (pc + 3) lv st sh I J R Q) : zv_V E M d kc ks pc lv (.int (nI j) :: .int (nI i) :: st) sh I J R Q := zv_icmp_lt hd ht (fun h => kt ((nI_ltI hi hj).mp h)) (fun h => kf (Nat.not_lt.mp fun q => h ((nI_ltI hi hj).mpr q)))
theorem zv_icN_ge {i j : Nat} {off : Int} {tgt : Nat} (hd : decode M.2.1 pc = .ok (.if_icmp .ge off, 3)) (ht : (pc : Int) + off = (tgt : Int)) (hi : i < 2 ^ 31) (hj : j < 2 ^ 31) (kt : j ≤ i → zv_V E M d kc ks tgt lv st sh I J R Q) (kf : i < j → zv_V E M d kc ks (pc + 3) lv st sh I J R Q) : zv_V E M d kc ks pc lv (.int (nI j) :: .int (nI i) :: st) sh I J R Q := zv_icmp_ge hd ht (fun h => kt ((nI_leI hj hi).mp h)) (fun h => kf (Nat.not_le.mp fun q => h ((nI_leI hj hi).mpr q)))
theorem zv_icN_gt {i j : Nat} {off : Int} {tgt : Nat} (hd : decode M.2.1 pc = .ok (.if_icmp .gt off, 3)) (ht : (pc : Int) + off = (tgt : Int)) (hi : i < 2 ^ 31) (hj : j < 2 ^ 31) (kt : j < i → zv_V E M d kc ks tgt lv st sh I J R Q) (kf : i ≤ j → zv_V E M d kc ks (pc + 3) lv st sh I J R Q) : zv_V E M d kc ks pc lv (.int (nI j) :: .int (nI i) :: st) sh I J R Q := zv_icmp_gt hd ht (fun h => kt ((nI_ltI hj hi).mp h)) (fun h => kf (Nat.not_lt.mp fun q => h ((nI_ltI hj hi).mpr q)))
theorem zv_icN_le {i j : Nat} {off : Int} {tgt : Nat} (hd : decode M.2.1 pc = .ok (.if_icmp .le off, 3)) (ht : (pc : Int) + off = (tgt : Int)) (hi : i < 2 ^ 31) (hj : j < 2 ^ 31) (kt : i ≤ j → zv_V E M d kc ks tgt lv st sh I J R Q) (kf : j < i → zv_V E M d kc ks (pc + 3) lv st sh I J R Q) : zv_V E M d kc ks pc lv (.int (nI j) :: .int (nI i) :: st) sh I J R Q := zv_icmp_le hd ht (fun h => kt ((nI_leI hi hj).mp h)) (fun h => kf (Nat.not_le.mp fun q => h ((nI_leI hi hj).mpr q)))
theorem zv_ifB_eq {b : Bool} {off : Int} {tgt : Nat} (hd : decode M.2.1 pc = .ok (.ifCond .eq off, 3)) (ht : (pc : Int) + off = (tgt : Int)) (kt : b = false → zv_V E M d kc ks tgt lv st sh I J R Q) (kf : b = true → zv_V E M d kc ks (pc + 3) lv st sh I J R Q) : zv_V E M d kc ks pc lv (.int (rm_b b) :: st) sh I J R Q :=
  zv_if_eq hd ht (fun h => kt ((rm_b_z b).mp h)) (fun h => kf (by cases b; exact absurd rfl h; rfl))
theorem zv_ifB_ne {b : Bool} {off : Int} {tgt : Nat} (hd : decode M.2.1 pc = .ok (.ifCond .ne off, 3)) (ht : (pc : Int) + off = (tgt : Int)) (kt : b = true → zv_V E M d kc ks tgt lv st sh I J R Q) (kf : b = false → zv_V E M d kc ks (pc + 3) lv st sh I J R Q) : zv_V E M d kc ks pc lv (.int (rm_b b) :: st) sh I J R Q :=
  zv_if_ne hd ht (fun h => kt (by cases b; exact absurd rfl h; rfl)) (fun h => kf ((rm_b_z b).mp h))
theorem cc_callVk {M1 : zv_M} {idx b c n' n kc1 ks1 : Nat} {As : List Value} {Q1 : zv_Q} {q : vw_C} (hd : decode M.2.1 pc = .ok (.invokevirtual idx, 3)) (hm : zv_CV M.1.cls idx M1 n) (hs : sh b = some (10 + c, n')) (hc : zv_cl[c]? = some q) (hq : q.1 = M1.1.cls) (hn : As.length = n) (hA : n + 1 ≤ M1.2.2.1) (hcat : ∀ w ∈ As, w.category = 1) (hst : (st.map fun v => v.category).sum ≤ 8)
    (hV : zv_V E M1 d kc1 ks1 0 (.ref b :: As) [] sh I J R Q1) (k : ∀ v sh' I' J' R', Q1 v sh' I' J' R' → zv_V E M (d + 1) kc ks (pc + 3) lv (v.toList ++ st) sh' I' J' R' Q) : zv_V E M (d + 1) (kc1 + kc) (ks1 + ks) pc lv (As.reverse ++ .ref b :: st) sh I J R Q := by
  subst hn
  exact zv_callV hd hm.1 hm.2.1 hm.2.2.1 hm.2.2.2 hs hc hq hA hcat hst hV k
theorem cc_callV {M1 : zv_M} {idx b c n' n : Nat} {As : List Value} {Q1 : zv_Q} {q : vw_C} (hd : decode M.2.1 pc = .ok (.invokevirtual idx, 3)) (hm : zv_CV M.1.cls idx M1 n) (hs : sh b = some (10 + c, n')) (hc : zv_cl[c]? = some q) (hq : q.1 = M1.1.cls) (hn : As.length = n) (hA : n + 1 ≤ M1.2.2.1) (hcat : ∀ w ∈ As, w.category = 1) (hst : (st.map fun v => v.category).sum ≤ 8)
    (hV : zv_V E M1 d 0 0 0 (.ref b :: As) [] sh I J R Q1) (k : ∀ v sh' I' J' R', Q1 v sh' I' J' R' → zv_V E M (d + 1) kc ks (pc + 3) lv (v.toList ++ st) sh' I' J' R' Q) : zv_V E M (d + 1) kc ks pc lv (As.reverse ++ .ref b :: st) sh I J R Q := by
  have h := cc_callVk hd hm hs hc hq hn hA hcat hst hV k
  rw [Nat.zero_add, Nat.zero_add] at h
  exact h
theorem cc_callSk {M1 : zv_M} {idx n kc1 ks1 : Nat} {As : List Value} {Q1 : zv_Q} (hd : decode M.2.1 pc = .ok (.invokestatic idx, 3)) (hm : zv_CS M.1.cls idx M1 n) (hn : As.length = n) (hA : n ≤ M1.2.2.1) (hcat : ∀ w ∈ As, w.category = 1) (hst : (st.map fun v => v.category).sum ≤ 8)
    (hV : zv_V E M1 d kc1 ks1 0 As [] sh I J R Q1) (k : ∀ v sh' I' J' R', Q1 v sh' I' J' R' → zv_V E M (d + 1) kc ks (pc + 3) lv (v.toList ++ st) sh' I' J' R' Q) : zv_V E M (d + 1) (kc1 + kc) (ks1 + ks) pc lv (As.reverse ++ st) sh I J R Q := by
  subst hn
  exact zv_callS hd hm.1 hm.2.1 hm.2.2 hA hcat hst hV k
theorem cc_callS {M1 : zv_M} {idx n : Nat} {As : List Value} {Q1 : zv_Q} (hd : decode M.2.1 pc = .ok (.invokestatic idx, 3)) (hm : zv_CS M.1.cls idx M1 n) (hn : As.length = n) (hA : n ≤ M1.2.2.1) (hcat : ∀ w ∈ As, w.category = 1) (hst : (st.map fun v => v.category).sum ≤ 8)
    (hV : zv_V E M1 d 0 0 0 As [] sh I J R Q1) (k : ∀ v sh' I' J' R', Q1 v sh' I' J' R' → zv_V E M (d + 1) kc ks (pc + 3) lv (v.toList ++ st) sh' I' J' R' Q) : zv_V E M (d + 1) kc ks pc lv (As.reverse ++ st) sh I J R Q := by
  have h := cc_callSk hd hm hn hA hcat hst hV k
  rw [Nat.zero_add, Nat.zero_add] at h
  exact h
theorem cc_callI {M1 : zv_M} {idx b n kc1 ks1 : Nat} {As : List Value} {Q1 : zv_Q} (hd : decode M.2.1 pc = .ok (.invokespecial idx, 3)) (hm : zv_CI M.1.cls idx M1 n) (hn : As.length = n) (hA : n + 1 ≤ M1.2.2.1) (hcat : ∀ w ∈ As, w.category = 1) (hst : (st.map fun v => v.category).sum ≤ 8)
    (hV : zv_V E M1 d kc1 ks1 0 (.ref b :: As) [] sh I J R Q1) (k : ∀ v sh' I' J' R', Q1 v sh' I' J' R' → zv_V E M (d + 1) kc ks (pc + 3) lv (v.toList ++ st) sh' I' J' R' Q) : zv_V E M (d + 1) (kc1 + kc) (ks1 + ks) pc lv (As.reverse ++ .ref b :: st) sh I J R Q := by
  subst hn
  exact zv_callI hd hm.1 hm.2.1 hm.2.2.1 hm.2.2.2.1 hm.2.2.2.2 hA hcat hst hV k
end CB
def cc_W0 (sh : zv_S) (R : zv_R) : Prop :=
  sh 40 = some (16, 0) ∧
  R 40 0 = some 41 ∧
  sh 41 = some (4, 8) ∧
  R 40 1 = some 42 ∧
  sh 42 = some (5, 6) ∧
  R 40 2 = some 43 ∧
  sh 43 = some (6, 200) ∧
  R 40 3 = some 44 ∧
  sh 44 = some (0, 200) ∧
  R 40 4 = some 45 ∧
  sh 45 = some (15, 0) ∧
  R 45 0 = some 46 ∧
  sh 46 = some (0, 60)
theorem wW0_s40 {sh : zv_S} {R : zv_R} (w : cc_W0 sh R ) : sh 40 = some (16, 0) := w.1
theorem wW0_r0 {sh : zv_S} {R : zv_R} (w : cc_W0 sh R ) : R 40 0 = some 41 := w.2.1
theorem wW0_s41 {sh : zv_S} {R : zv_R} (w : cc_W0 sh R ) : sh 41 = some (4, 8) := w.2.2.1
theorem wW0_r1 {sh : zv_S} {R : zv_R} (w : cc_W0 sh R ) : R 40 1 = some 42 := w.2.2.2.1
theorem wW0_s42 {sh : zv_S} {R : zv_R} (w : cc_W0 sh R ) : sh 42 = some (5, 6) := w.2.2.2.2.1
theorem wW0_r2 {sh : zv_S} {R : zv_R} (w : cc_W0 sh R ) : R 40 2 = some 43 := w.2.2.2.2.2.1
theorem wW0_s43 {sh : zv_S} {R : zv_R} (w : cc_W0 sh R ) : sh 43 = some (6, 200) := w.2.2.2.2.2.2.1
theorem wW0_r3 {sh : zv_S} {R : zv_R} (w : cc_W0 sh R ) : R 40 3 = some 44 := w.2.2.2.2.2.2.2.1
theorem wW0_s44 {sh : zv_S} {R : zv_R} (w : cc_W0 sh R ) : sh 44 = some (0, 200) := w.2.2.2.2.2.2.2.2.1
theorem wW0_r4 {sh : zv_S} {R : zv_R} (w : cc_W0 sh R ) : R 40 4 = some 45 := w.2.2.2.2.2.2.2.2.2.1
theorem wW0_s45 {sh : zv_S} {R : zv_R} (w : cc_W0 sh R ) : sh 45 = some (15, 0) := w.2.2.2.2.2.2.2.2.2.2.1
theorem wW0_b {sh : zv_S} {R : zv_R} (w : cc_W0 sh R ) : R 45 0 = some 46 := w.2.2.2.2.2.2.2.2.2.2.2.1
theorem wW0_s46 {sh : zv_S} {R : zv_R} (w : cc_W0 sh R ) : sh 46 = some (0, 60) := w.2.2.2.2.2.2.2.2.2.2.2.2
def cc_WM (sh : zv_S) (R : zv_R) (m : Nat) : Prop :=
  sh (100 + 20 * m) = some (13, 0) ∧
  R (100 + 20 * m) 0 = some (101 + 20 * m) ∧
  sh (101 + 20 * m) = some (3, 6) ∧
  R (100 + 20 * m) 1 = some (108 + 20 * m) ∧
  sh (108 + 20 * m) = some (0, 6) ∧
  R (100 + 20 * m) 2 = some (109 + 20 * m) ∧
  sh (109 + 20 * m) = some (0, 6) ∧
  R (100 + 20 * m) 3 = some (110 + 20 * m) ∧
  sh (110 + 20 * m) = some (7, 6) ∧
  R (100 + 20 * m) 4 = some (111 + 20 * m) ∧
  sh (111 + 20 * m) = some (0, 200) ∧
  R (100 + 20 * m) 5 = some (112 + 20 * m) ∧
  sh (112 + 20 * m) = some (6, 200) ∧
  R (100 + 20 * m) 6 = some (113 + 20 * m) ∧
  sh (113 + 20 * m) = some (8, 40) ∧
  R (100 + 20 * m) 7 = some (114 + 20 * m) ∧
  sh (114 + 20 * m) = some (14, 0) ∧
  R (114 + 20 * m) 0 = some (115 + 20 * m) ∧
  sh (115 + 20 * m) = some (1, 4) ∧
  ∀ e, e < 6 → R (101 + 20 * m) e = some (102 + 20 * m + e) ∧ sh (102 + 20 * m + e) = some (0, 8)
theorem wWM_s {sh : zv_S} {R : zv_R} {m : Nat} (w : cc_WM sh R m) : sh (100 + 20 * m) = some (13, 0) := w.1
theorem wWM_r0 {sh : zv_S} {R : zv_R} {m : Nat} (w : cc_WM sh R m) : R (100 + 20 * m) 0 = some (101 + 20 * m) := w.2.1
theorem wWM_s0 {sh : zv_S} {R : zv_R} {m : Nat} (w : cc_WM sh R m) : sh (101 + 20 * m) = some (3, 6) := w.2.2.1
theorem wWM_r1 {sh : zv_S} {R : zv_R} {m : Nat} (w : cc_WM sh R m) : R (100 + 20 * m) 1 = some (108 + 20 * m) := w.2.2.2.1
theorem wWM_s1 {sh : zv_S} {R : zv_R} {m : Nat} (w : cc_WM sh R m) : sh (108 + 20 * m) = some (0, 6) := w.2.2.2.2.1
theorem wWM_r2 {sh : zv_S} {R : zv_R} {m : Nat} (w : cc_WM sh R m) : R (100 + 20 * m) 2 = some (109 + 20 * m) := w.2.2.2.2.2.1
theorem wWM_s2 {sh : zv_S} {R : zv_R} {m : Nat} (w : cc_WM sh R m) : sh (109 + 20 * m) = some (0, 6) := w.2.2.2.2.2.2.1
theorem wWM_r3 {sh : zv_S} {R : zv_R} {m : Nat} (w : cc_WM sh R m) : R (100 + 20 * m) 3 = some (110 + 20 * m) := w.2.2.2.2.2.2.2.1
theorem wWM_s3 {sh : zv_S} {R : zv_R} {m : Nat} (w : cc_WM sh R m) : sh (110 + 20 * m) = some (7, 6) := w.2.2.2.2.2.2.2.2.1
theorem wWM_r4 {sh : zv_S} {R : zv_R} {m : Nat} (w : cc_WM sh R m) : R (100 + 20 * m) 4 = some (111 + 20 * m) := w.2.2.2.2.2.2.2.2.2.1
theorem wWM_s4 {sh : zv_S} {R : zv_R} {m : Nat} (w : cc_WM sh R m) : sh (111 + 20 * m) = some (0, 200) := w.2.2.2.2.2.2.2.2.2.2.1
theorem wWM_r5 {sh : zv_S} {R : zv_R} {m : Nat} (w : cc_WM sh R m) : R (100 + 20 * m) 5 = some (112 + 20 * m) := w.2.2.2.2.2.2.2.2.2.2.2.1
theorem wWM_s5 {sh : zv_S} {R : zv_R} {m : Nat} (w : cc_WM sh R m) : sh (112 + 20 * m) = some (6, 200) := w.2.2.2.2.2.2.2.2.2.2.2.2.1
theorem wWM_r6 {sh : zv_S} {R : zv_R} {m : Nat} (w : cc_WM sh R m) : R (100 + 20 * m) 6 = some (113 + 20 * m) := w.2.2.2.2.2.2.2.2.2.2.2.2.2.1
theorem wWM_s6 {sh : zv_S} {R : zv_R} {m : Nat} (w : cc_WM sh R m) : sh (113 + 20 * m) = some (8, 40) := w.2.2.2.2.2.2.2.2.2.2.2.2.2.2.1
theorem wWM_r7 {sh : zv_S} {R : zv_R} {m : Nat} (w : cc_WM sh R m) : R (100 + 20 * m) 7 = some (114 + 20 * m) := w.2.2.2.2.2.2.2.2.2.2.2.2.2.2.2.1
theorem wWM_s7 {sh : zv_S} {R : zv_R} {m : Nat} (w : cc_WM sh R m) : sh (114 + 20 * m) = some (14, 0) := w.2.2.2.2.2.2.2.2.2.2.2.2.2.2.2.2.1
theorem wWM_w {sh : zv_S} {R : zv_R} {m : Nat} (w : cc_WM sh R m) : R (114 + 20 * m) 0 = some (115 + 20 * m) := w.2.2.2.2.2.2.2.2.2.2.2.2.2.2.2.2.2.1
theorem wWM_sw {sh : zv_S} {R : zv_R} {m : Nat} (w : cc_WM sh R m) : sh (115 + 20 * m) = some (1, 4) := w.2.2.2.2.2.2.2.2.2.2.2.2.2.2.2.2.2.2.1
theorem wWM_g {sh : zv_S} {R : zv_R} {m : Nat} (w : cc_WM sh R m) : ∀ e, e < 6 → R (101 + 20 * m) e = some (102 + 20 * m + e) ∧ sh (102 + 20 * m + e) = some (0, 8) := w.2.2.2.2.2.2.2.2.2.2.2.2.2.2.2.2.2.2.2
def cc_WL (sh : zv_S) (R : zv_R) (l : Nat) : Prop :=
  sh (300 + 3 * l) = some (12, 0) ∧
  R (300 + 3 * l) 7 = some (301 + 3 * l) ∧
  sh (301 + 3 * l) = some (14, 0) ∧
  R (301 + 3 * l) 0 = some (302 + 3 * l) ∧
  sh (302 + 3 * l) = some (1, 4)
theorem wWL_s {sh : zv_S} {R : zv_R} {l : Nat} (w : cc_WL sh R l) : sh (300 + 3 * l) = some (12, 0) := w.1
theorem wWL_r7 {sh : zv_S} {R : zv_R} {l : Nat} (w : cc_WL sh R l) : R (300 + 3 * l) 7 = some (301 + 3 * l) := w.2.1
theorem wWL_s7 {sh : zv_S} {R : zv_R} {l : Nat} (w : cc_WL sh R l) : sh (301 + 3 * l) = some (14, 0) := w.2.2.1
theorem wWL_w {sh : zv_S} {R : zv_R} {l : Nat} (w : cc_WL sh R l) : R (301 + 3 * l) 0 = some (302 + 3 * l) := w.2.2.2.1
theorem wWL_sw {sh : zv_S} {R : zv_R} {l : Nat} (w : cc_WL sh R l) : sh (302 + 3 * l) = some (1, 4) := w.2.2.2.2
def cc_WK (sh : zv_S) (R : zv_R) (k : Nat) : Prop :=
  sh (1000 + 8 * k) = some (11, 0) ∧
  R (1000 + 8 * k) 0 = some (1001 + 8 * k) ∧
  sh (1001 + 8 * k) = some (3, 6) ∧
  ∀ e, e < 6 → R (1001 + 8 * k) e = none ∨ (R (1001 + 8 * k) e = some (1002 + 8 * k + e) ∧ sh (1002 + 8 * k + e) = some (0, 8))
theorem wWK_s {sh : zv_S} {R : zv_R} {k : Nat} (w : cc_WK sh R k) : sh (1000 + 8 * k) = some (11, 0) := w.1
theorem wWK_r0 {sh : zv_S} {R : zv_R} {k : Nat} (w : cc_WK sh R k) : R (1000 + 8 * k) 0 = some (1001 + 8 * k) := w.2.1
theorem wWK_s0 {sh : zv_S} {R : zv_R} {k : Nat} (w : cc_WK sh R k) : sh (1001 + 8 * k) = some (3, 6) := w.2.2.1
theorem wWK_g {sh : zv_S} {R : zv_R} {k : Nat} (w : cc_WK sh R k) : ∀ e, e < 6 → R (1001 + 8 * k) e = none ∨ (R (1001 + 8 * k) e = some (1002 + 8 * k + e) ∧ sh (1002 + 8 * k + e) = some (0, 8)) := w.2.2.2
/-- the class's cells: members, circles, letters -/
def cc_W (sh : zv_S) (R : zv_R) (nm nc nl : Nat) : Prop := cc_W0 sh R ∧ (∀ m, m < nm → R 41 m = some (100 + 20 * m) ∧ cc_WM sh R m) ∧ (∀ c, c < nc → R 42 c = some (50 + c) ∧ sh (50 + c) = some (10, 0)) ∧ (∀ l, l < nl → R 43 l = some (300 + 3 * l) ∧ cc_WL sh R l)
theorem cc_WM_o {sh : zv_S} {R R' : zv_R} {m : Nat} (w : cc_WM sh R m) (h0 : R' (100 + 20 * m) = R (100 + 20 * m)) (h1 : R' (101 + 20 * m) = R (101 + 20 * m)) (h2 : R' (114 + 20 * m) = R (114 + 20 * m)) : cc_WM sh R' m := by
  unfold cc_WM
  rw [h0, h1, h2]
  exact w
theorem cc_WL_o {sh : zv_S} {R R' : zv_R} {l : Nat} (w : cc_WL sh R l) (h0 : R' (300 + 3 * l) = R (300 + 3 * l)) (h1 : R' (301 + 3 * l) = R (301 + 3 * l)) : cc_WL sh R' l := by
  unfold cc_WL
  rw [h0, h1]
  exact w
theorem cc_WK_o {sh : zv_S} {R R' : zv_R} {k : Nat} (w : cc_WK sh R k) (h0 : R' (1000 + 8 * k) = R (1000 + 8 * k)) (h1 : R' (1001 + 8 * k) = R (1001 + 8 * k)) : cc_WK sh R' k := by
  unfold cc_WK
  rw [h0, h1]
  exact w
theorem cc_W0_o {sh : zv_S} {R R' : zv_R} (w : cc_W0 sh R) (h0 : R' 40 = R 40) (h1 : R' 45 = R 45) : cc_W0 sh R' := by
  unfold cc_W0
  rw [h0, h1]
  exact w
/-- the rows of references that a call may change: latestClocks, held, slots -/
def cc_dyn (t : Nat) : Prop := ∃ m, t = 110 + 20 * m ∧ m < 8 ∨ t = 112 + 20 * m ∧ m < 8 ∨ t = 113 + 20 * m ∧ m < 8
theorem cc_W_o {sh : zv_S} {R R' : zv_R} {nm nc nl : Nat} (w : cc_W sh R nm nc nl) (h : ∀ t, ¬ cc_dyn t → R' t = R t) : cc_W sh R' nm nc nl := by
  have d : ∀ t, (t < 110 ∨ 273 < t ∨ t % 20 = 1 ∨ t % 20 = 0 ∨ t % 20 = 14) → R' t = R t := fun t ht => h t (fun ⟨m, q⟩ => by omega)
  refine ⟨cc_W0_o w.1 (d 40 (by omega)) (d 45 (by omega)), fun m hm => ?_, fun c hc => ?_, fun l hl => ?_⟩
  · rw [d 41 (by omega)]
    exact ⟨(w.2.1 m hm).1, cc_WM_o (w.2.1 m hm).2 (d _ (by omega)) (d _ (by omega)) (d _ (by omega))⟩
  · rw [d 42 (by omega)]
    exact w.2.2.1 c hc
  · rw [d 43 (by omega)]
    exact ⟨(w.2.2.2 l hl).1, cc_WL_o (w.2.2.2 l hl).2 (d _ (by omega)) (d _ (by omega))⟩
