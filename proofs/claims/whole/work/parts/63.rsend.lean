theorem csI_o {X : zv_I} {nl w n t : Nat} {x : Int32} (h1 : t ≠ 40) (h2 : t ≠ 300 + 3 * nl) (h3 : t ≠ 100 + 20 * w) : cs_I X nl w n x t = X t := by
  unfold cs_I
  rw [zv_u_row _ _ _ _ h3, zv_u_row _ _ _ _ h2, zv_u_row _ _ _ _ h1]
theorem csI_40 {X : zv_I} {nl w n j : Nat} {x : Int32} : cs_I X nl w n x 40 j = if j = 7 then nI (nl + 1) else X 40 j := by
  unfold cs_I
  rw [zv_u_row _ _ _ _ (by omega), zv_u_row _ _ _ _ (by omega)]
  by_cases q : j = 7
  · rw [if_pos q, q, zv_u_s]
  · rw [if_neg q, zv_u_j _ _ q]
theorem csI_l {X : zv_I} {nl w n j : Nat} {x : Int32} (hw : w < 8) : cs_I X nl w n x (300 + 3 * nl) j = if j = 11 then x &&& (nI 1 <<< (nI w &&& 31) ^^^ -1) else X (300 + 3 * nl) j := by
  unfold cs_I
  rw [zv_u_row _ _ _ _ (by omega)]
  by_cases q : j = 11
  · rw [if_pos q, q, zv_u_s]
  · rw [if_neg q, zv_u_j _ _ q, zv_u_row _ _ _ _ (by omega)]
theorem csI_m {X : zv_I} {nl w n j : Nat} {x : Int32} (hw : w < 8) : cs_I X nl w n x (100 + 20 * w) j = if j = 9 then nI (n + 1) else X (100 + 20 * w) j := by
  unfold cs_I
  by_cases q : j = 9
  · rw [if_pos q, q, zv_u_s]
  · rw [if_neg q, zv_u_j _ _ q, zv_u_row _ _ _ _ (by omega), zv_u_row _ _ _ _ (by omega)]
theorem cnI_o {Y : zv_I} {l t : Nat} {x0 x1 x2 x3 x4 x5 : Int32} (h0 : t ≠ 300 + 3 * l) (h1 : t ≠ 301 + 3 * l) (h2 : t ≠ 302 + 3 * l) : cn_IL Y l x0 x1 x2 x3 x4 x5 t = Y t := by
  unfold cn_IL
  rw [zv_u_row _ _ _ _ h0, zv_u_row _ _ _ _ h0, zv_u_row _ _ _ _ h0, zv_u_row _ _ _ _ h0, zv_u_row _ _ _ _ h0, zv_u_row _ _ _ _ h0, zv_u_row _ _ _ _ h0, zv_u_row _ _ _ _ h0, zv_n_t _ _ h2, zv_n_t _ _ h1]
theorem cnI_l {Y : zv_I} {l : Nat} {x0 x1 x2 x3 x4 x5 : Int32} : cn_IL Y l x0 x1 x2 x3 x4 x5 (300 + 3 * l) 0 = x0 ∧ cn_IL Y l x0 x1 x2 x3 x4 x5 (300 + 3 * l) 1 = x1 ∧ cn_IL Y l x0 x1 x2 x3 x4 x5 (300 + 3 * l) 2 = x2 ∧ cn_IL Y l x0 x1 x2 x3 x4 x5 (300 + 3 * l) 3 = x3 ∧ cn_IL Y l x0 x1 x2 x3 x4 x5 (300 + 3 * l) 4 = x4 ∧ cn_IL Y l x0 x1 x2 x3 x4 x5 (300 + 3 * l) 5 = x5 ∧ cn_IL Y l x0 x1 x2 x3 x4 x5 (300 + 3 * l) 8 = -1 ∧ cn_IL Y l x0 x1 x2 x3 x4 x5 (300 + 3 * l) 9 = -1 ∧ ∀ j, j = 10 ∨ j = 12 → cn_IL Y l x0 x1 x2 x3 x4 x5 (300 + 3 * l) j = Y (300 + 3 * l) j := by
  unfold cn_IL
  refine ⟨?_, ?_, ?_, ?_, ?_, ?_, ?_, ?_, fun j hj => ?_⟩
  · rw [zv_u_j _ _ (by decide), zv_u_j _ _ (by decide), zv_u_j _ _ (by decide), zv_u_j _ _ (by decide), zv_u_j _ _ (by decide), zv_u_s]
  · rw [zv_u_j _ _ (by decide), zv_u_j _ _ (by decide), zv_u_j _ _ (by decide), zv_u_j _ _ (by decide), zv_u_s]
  · rw [zv_u_j _ _ (by decide), zv_u_j _ _ (by decide), zv_u_j _ _ (by decide), zv_u_s]
  · rw [zv_u_j _ _ (by decide), zv_u_j _ _ (by decide), zv_u_s]
  · rw [zv_u_j _ _ (by decide), zv_u_s]
  · rw [zv_u_s]
  · rw [zv_u_j _ _ (by decide), zv_u_j _ _ (by decide), zv_u_j _ _ (by decide), zv_u_j _ _ (by decide), zv_u_j _ _ (by decide), zv_u_j _ _ (by decide), zv_u_j _ _ (by decide), zv_u_s]
  · rw [zv_u_j _ _ (by decide), zv_u_j _ _ (by decide), zv_u_j _ _ (by decide), zv_u_j _ _ (by decide), zv_u_j _ _ (by decide), zv_u_j _ _ (by decide), zv_u_s]
  · rw [zv_u_j _ _ (by omega), zv_u_j _ _ (by omega), zv_u_j _ _ (by omega), zv_u_j _ _ (by omega), zv_u_j _ _ (by omega), zv_u_j _ _ (by omega), zv_u_j _ _ (by omega), zv_u_j _ _ (by omega), zv_n_t _ _ (by omega), zv_n_t _ _ (by omega)]
theorem cnS_o {sh : zv_S} {l t : Nat} {v : Nat × Nat} (h0 : t ≠ 300 + 3 * l) (h1 : t ≠ 301 + 3 * l) (h2 : t ≠ 302 + 3 * l) : cn_sL (zv_sn sh (300 + 3 * l) v) l t = sh t := by
  unfold cn_sL
  rw [zv_sn_t _ _ h2, zv_sn_t _ _ h1, zv_sn_t _ _ h0]
theorem cnR_o {R : zv_R} {l u t : Nat} {f : Nat → Option Nat} (h0 : t ≠ 300 + 3 * l) (h1 : t ≠ 301 + 3 * l) (h2 : t ≠ 302 + 3 * l) : cn_RL (zv_n R (300 + 3 * l) f) l u t = R t := by
  unfold cn_RL
  rw [zv_u_row _ _ _ _ h0, zv_u_row _ _ _ _ h0, zv_u_row _ _ _ _ h1, zv_n_t _ _ h2, zv_n_t _ _ h1, zv_n_t _ _ h0]
theorem cnR_l {R : zv_R} {l u : Nat} {f : Nat → Option Nat} : cn_RL (zv_n R (300 + 3 * l) f) l u (300 + 3 * l) 6 = some u ∧ cn_RL (zv_n R (300 + 3 * l) f) l u (300 + 3 * l) 7 = some (301 + 3 * l) ∧ cn_RL (zv_n R (300 + 3 * l) f) l u (301 + 3 * l) 0 = some (302 + 3 * l) := by
  unfold cn_RL
  refine ⟨zv_u_s _ _ _ _, by rw [zv_u_j _ _ (by decide), zv_u_s], by rw [zv_u_row _ _ _ _ (by omega), zv_u_row _ _ _ _ (by omega), zv_u_s]⟩
theorem cn_WLs {sh : zv_S} {R : zv_R} {l u : Nat} {f : Nat → Option Nat} : cc_WL (cn_sL (zv_sn sh (300 + 3 * l) (12, 0)) l) (cn_RL (zv_n R (300 + 3 * l) f) l u) l := by
  obtain ⟨g1, g2, g3⟩ := cnR_l (R := R) (l := l) (u := u) (f := f)
  refine ⟨?_, g2, ?_, g3, ?_⟩
  · unfold cn_sL; rw [zv_sn_t _ _ (by omega), zv_sn_t _ _ (by omega), zv_sn_s]
  · unfold cn_sL; rw [zv_sn_t _ _ (by omega), zv_sn_s]
  · unfold cn_sL; rw [zv_sn_s]
theorem csR_o {R : zv_R} {nl w n t : Nat} (h1 : t ≠ 43) (h2 : t ≠ 112 + 20 * w) (h3 : t ≠ 113 + 20 * w) : cs_R R nl w n t = R t := by
  unfold cs_R
  rw [hd_o h2 h3, zv_u_row _ _ _ _ h1]
theorem csR_43 {R : zv_R} {nl w n j : Nat} : cs_R R nl w n 43 j = if j = nl then some (300 + 3 * nl) else R 43 j := by
  unfold cs_R
  rw [hd_o (by omega) (by omega)]
  by_cases q : j = nl
  · rw [if_pos q, q, zv_u_s]
  · rw [if_neg q, zv_u_j _ _ q]
theorem csR_112 {R : zv_R} {nl w n i : Nat} (hi : i ≤ n) : cs_R R nl w n (112 + 20 * w) i = if i = n then some (300 + 3 * nl) else R (112 + 20 * w) i := by
  unfold cs_R
  rw [hd_112]
  by_cases q : i = n
  · rw [if_pos q, if_pos q]
  · rw [if_neg q, if_neg q, if_neg (by omega), zv_u_row _ _ _ _ (by omega)]
theorem csR_113 {R : zv_R} {nl w n s : Nat} : cs_R R nl w n (113 + 20 * w) s = if cc_slf R w = some s then some (300 + 3 * nl) else R (113 + 20 * w) s := by
  unfold cs_R
  rw [hd_113, zv_u_row _ _ _ _ (by omega)]
  have e : cc_slf (zv_u R 43 nl (some (300 + 3 * nl))) w = cc_slf R w := by unfold cc_slf; rw [zv_u_row _ _ _ _ (by omega)]
  rw [e]
theorem csJ_o {J : zv_J} {nl w t : Nat} (h1 : t ≠ 115 + 20 * w) (h2 : t ≠ 302 + 3 * nl) : cs_J J nl w t = J t := by
  unfold cs_J
  rw [cs_add_o h1, cs_or_o h2]
theorem csJ_w {J : zv_J} {nl w y : Nat} (hw : w < 8) : cs_bit (cs_J J nl w (115 + 20 * w)) y = (decide (y = nl) || cs_bit (J (115 + 20 * w)) y) := by
  unfold cs_J
  rw [cs_add_b, cs_or_o (by omega)]
theorem csJ_l {J : zv_J} {nl w y : Nat} (hw : w < 8) (hy : y < 256) : cs_bit (cs_J J nl w (302 + 3 * nl)) y = (cs_bit (J (302 + 3 * nl)) y || cs_bit (J (115 + 20 * w)) y) := by
  unfold cs_J
  rw [cs_add_o (by omega), cs_or_b _ _ _ hy]
theorem cs_bit0 {y : Nat} : cs_bit (fun _ => (0 : Int64)) y = false := by
  unfold cs_bit
  show (0 : Int64).toBitVec.getLsbD (y % 64) = false
  exact BitVec.getLsbD_zero
theorem cnJ_o {J : zv_J} {l t : Nat} {f : Nat → Int64} (h0 : t ≠ 300 + 3 * l) (h1 : t ≠ 301 + 3 * l) (h2 : t ≠ 302 + 3 * l) : cn_JL (zv_n J (300 + 3 * l) f) l t = J t := by
  unfold cn_JL
  rw [zv_n_t _ _ h2, zv_n_t _ _ h1, zv_n_t _ _ h0]
theorem eS_mk {sh sB : zv_S} {I IB X : zv_I} {J JB : zv_J} {R RB Y : zv_R} {b : zv_I} {nm nc nl w c n k : Nat} {kk x : Int32} (hw : w < 8) (hc : c < 6)
    (hs : ∀ t, ¬ eN nl t → sB t = sh t) (hi : ∀ t, ¬ eN nl t → t ≠ 108 + 20 * w → IB t = I t) (hiw : ∀ c', IB (108 + 20 * w) c' = if c' = c then I (108 + 20 * w) c + nI 1 else I (108 + 20 * w) c') (hj : ∀ t, ¬ eN nl t → JB t = J t) (hr : ∀ t, ¬ eN nl t → RB t = R t)
    (hX : ∀ t, t ≠ 40 → t ≠ 300 + 3 * nl → X t = cn_IL (zv_n IB (300 + 3 * nl) (fun _ => 0)) nl (nI nl) kk (nI c) (nI w) (I (108 + 20 * w) c + nI 1) x t) (hXl : ∀ j, j ≠ 10 → X (300 + 3 * nl) j = cn_IL (zv_n IB (300 + 3 * nl) (fun _ => 0)) nl (nI nl) kk (nI c) (nI w) (I (108 + 20 * w) c + nI 1) x (300 + 3 * nl) j) (hX10 : X (300 + 3 * nl) 10 = b 17 nl) (hX40 : ∀ j, j ≠ 8 → X 40 j = I 40 j) (hX8 : X 40 8 = b 3 5)
    (hY : ∀ t, t ≠ 110 + 20 * w → Y t = cn_RL (zv_n RB (300 + 3 * nl) (fun _ => none)) nl (1000 + 8 * k) t) (hY110 : ∀ c', c' < 6 → Y (110 + 20 * w) c' = cr_lc (cs_R Y nl w n) (b 23 (6 * w + c')))
    (hk : 1000 ≤ 1000 + 8 * k) (hnl : nl < 200) (hWK : cc_WK (cn_sL (zv_sn sB (300 + 3 * nl) (12, 0)) nl) (cs_R Y nl w n) k) (hkr : ∀ e, e < 6 → (RB (1001 + 8 * k) e).isSome = rm_row b nl e) (hkv : ∀ e m, e < 6 → m < 8 → cc_cv IB RB k e m = b 19 (48 * nl + 8 * e + m)) (hkc : IB (1000 + 8 * k) 1 = nI (rm_cof b nc nl)) :
    eS sh I J R (cn_sL (zv_sn sB (300 + 3 * nl) (12, 0)) nl) (cs_I X nl w n (I (50 + c) 0)) (cs_J (cn_JL (zv_n JB (300 + 3 * nl) (fun _ => 0)) nl) nl w) (cs_R Y nl w n) b nc nl w c n k kk x := by
  have e1 : ∀ t, ¬ eN nl t → t ≠ 300 + 3 * nl ∧ t ≠ 301 + 3 * nl ∧ t ≠ 302 + 3 * nl := fun t ht => ⟨fun q => ht (by unfold eN; omega), fun q => ht (by unfold eN; omega), fun q => ht (by unfold eN; omega)⟩
  have eX : ∀ t, t ≠ 40 → t ≠ 300 + 3 * nl → t ≠ 301 + 3 * nl → t ≠ 302 + 3 * nl → X t = IB t := fun t h1 h2 h3 h4 => by rw [hX t h1 h2, cnI_o h2 h3 h4, zv_n_t _ _ h2]
  have eNl : ∀ t, t < 300 → ¬ eN nl t := fun t ht z => by unfold eN at z; omega
  obtain ⟨c0, c1, c2, c3, c4, c5, c8, c9, cj⟩ := cnI_l (Y := zv_n IB (300 + 3 * nl) (fun _ => 0)) (l := nl) (x0 := nI nl) (x1 := kk) (x2 := nI c) (x3 := nI w) (x4 := I (108 + 20 * w) c + nI 1) (x5 := x)
  have ec6 := cnR_l (R := RB) (l := nl) (u := 1000 + 8 * k) (f := fun _ => none)
  have wl0 : cc_WL (cn_sL (zv_sn sB (300 + 3 * nl) (12, 0)) nl) (cn_RL (zv_n RB (300 + 3 * nl) (fun _ => none)) nl (1000 + 8 * k)) nl := cn_WLs
  have hYk : ∀ e, cs_R Y nl w n (1001 + 8 * k) e = RB (1001 + 8 * k) e := fun e => by
    rw [csR_o (by omega) (by omega) (by omega), hY _ (by omega), cnR_o (by omega) (by omega) (by omega)]
  have hIk : ∀ t, 1000 ≤ t → cs_I X nl w n (I (50 + c) 0) t = IB t := fun t ht => by rw [csI_o (by omega) (by omega) (by omega), eX t (by omega) (by omega) (by omega) (by omega)]
  refine ⟨fun t ht => ?_, fun t ht h40 h108 h100 => ?_, fun j h7 h8 => ?_, ?_, ?_, fun c' => ?_, ?_, ?_, fun t ht h115 => ?_, fun y hy => ?_, fun y hy => ?_, fun t ht h43 h110 h112 h113 => ?_, fun j => ?_, fun c' hc' => ?_, fun i hi' => ?_, fun s hs' => ?_, ?_, ?_, ⟨?_, hWK⟩, fun e he => ?_, fun e m he hm => ?_, ?_⟩
  · obtain ⟨q0, q1, q2⟩ := e1 t ht
    rw [cnS_o q0 q1 q2]; exact hs t ht
  · obtain ⟨q0, q1, q2⟩ := e1 t ht
    rw [csI_o h40 q0 h100, eX t h40 q0 q1 q2]; exact hi t ht h108
  · rw [csI_40, if_neg h7]; exact hX40 j h8
  · rw [csI_40, if_pos rfl]
  · rw [csI_40, if_neg (by decide)]; exact hX8
  · rw [csI_o (by omega) (by omega) (by omega), eX _ (by omega) (by omega) (by omega) (by omega)]; exact hiw c'
  · rw [csI_m hw, if_neg (by decide), eX _ (by omega) (by omega) (by omega) (by omega), hi _ (eNl _ (by omega)) (by omega)]
  · rw [csI_m hw, if_pos rfl]
  · obtain ⟨q0, q1, q2⟩ := e1 t ht
    rw [csJ_o h115 q2, cnJ_o q0 q1 q2]; exact hj t ht
  · rw [csJ_w hw, cnJ_o (by omega) (by omega) (by omega), hj _ (eNl _ (by omega))]
  · rw [csJ_l hw hy]
    have e2 : cn_JL (zv_n JB (300 + 3 * nl) (fun _ => 0)) nl (302 + 3 * nl) = fun _ => 0 := by unfold cn_JL; rw [zv_n_s]
    rw [e2, cs_bit0, Bool.false_or, cnJ_o (by omega) (by omega) (by omega), hj _ (eNl _ (by omega))]
  · obtain ⟨q0, q1, q2⟩ := e1 t ht
    rw [csR_o h43 h112 h113, hY t h110, cnR_o q0 q1 q2]; exact hr t ht
  · rw [csR_43, hY 43 (by omega), cnR_o (by omega) (by omega) (by omega), hr 43 (eNl _ (by omega))]
  · rw [csR_o (by omega) (by omega) (by omega)]; exact hY110 c' hc'
  · rw [csR_112 hi', hY _ (by omega), cnR_o (by omega) (by omega) (by omega), hr _ (eNl _ (by omega))]
  · have e2 : Y (113 + 20 * w) = R (113 + 20 * w) := by rw [hY _ (by omega), cnR_o (by omega) (by omega) (by omega), hr _ (eNl _ (by omega))]
    have e3 : cc_slf Y w = cc_slf R w := by unfold cc_slf; rw [e2]
    rw [csR_113, e2, e3]
  · exact cc_WL_o wl0 (by rw [csR_o (by omega) (by omega) (by omega), hY _ (by omega)]) (by rw [csR_o (by omega) (by omega) (by omega), hY _ (by omega)])
  · rw [csI_l hw, csI_l hw, csI_l hw, csI_l hw, csI_l hw, csI_l hw, csI_l hw, csI_l hw, csI_l hw, csI_l hw, csI_l hw, if_neg (by decide), if_neg (by decide), if_neg (by decide), if_neg (by decide), if_neg (by decide), if_neg (by decide), if_neg (by decide), if_neg (by decide), if_neg (by decide), if_pos rfl, if_neg (by decide), hXl 0 (by decide), hXl 1 (by decide), hXl 2 (by decide), hXl 3 (by decide), hXl 4 (by decide), hXl 5 (by decide), hXl 8 (by decide), hXl 9 (by decide), hXl 12 (by decide), c0, c1, c2, c3, c4, c5, c8, c9, cj 12 (by omega), zv_n_s]
    exact ⟨rfl, rfl, rfl, rfl, rfl, rfl, rfl, rfl, hX10, rfl, rfl⟩
  · rw [csR_o (by omega) (by omega) (by omega), hY _ (by omega)]; exact ec6.1
  · rw [hYk e]; exact hkr e he
  · rw [← hkv e m he hm]
    unfold cc_cv
    rw [hYk e, hIk _ (by omega)]
  · rw [hIk _ (by omega)]; exact hkc
