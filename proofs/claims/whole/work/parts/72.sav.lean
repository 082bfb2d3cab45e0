theorem cnt_add {p : Nat → Bool} (n : Nat) : ∀ m, rm_cnt p (n + m) = rm_cnt p n + rm_cnt (fun i => p (n + i)) m
  | 0 => rfl
  | m + 1 => by
    show rm_cnt p (n + m) + (if p (n + m) = true then 1 else 0) = rm_cnt p n + (rm_cnt (fun i => p (n + i)) m + (if p (n + m) = true then 1 else 0))
    rw [cnt_add n m, Nat.add_assoc]
theorem cnt_8 {p : Nat → Bool} : ∀ n, rm_cnt p (8 * n) = cc_smS (fun e => rm_cnt (fun m => p (8 * e + m)) 8) n
  | 0 => rfl
  | n + 1 => by
    rw [show 8 * (n + 1) = 8 * n + 8 by omega, cnt_add (8 * n) 8, cnt_8 n]
    rfl
theorem smS_c {f g : Nat → Nat} : ∀ n, (∀ e, e < n → f e = g e) → cc_smS f n = cc_smS g n
  | 0, _ => rfl
  | n + 1, h => by
    show cc_smS f n + f n = cc_smS g n + g n
    rw [smS_c n fun e he => h e (by omega), h n (by omega)]
theorem cnt_0 {p : Nat → Bool} : ∀ {n : Nat}, (∀ i, i < n → p i = false) → rm_cnt p n = 0
  | 0, _ => rfl
  | n + 1, h => by
    show rm_cnt p n + (if p n = true then 1 else 0) = 0
    rw [cnt_0 fun i hi => h i (by omega), h n (by omega)]
    rfl
theorem sav_eq {I b : zv_I} {R : zv_R} {nc nl la k j : Nat} (hr1 : ∀ e, e < 6 → (R (1001 + 8 * k) e).isSome = rm_row b nl e) (hr2 : ∀ e, e < 6 → (R (1001 + 8 * j) e).isSome = rm_row b la e) (hrow : ∀ e, e < 6 → rm_row b nl e = true → e < nc) (hv1 : ∀ e m, e < 6 → m < 8 → rm_row b nl e = true → I (1002 + 8 * k + e) m = b 19 (48 * nl + 8 * e + m)) (hv2 : ∀ e m, e < 6 → m < 8 → rm_row b la e = true → I (1002 + 8 * j + e) m = b 19 (48 * la + 8 * e + m)) (hb : ∀ e, e < nc → I (50 + e) 0 = b 6 e) : cc_smS (cc_sm I R k j) 6 = rm_cnt (rm_svp b nc nl la) 48 := by
  rw [show (48 : Nat) = 8 * 6 from rfl, cnt_8]
  refine smS_c 6 fun e he => ?_
  unfold cc_sm
  have ep : ∀ m, m < 8 → rm_svp b nc nl la (8 * e + m) = (decide (e < nc) && (rm_row b nl e && (rm_row b la e && (rm_in b m e && decide (b 19 (48 * nl + 8 * e + m) = b 19 (48 * la + 8 * e + m)))))) := fun m hm => by
    unfold rm_svp
    rw [show (8 * e + m) / 8 = e by omega, show (8 * e + m) % 8 = m by omega, ← Nat.add_assoc, ← Nat.add_assoc]
  rw [hr1 e he, hr2 e he]
  cases q1 : rm_row b nl e with
  | false =>
    rw [Bool.false_and, if_neg (by decide)]
    refine (cnt_0 fun m hm => ?_).symm
    rw [ep m hm, q1, Bool.false_and, Bool.and_false]
  | true =>
    cases q2 : rm_row b la e with
    | false =>
      rw [Bool.and_false, if_neg (by decide)]
      refine (cnt_0 fun m hm => ?_).symm
      rw [ep m hm, q2, Bool.false_and, Bool.and_false, Bool.and_false]
    | true =>
      rw [Bool.and_true, if_pos rfl]
      refine cnt_c fun m hm => ?_
      rw [ep m hm, q1, q2, decide_eq_true (hrow e he q1), Bool.true_and, Bool.true_and, Bool.true_and, hv1 e m he hm q1, hv2 e m he hm q2, hb e (hrow e he q1)]
      rfl
theorem c4_17 {a : zv_I} {nm nc nl w c : Nat} {kk x : Int32} : rm_c4 a nm nc nl kk w c x 17 nl = nI (rm_sav (rm_c2 a nc nl kk w c x) nc nl w c) := by
  unfold rm_c4 rm_c3 rm_cts
  rw [go_o (by decide) (by decide), zv_u_row _ _ _ _ (by decide), zv_u_s]
theorem c4_23 {a : zv_I} {nm nc nl w c j : Nat} {kk x : Int32} : rm_c4 a nm nc nl kk w c x 23 j = if j = 6 * w + c then nI nl else a 23 j := by
  unfold rm_c4 rm_c3 rm_cts rm_c2
  rw [go_o (by decide) (by decide)]
  by_cases q : j = 6 * w + c
  · rw [if_pos q, q, zv_u_s]
  · rw [if_neg q, zv_u_j _ _ q, zv_u_row _ _ _ _ (by decide), rm_mad_o (by decide) (by decide) (by decide) (by decide) (by decide) (by decide) (by decide) (by decide) (by decide) (by decide) (by decide) (by decide)]
    exact congrFun (zv_u_row _ _ _ _ (by decide)) _
theorem c4_35 {a : zv_I} {nm nc nl w c : Nat} {kk x : Int32} : rm_c4 a nm nc nl kk w c x 3 5 = nI (rm_NA a + 1) := by
  unfold rm_c4 rm_c3 rm_cts rm_c2
  rw [go_o (by decide) (by decide), zv_u_row _ _ _ _ (by decide), zv_u_row _ _ _ _ (by decide), md_3, if_neg (by decide)]
  exact zv_u_s _ _ _ _
/-- what is saved, in the rows that the call leaves -/
theorem c4_sav {a : zv_I} {nm nc nl w c q : Nat} {kk x : Int32} (H : iv a nm nc nl q) (hw : w < 8) (hc : c < 6) (hnl : nl < 200) : rm_sav (rm_c2 a nc nl kk w c x) nc nl w c = (if a 23 (6 * w + c) = -1 then 0 else rm_cnt (rm_svp (rm_c4 a nm nc nl kk w c x) nc nl (rm_nv (a 23 (6 * w + c)))) 48) := by
  have e23 : rm_c2 a nc nl kk w c x 23 (6 * w + c) = a 23 (6 * w + c) := by
    unfold rm_c2
    rw [rm_mad_o (by decide) (by decide) (by decide) (by decide) (by decide) (by decide) (by decide) (by decide) (by decide) (by decide) (by decide) (by decide)]
    exact congrFun (zv_u_row _ _ _ _ (by decide)) _
  have eo : ∀ t, t ≠ 17 → t ≠ 20 → t ≠ 23 → t ≠ 27 → rm_c4 a nm nc nl kk w c x t = rm_c2 a nc nl kk w c x t := fun t h1 h2 h3 h4 => by
    unfold rm_c4 rm_c3 rm_cts
    rw [go_o h2 h4, zv_u_row _ _ _ _ h3, zv_u_row _ _ _ _ h1]
  unfold rm_sav
  rw [e23]
  by_cases z : a 23 (6 * w + c) = -1
  · rw [if_pos z, if_pos z]
  · rw [if_neg z, if_neg z]
    refine cnt_c fun i _ => ?_
    unfold rm_svp rm_row
    rw [rm_in_o (eo 6 (by decide) (by decide) (by decide) (by decide)), eo 18 (by decide) (by decide) (by decide) (by decide), eo 19 (by decide) (by decide) (by decide) (by decide)]
