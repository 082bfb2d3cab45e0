theorem cb_sh : ∀ m : Fin 8, (((nI m.1) &&& (31 : Int32)).toBitVec.smod 32).toNat = m.1 := by decide +kernel
theorem cb_get (x : Int32) {m : Nat} (hm : m < 8) : cb x m = x.toBitVec.getLsbD m := by
  have e : (x >>> ((nI m) &&& 31)).toBitVec = x.toBitVec.sshiftRight m := by
    rw [Int32.toBitVec_shiftRight, BitVec.sshiftRight_eq', cb_sh ⟨m, hm⟩]
  have h : ((x >>> ((nI m) &&& 31)) &&& nI 1 = nI 1) ↔ x.toBitVec.getLsbD m = true := by
    rw [← Int32.toBitVec_inj, Int32.toBitVec_and, e]
    show (x.toBitVec.sshiftRight m &&& 1#32) = 1#32 ↔ _
    rw [BitVec.and_one_eq_setWidth_ofBool_getLsbD, BitVec.getLsbD_sshiftRight]
    have h1 : (!decide (32 ≤ 0) && if m + 0 < 32 then x.toBitVec.getLsbD (m + 0) else x.toBitVec.msb) = x.toBitVec.getLsbD m := by
      rw [if_pos (by omega), Nat.add_zero]
      rfl
    rw [h1]
    cases hb : x.toBitVec.getLsbD m
    · exact ⟨fun z => absurd z (by decide), fun z => by cases z⟩
    · exact ⟨fun _ => rfl, fun _ => by decide⟩
  unfold cb
  cases hb : x.toBitVec.getLsbD m
  · exact decide_eq_false fun z => by rw [h.mp z] at hb; cases hb
  · exact decide_eq_true (h.mpr hb)
theorem cb_or (x y : Int32) {m : Nat} (hm : m < 8) : cb (x ||| y) m = (cb x m || cb y m) := by
  rw [cb_get _ hm, cb_get _ hm, cb_get _ hm, Int32.toBitVec_or, BitVec.getLsbD_or]
theorem cb_and (x y : Int32) {m : Nat} (hm : m < 8) : cb (x &&& y) m = (cb x m && cb y m) := by
  rw [cb_get _ hm, cb_get _ hm, cb_get _ hm, Int32.toBitVec_and, BitVec.getLsbD_and]
theorem cb_one_i : ∀ k m : Fin 8, cb (nI 1 <<< (nI k.1 &&& 31)) m.1 = decide (m.1 = k.1) ∧ cb (nI 1 <<< (nI k.1 &&& 31) ^^^ -1) m.1 = decide (¬ m.1 = k.1) := by decide +kernel
theorem cb_one {k m : Nat} (hk : k < 8) (hm : m < 8) : cb (nI 1 <<< (nI k &&& 31)) m = decide (m = k) := (cb_one_i ⟨k, hk⟩ ⟨m, hm⟩).1
theorem cb_msk {k m : Nat} (hk : k < 8) (hm : m < 8) : cb (nI 1 <<< (nI k &&& 31) ^^^ -1) m = decide (¬ m = k) := (cb_one_i ⟨k, hk⟩ ⟨m, hm⟩).2
theorem by_i : ∀ n : Fin 256, ∀ k : Fin 8, (nI n.1 ||| (nI 1 <<< (nI k.1 &&& 31)) = nI (n.1 ||| 2 ^ k.1) ∧ n.1 ||| 2 ^ k.1 < 256) ∧ (nI n.1 &&& (nI 1 <<< (nI k.1 &&& 31) ^^^ -1) = nI (n.1 &&& (255 - 2 ^ k.1)) ∧ n.1 &&& (255 - 2 ^ k.1) < 256) := by decide +kernel
theorem by_or {x : Int32} {k : Nat} (hx : cr_by x) (hk : k < 8) : cr_by (x ||| (nI 1 <<< (nI k &&& 31))) := by
  obtain ⟨n, hn, rfl⟩ := hx
  have := (by_i ⟨n, hn⟩ ⟨k, hk⟩).1
  exact ⟨_, this.2, this.1⟩
theorem by_and {x : Int32} {k : Nat} (hx : cr_by x) (hk : k < 8) : cr_by (x &&& (nI 1 <<< (nI k &&& 31) ^^^ -1)) := by
  obtain ⟨n, hn, rfl⟩ := hx
  have := (by_i ⟨n, hn⟩ ⟨k, hk⟩).2
  exact ⟨_, this.2, this.1⟩
theorem mk_bit {b : zv_I} {w e : Nat} (he : e < 8) : ∀ n, n ≤ 8 → cb (rm_mk b w n) e = (decide (e < n) && rm_in b w e)
  | 0, _ => by
    rw [decide_eq_false (by omega)]
    exact (cr_tb (i := 0) (by decide) he).trans (Nat.zero_testBit e)
  | n + 1, hn => by
    show cb (rm_mk b w n ||| (if rm_in b w n = true then (nI 1) <<< ((nI n) &&& 31) else nI 0)) e = _
    rw [cb_or _ _ he, mk_bit he n (by omega)]
    have h0 : cb (nI 0) e = false := (cr_tb (i := 0) (by decide) he).trans (Nat.zero_testBit e)
    by_cases q : e = n
    · subst q
      rw [decide_eq_false (by omega), decide_eq_true (show e < e + 1 by omega), Bool.false_and, Bool.false_or, Bool.true_and]
      cases hi : rm_in b w e
      · rw [if_neg (by decide)]; exact h0
      · rw [if_pos rfl, cb_one (by omega) he, decide_eq_true rfl]
    · have h1 : cb (if rm_in b w n = true then (nI 1) <<< ((nI n) &&& 31) else nI 0) e = false := by
        split
        · rw [cb_one (by omega) he]; exact decide_eq_false q
        · exact h0
      rw [h1, Bool.or_false, show decide (e < n) = decide (e < n + 1) from by congr 1; exact propext ⟨fun z => by omega, fun z => by omega⟩]
theorem bq_c {a b : zv_I} {w z : Nat} : ∀ X, (∀ x, x < X → rm_kn b w x = rm_kn a w x ∧ rm_ib b x z = rm_ib a x z) → rm_bq b w X z = rm_bq a w X z
  | 0, _ => rfl
  | X + 1, h => by
    show (rm_bq b w X z || (rm_kn b w X && (decide (z = X) || (decide (z < X) && rm_ib b X z)))) = (rm_bq a w X z || (rm_kn a w X && (decide (z = X) || (decide (z < X) && rm_ib a X z))))
    rw [bq_c X fun x hx => h x (by omega), (h X (by omega)).1, (h X (by omega)).2]
/-! giving -/
def rm_gP (a : zv_I) (nl r l : Nat) : zv_I := if gd a r l = true then zv_u (rm_g2 a r l (rm_ci a l)) 16 l (nI nl) else rm_g1 a r l
theorem g1_o {a : zv_I} {r l t : Nat} (h1 : t ≠ 20) (h2 : t ≠ 21) (h3 : t ≠ 24) (h4 : t ≠ 25) (h5 : t ≠ 27) : rm_g1 a r l t = a t := by
  unfold rm_g1 rm_g0
  rw [rm_hc_o h5, zv_u_row _ _ _ _ h4, zv_u_row _ _ _ _ h3, zv_u_row _ _ _ _ h2, zv_u_row _ _ _ _ h1]
theorem g1_20 {a : zv_I} {r l m x : Nat} (hx : x < 200) (hl : l < 200) : rm_g1 a r l 20 (200 * m + x) = if m = r ∧ x = l then nI 3 else a 20 (200 * m + x) := by
  unfold rm_g1 rm_g0
  rw [rm_hc_o (by decide), zv_u_row _ _ _ _ (by decide), zv_u_row _ _ _ _ (by decide), zv_u_row _ _ _ _ (by decide)]
  by_cases q : m = r ∧ x = l
  · rw [if_pos q, q.1, q.2, zv_u_s]
  · rw [if_neg q, zv_u_j _ _ (by omega)]
theorem g1_21 {a : zv_I} {r l r' c w : Nat} (h1 : c < 6) (h2 : w < 8) (h3 : rm_ci a l < 6) (h4 : rm_wr a l < 8) : rm_g1 a r l 21 (48 * r' + 8 * c + w) = if r' = r ∧ c = rm_ci a l ∧ w = rm_wr a l then a 21 (48 * r' + 8 * c + w) + nI 1 else a 21 (48 * r' + 8 * c + w) := by
  unfold rm_g1 rm_g0
  rw [rm_hc_o (by decide), zv_u_row _ _ _ _ (by decide), zv_u_row _ _ _ _ (by decide)]
  by_cases q : r' = r ∧ c = rm_ci a l ∧ w = rm_wr a l
  · rw [if_pos q, q.1, q.2.1, q.2.2, zv_u_s]
  · rw [if_neg q, zv_u_j _ _ (by omega), zv_u_row _ _ _ _ (by decide)]
theorem g1_24 {a : zv_I} {r l m i : Nat} (hi : i < 200) (h : rm_nv (a 25 r) < 200) : rm_g1 a r l 24 (200 * m + i) = if m = r ∧ i = rm_nv (a 25 r) then nI l else a 24 (200 * m + i) := by
  unfold rm_g1 rm_g0
  rw [rm_hc_o (by decide), zv_u_row _ _ _ _ (by decide)]
  by_cases q : m = r ∧ i = rm_nv (a 25 r)
  · rw [if_pos q, q.1, q.2, zv_u_s]
  · rw [if_neg q, zv_u_j _ _ (by omega), zv_u_row _ _ _ _ (by decide), zv_u_row _ _ _ _ (by decide)]
theorem g1_25 {a : zv_I} {r l m : Nat} : rm_g1 a r l 25 m = if m = r then nI (rm_nv (a 25 r) + 1) else a 25 m := by
  unfold rm_g1 rm_g0
  rw [rm_hc_o (by decide)]
  by_cases q : m = r
  · rw [if_pos q, q, zv_u_s]
  · rw [if_neg q, zv_u_j _ _ q, zv_u_row _ _ _ _ (by decide), zv_u_row _ _ _ _ (by decide), zv_u_row _ _ _ _ (by decide)]
theorem g1_27 {a : zv_I} {r l m s : Nat} (hs : s < 40) : rm_g1 a r l 27 (40 * m + s) = if m = r ∧ a 27 (40 * m + s) = nI (l + 1) then nI 0 else a 27 (40 * m + s) := by
  have e : rm_g0 a r l 27 = a 27 := by
    unfold rm_g0
    rw [zv_u_row _ _ _ _ (by decide), zv_u_row _ _ _ _ (by decide), zv_u_row _ _ _ _ (by decide), zv_u_row _ _ _ _ (by decide)]
  unfold rm_g1 rm_hc
  rw [e]
  by_cases q : m = r ∧ a 27 (40 * m + s) = nI (l + 1)
  · rw [if_pos q, if_pos ⟨rfl, by omega, by omega, q.2⟩]
  · rw [if_neg q, if_neg (fun z => q ⟨by omega, z.2.2.2⟩)]
theorem gS_P {a : zv_I} {nl r l : Nat} (hl : l < 200) (h3 : rm_ci a l < 6) (h4 : rm_wr a l < 8) (h5 : rm_nv (a 25 r) < 200) : gS a (rm_gP a nl r l) nl r l := by
  have e1 : ∀ t, t ≠ 7 → t ≠ 15 → t ≠ 16 → rm_gP a nl r l t = rm_g1 a r l t := by
    intro t h7 h15 h16
    unfold rm_gP rm_g2
    split
    · rw [zv_u_row _ _ _ _ h16, zv_u_row _ _ _ _ h7, zv_u_row _ _ _ _ h15]
    · rfl
  refine ⟨fun t h1 h2 h3 h4 h5 h6 h7 h8 => ?_, fun m x h1 h2 => ?_, fun r' c w h1 h2 h6 => ?_, fun m i h1 h2 => ?_, fun m h1 => ?_, fun m s h1 h2 => ?_, fun x => ?_, fun c => ?_, fun x => ?_⟩
  · rw [e1 t h1 h2 h3, g1_o h4 h5 h6 h7 h8]
  · rw [e1 20 (by decide) (by decide) (by decide), g1_20 h2 hl]
  · rw [e1 21 (by decide) (by decide) (by decide), g1_21 h2 h6 h3 h4]
  · rw [e1 24 (by decide) (by decide) (by decide), g1_24 h2 h5]
  · rw [e1 25 (by decide) (by decide) (by decide), g1_25]
  · rw [e1 27 (by decide) (by decide) (by decide), g1_27 h2]
  · unfold rm_gP rm_g2
    by_cases q : gd a r l = true
    · rw [if_pos q, zv_u_row _ _ _ _ (by decide), zv_u_row _ _ _ _ (by decide)]
      by_cases z : x = l
      · rw [if_pos ⟨q, z⟩, z, zv_u_s]
      · rw [if_neg (fun y => z y.2), zv_u_j _ _ z, g1_o (by decide) (by decide) (by decide) (by decide) (by decide)]
    · rw [if_neg q, if_neg (fun y => q y.1), g1_o (by decide) (by decide) (by decide) (by decide) (by decide)]
  · unfold rm_gP rm_g2
    by_cases q : gd a r l = true
    · rw [if_pos q, zv_u_row _ _ _ _ (by decide)]
      by_cases z : c = rm_ci a l
      · rw [if_pos ⟨q, z⟩, z, zv_u_s]
      · rw [if_neg (fun y => z y.2), zv_u_j _ _ z, zv_u_row _ _ _ _ (by decide), g1_o (by decide) (by decide) (by decide) (by decide) (by decide)]
    · rw [if_neg q, if_neg (fun y => q y.1), g1_o (by decide) (by decide) (by decide) (by decide) (by decide)]
  · unfold rm_gP rm_g2
    by_cases q : gd a r l = true
    · rw [if_pos q]
      by_cases z : x = l
      · rw [if_pos ⟨q, z⟩, z, zv_u_s]
      · rw [if_neg (fun y => z y.2), zv_u_j _ _ z, zv_u_row _ _ _ _ (by decide), zv_u_row _ _ _ _ (by decide), g1_o (by decide) (by decide) (by decide) (by decide) (by decide)]
    · rw [if_neg q, if_neg (fun y => q y.1), g1_o (by decide) (by decide) (by decide) (by decide) (by decide)]
