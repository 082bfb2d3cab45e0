theorem cn_sM_108 {sh : zv_S} {m : Nat} : cn_sM sh m (108 + 20 * m) = some (0, 6) := by
  unfold cn_sM
  exact (zv_sn_t _ _ (by omega)).trans ((zv_sn_t _ _ (by omega)).trans ((zv_sn_t _ _ (by omega)).trans ((zv_sn_t _ _ (by omega)).trans ((zv_sn_t _ _ (by omega)).trans ((zv_sn_t _ _ (by omega)).trans ((zv_sn_t _ _ (by omega)).trans (zv_sn_s _ _ _)))))))
theorem cn_sM_109 {sh : zv_S} {m : Nat} : cn_sM sh m (109 + 20 * m) = some (0, 6) := by
  unfold cn_sM
  exact (zv_sn_t _ _ (by omega)).trans ((zv_sn_t _ _ (by omega)).trans ((zv_sn_t _ _ (by omega)).trans ((zv_sn_t _ _ (by omega)).trans ((zv_sn_t _ _ (by omega)).trans ((zv_sn_t _ _ (by omega)).trans (zv_sn_s _ _ _))))))
theorem cn_sM_110 {sh : zv_S} {m : Nat} : cn_sM sh m (110 + 20 * m) = some (7, 6) := by
  unfold cn_sM
  exact (zv_sn_t _ _ (by omega)).trans ((zv_sn_t _ _ (by omega)).trans ((zv_sn_t _ _ (by omega)).trans ((zv_sn_t _ _ (by omega)).trans ((zv_sn_t _ _ (by omega)).trans (zv_sn_s _ _ _)))))
theorem cn_sM_111 {sh : zv_S} {m : Nat} : cn_sM sh m (111 + 20 * m) = some (0, 200) := by
  unfold cn_sM
  exact (zv_sn_t _ _ (by omega)).trans ((zv_sn_t _ _ (by omega)).trans ((zv_sn_t _ _ (by omega)).trans ((zv_sn_t _ _ (by omega)).trans (zv_sn_s _ _ _))))
theorem cn_sM_112 {sh : zv_S} {m : Nat} : cn_sM sh m (112 + 20 * m) = some (6, 200) := by
  unfold cn_sM
  exact (zv_sn_t _ _ (by omega)).trans ((zv_sn_t _ _ (by omega)).trans ((zv_sn_t _ _ (by omega)).trans (zv_sn_s _ _ _)))
theorem cn_sM_113 {sh : zv_S} {m : Nat} : cn_sM sh m (113 + 20 * m) = some (8, 40) := by
  unfold cn_sM
  exact (zv_sn_t _ _ (by omega)).trans ((zv_sn_t _ _ (by omega)).trans (zv_sn_s _ _ _))
theorem cn_sM_114 {sh : zv_S} {m : Nat} : cn_sM sh m (114 + 20 * m) = some (14, 0) := by
  unfold cn_sM
  exact (zv_sn_t _ _ (by omega)).trans (zv_sn_s _ _ _)
theorem cn_sM_115 {sh : zv_S} {m : Nat} : cn_sM sh m (115 + 20 * m) = some (1, 4) := by
  unfold cn_sM
  exact zv_sn_s _ _ _
theorem cn_sM_101 {sh : zv_S} {m : Nat} : cn_sM sh m (101 + 20 * m) = some (3, 6) := by
  unfold cn_sM zv_sn zv_mS
  repeat' split
  all_goals first | rfl | (exfalso; omega)
theorem cn_sM_g {sh : zv_S} {m e : Nat} (he : e < 6) : cn_sM sh m (102 + 20 * m + e) = some (0, 8) := by
  unfold cn_sM zv_sn zv_mS
  repeat' split
  all_goals first | rfl | (exfalso; omega)
