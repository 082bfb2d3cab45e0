theorem zv_m0_s {α : Type} {f : Nat → Nat → α} {t N a : Nat} {z : α} (h1 : t ≤ a) (h2 : a ≤ t + N) : zv_m0 f t N z a = fun _ => z := by unfold zv_m0; rw [if_pos ⟨h1, h2⟩]
theorem zv_mR_s {R : zv_R} {t N j : Nat} (h : j < N) : zv_mR R t N t j = some (t + 1 + j) := by unfold zv_mR; rw [if_pos rfl]; show (if j < N then some (t + 1 + j) else none) = _; rw [if_pos h]
theorem cn_IM_100 {I : zv_I} {m : Nat} : cn_IM (zv_n I (100 + 20 * m) (fun _ => 0)) m (100 + 20 * m) = fun _ => 0 := by
  unfold cn_IM
  exact (zv_n_t _ _ (by omega)).trans ((zv_n_t _ _ (by omega)).trans ((zv_n_t _ _ (by omega)).trans ((zv_n_t _ _ (by omega)).trans ((zv_n_t _ _ (by omega)).trans ((zv_n_t _ _ (by omega)).trans ((zv_n_t _ _ (by omega)).trans ((zv_n_t _ _ (by omega)).trans ((zv_m0_o (by omega)).trans (zv_n_s _ _ _)))))))))
theorem cn_IM_101 {I : zv_I} {m : Nat} : cn_IM (zv_n I (100 + 20 * m) (fun _ => 0)) m (101 + 20 * m) = fun _ => 0 := by
  unfold cn_IM
  exact (zv_n_t _ _ (by omega)).trans ((zv_n_t _ _ (by omega)).trans ((zv_n_t _ _ (by omega)).trans ((zv_n_t _ _ (by omega)).trans ((zv_n_t _ _ (by omega)).trans ((zv_n_t _ _ (by omega)).trans ((zv_n_t _ _ (by omega)).trans ((zv_n_t _ _ (by omega)).trans (zv_m0_s (by omega) (by omega)))))))))
theorem cn_IM_102 {I : zv_I} {m : Nat} : cn_IM (zv_n I (100 + 20 * m) (fun _ => 0)) m (102 + 20 * m) = fun _ => 0 := by
  unfold cn_IM
  exact (zv_n_t _ _ (by omega)).trans ((zv_n_t _ _ (by omega)).trans ((zv_n_t _ _ (by omega)).trans ((zv_n_t _ _ (by omega)).trans ((zv_n_t _ _ (by omega)).trans ((zv_n_t _ _ (by omega)).trans ((zv_n_t _ _ (by omega)).trans ((zv_n_t _ _ (by omega)).trans (zv_m0_s (by omega) (by omega)))))))))
theorem cn_IM_103 {I : zv_I} {m : Nat} : cn_IM (zv_n I (100 + 20 * m) (fun _ => 0)) m (103 + 20 * m) = fun _ => 0 := by
  unfold cn_IM
  exact (zv_n_t _ _ (by omega)).trans ((zv_n_t _ _ (by omega)).trans ((zv_n_t _ _ (by omega)).trans ((zv_n_t _ _ (by omega)).trans ((zv_n_t _ _ (by omega)).trans ((zv_n_t _ _ (by omega)).trans ((zv_n_t _ _ (by omega)).trans ((zv_n_t _ _ (by omega)).trans (zv_m0_s (by omega) (by omega)))))))))
theorem cn_IM_104 {I : zv_I} {m : Nat} : cn_IM (zv_n I (100 + 20 * m) (fun _ => 0)) m (104 + 20 * m) = fun _ => 0 := by
  unfold cn_IM
  exact (zv_n_t _ _ (by omega)).trans ((zv_n_t _ _ (by omega)).trans ((zv_n_t _ _ (by omega)).trans ((zv_n_t _ _ (by omega)).trans ((zv_n_t _ _ (by omega)).trans ((zv_n_t _ _ (by omega)).trans ((zv_n_t _ _ (by omega)).trans ((zv_n_t _ _ (by omega)).trans (zv_m0_s (by omega) (by omega)))))))))
theorem cn_IM_105 {I : zv_I} {m : Nat} : cn_IM (zv_n I (100 + 20 * m) (fun _ => 0)) m (105 + 20 * m) = fun _ => 0 := by
  unfold cn_IM
  exact (zv_n_t _ _ (by omega)).trans ((zv_n_t _ _ (by omega)).trans ((zv_n_t _ _ (by omega)).trans ((zv_n_t _ _ (by omega)).trans ((zv_n_t _ _ (by omega)).trans ((zv_n_t _ _ (by omega)).trans ((zv_n_t _ _ (by omega)).trans ((zv_n_t _ _ (by omega)).trans (zv_m0_s (by omega) (by omega)))))))))
theorem cn_IM_106 {I : zv_I} {m : Nat} : cn_IM (zv_n I (100 + 20 * m) (fun _ => 0)) m (106 + 20 * m) = fun _ => 0 := by
  unfold cn_IM
  exact (zv_n_t _ _ (by omega)).trans ((zv_n_t _ _ (by omega)).trans ((zv_n_t _ _ (by omega)).trans ((zv_n_t _ _ (by omega)).trans ((zv_n_t _ _ (by omega)).trans ((zv_n_t _ _ (by omega)).trans ((zv_n_t _ _ (by omega)).trans ((zv_n_t _ _ (by omega)).trans (zv_m0_s (by omega) (by omega)))))))))
theorem cn_IM_107 {I : zv_I} {m : Nat} : cn_IM (zv_n I (100 + 20 * m) (fun _ => 0)) m (107 + 20 * m) = fun _ => 0 := by
  unfold cn_IM
  exact (zv_n_t _ _ (by omega)).trans ((zv_n_t _ _ (by omega)).trans ((zv_n_t _ _ (by omega)).trans ((zv_n_t _ _ (by omega)).trans ((zv_n_t _ _ (by omega)).trans ((zv_n_t _ _ (by omega)).trans ((zv_n_t _ _ (by omega)).trans ((zv_n_t _ _ (by omega)).trans (zv_m0_s (by omega) (by omega)))))))))
theorem cn_IM_108 {I : zv_I} {m : Nat} : cn_IM (zv_n I (100 + 20 * m) (fun _ => 0)) m (108 + 20 * m) = fun _ => 0 := by
  unfold cn_IM
  exact (zv_n_t _ _ (by omega)).trans ((zv_n_t _ _ (by omega)).trans ((zv_n_t _ _ (by omega)).trans ((zv_n_t _ _ (by omega)).trans ((zv_n_t _ _ (by omega)).trans ((zv_n_t _ _ (by omega)).trans ((zv_n_t _ _ (by omega)).trans (zv_n_s _ _ _)))))))
theorem cn_IM_109 {I : zv_I} {m : Nat} : cn_IM (zv_n I (100 + 20 * m) (fun _ => 0)) m (109 + 20 * m) = fun _ => 0 := by
  unfold cn_IM
  exact (zv_n_t _ _ (by omega)).trans ((zv_n_t _ _ (by omega)).trans ((zv_n_t _ _ (by omega)).trans ((zv_n_t _ _ (by omega)).trans ((zv_n_t _ _ (by omega)).trans ((zv_n_t _ _ (by omega)).trans (zv_n_s _ _ _))))))
theorem cn_IM_110 {I : zv_I} {m : Nat} : cn_IM (zv_n I (100 + 20 * m) (fun _ => 0)) m (110 + 20 * m) = fun _ => 0 := by
  unfold cn_IM
  exact (zv_n_t _ _ (by omega)).trans ((zv_n_t _ _ (by omega)).trans ((zv_n_t _ _ (by omega)).trans ((zv_n_t _ _ (by omega)).trans ((zv_n_t _ _ (by omega)).trans (zv_n_s _ _ _)))))
theorem cn_IM_111 {I : zv_I} {m : Nat} : cn_IM (zv_n I (100 + 20 * m) (fun _ => 0)) m (111 + 20 * m) = fun _ => 0 := by
  unfold cn_IM
  exact (zv_n_t _ _ (by omega)).trans ((zv_n_t _ _ (by omega)).trans ((zv_n_t _ _ (by omega)).trans ((zv_n_t _ _ (by omega)).trans (zv_n_s _ _ _))))
theorem cn_IM_112 {I : zv_I} {m : Nat} : cn_IM (zv_n I (100 + 20 * m) (fun _ => 0)) m (112 + 20 * m) = fun _ => 0 := by
  unfold cn_IM
  exact (zv_n_t _ _ (by omega)).trans ((zv_n_t _ _ (by omega)).trans ((zv_n_t _ _ (by omega)).trans (zv_n_s _ _ _)))
theorem cn_IM_113 {I : zv_I} {m : Nat} : cn_IM (zv_n I (100 + 20 * m) (fun _ => 0)) m (113 + 20 * m) = fun _ => 0 := by
  unfold cn_IM
  exact (zv_n_t _ _ (by omega)).trans ((zv_n_t _ _ (by omega)).trans (zv_n_s _ _ _))
theorem cn_IM_114 {I : zv_I} {m : Nat} : cn_IM (zv_n I (100 + 20 * m) (fun _ => 0)) m (114 + 20 * m) = fun _ => 0 := by
  unfold cn_IM
  exact (zv_n_t _ _ (by omega)).trans (zv_n_s _ _ _)
theorem cn_IM_115 {I : zv_I} {m : Nat} : cn_IM (zv_n I (100 + 20 * m) (fun _ => 0)) m (115 + 20 * m) = fun _ => 0 := by
  unfold cn_IM
  exact zv_n_s _ _ _
theorem cn_IM_z {I : zv_I} {m t : Nat} (h1 : 100 + 20 * m ≤ t) (h2 : t ≤ 115 + 20 * m) : cn_IM (zv_n I (100 + 20 * m) (fun _ => 0)) m t = fun _ => 0 := by
  rcases (show t = 100 + 20 * m ∨ t = 101 + 20 * m ∨ t = 102 + 20 * m ∨ t = 103 + 20 * m ∨ t = 104 + 20 * m ∨ t = 105 + 20 * m ∨ t = 106 + 20 * m ∨ t = 107 + 20 * m ∨ t = 108 + 20 * m ∨ t = 109 + 20 * m ∨ t = 110 + 20 * m ∨ t = 111 + 20 * m ∨ t = 112 + 20 * m ∨ t = 113 + 20 * m ∨ t = 114 + 20 * m ∨ t = 115 + 20 * m by omega) with rfl | rfl | rfl | rfl | rfl | rfl | rfl | rfl | rfl | rfl | rfl | rfl | rfl | rfl | rfl | rfl
  · exact cn_IM_100
  · exact cn_IM_101
  · exact cn_IM_102
  · exact cn_IM_103
  · exact cn_IM_104
  · exact cn_IM_105
  · exact cn_IM_106
  · exact cn_IM_107
  · exact cn_IM_108
  · exact cn_IM_109
  · exact cn_IM_110
  · exact cn_IM_111
  · exact cn_IM_112
  · exact cn_IM_113
  · exact cn_IM_114
  · exact cn_IM_115
theorem cn_JM_100 {J : zv_J} {m : Nat} : cn_JM (zv_n J (100 + 20 * m) (fun _ => 0)) m (100 + 20 * m) = fun _ => 0 := by
  unfold cn_JM
  exact (zv_n_t _ _ (by omega)).trans ((zv_n_t _ _ (by omega)).trans ((zv_n_t _ _ (by omega)).trans ((zv_n_t _ _ (by omega)).trans ((zv_n_t _ _ (by omega)).trans ((zv_n_t _ _ (by omega)).trans ((zv_n_t _ _ (by omega)).trans ((zv_n_t _ _ (by omega)).trans ((zv_m0_o (by omega)).trans (zv_n_s _ _ _)))))))))
theorem cn_JM_101 {J : zv_J} {m : Nat} : cn_JM (zv_n J (100 + 20 * m) (fun _ => 0)) m (101 + 20 * m) = fun _ => 0 := by
  unfold cn_JM
  exact (zv_n_t _ _ (by omega)).trans ((zv_n_t _ _ (by omega)).trans ((zv_n_t _ _ (by omega)).trans ((zv_n_t _ _ (by omega)).trans ((zv_n_t _ _ (by omega)).trans ((zv_n_t _ _ (by omega)).trans ((zv_n_t _ _ (by omega)).trans ((zv_n_t _ _ (by omega)).trans (zv_m0_s (by omega) (by omega)))))))))
theorem cn_JM_102 {J : zv_J} {m : Nat} : cn_JM (zv_n J (100 + 20 * m) (fun _ => 0)) m (102 + 20 * m) = fun _ => 0 := by
  unfold cn_JM
  exact (zv_n_t _ _ (by omega)).trans ((zv_n_t _ _ (by omega)).trans ((zv_n_t _ _ (by omega)).trans ((zv_n_t _ _ (by omega)).trans ((zv_n_t _ _ (by omega)).trans ((zv_n_t _ _ (by omega)).trans ((zv_n_t _ _ (by omega)).trans ((zv_n_t _ _ (by omega)).trans (zv_m0_s (by omega) (by omega)))))))))
theorem cn_JM_103 {J : zv_J} {m : Nat} : cn_JM (zv_n J (100 + 20 * m) (fun _ => 0)) m (103 + 20 * m) = fun _ => 0 := by
  unfold cn_JM
  exact (zv_n_t _ _ (by omega)).trans ((zv_n_t _ _ (by omega)).trans ((zv_n_t _ _ (by omega)).trans ((zv_n_t _ _ (by omega)).trans ((zv_n_t _ _ (by omega)).trans ((zv_n_t _ _ (by omega)).trans ((zv_n_t _ _ (by omega)).trans ((zv_n_t _ _ (by omega)).trans (zv_m0_s (by omega) (by omega)))))))))
theorem cn_JM_104 {J : zv_J} {m : Nat} : cn_JM (zv_n J (100 + 20 * m) (fun _ => 0)) m (104 + 20 * m) = fun _ => 0 := by
  unfold cn_JM
  exact (zv_n_t _ _ (by omega)).trans ((zv_n_t _ _ (by omega)).trans ((zv_n_t _ _ (by omega)).trans ((zv_n_t _ _ (by omega)).trans ((zv_n_t _ _ (by omega)).trans ((zv_n_t _ _ (by omega)).trans ((zv_n_t _ _ (by omega)).trans ((zv_n_t _ _ (by omega)).trans (zv_m0_s (by omega) (by omega)))))))))
theorem cn_JM_105 {J : zv_J} {m : Nat} : cn_JM (zv_n J (100 + 20 * m) (fun _ => 0)) m (105 + 20 * m) = fun _ => 0 := by
  unfold cn_JM
  exact (zv_n_t _ _ (by omega)).trans ((zv_n_t _ _ (by omega)).trans ((zv_n_t _ _ (by omega)).trans ((zv_n_t _ _ (by omega)).trans ((zv_n_t _ _ (by omega)).trans ((zv_n_t _ _ (by omega)).trans ((zv_n_t _ _ (by omega)).trans ((zv_n_t _ _ (by omega)).trans (zv_m0_s (by omega) (by omega)))))))))
theorem cn_JM_106 {J : zv_J} {m : Nat} : cn_JM (zv_n J (100 + 20 * m) (fun _ => 0)) m (106 + 20 * m) = fun _ => 0 := by
  unfold cn_JM
  exact (zv_n_t _ _ (by omega)).trans ((zv_n_t _ _ (by omega)).trans ((zv_n_t _ _ (by omega)).trans ((zv_n_t _ _ (by omega)).trans ((zv_n_t _ _ (by omega)).trans ((zv_n_t _ _ (by omega)).trans ((zv_n_t _ _ (by omega)).trans ((zv_n_t _ _ (by omega)).trans (zv_m0_s (by omega) (by omega)))))))))
theorem cn_JM_107 {J : zv_J} {m : Nat} : cn_JM (zv_n J (100 + 20 * m) (fun _ => 0)) m (107 + 20 * m) = fun _ => 0 := by
  unfold cn_JM
  exact (zv_n_t _ _ (by omega)).trans ((zv_n_t _ _ (by omega)).trans ((zv_n_t _ _ (by omega)).trans ((zv_n_t _ _ (by omega)).trans ((zv_n_t _ _ (by omega)).trans ((zv_n_t _ _ (by omega)).trans ((zv_n_t _ _ (by omega)).trans ((zv_n_t _ _ (by omega)).trans (zv_m0_s (by omega) (by omega)))))))))
theorem cn_JM_108 {J : zv_J} {m : Nat} : cn_JM (zv_n J (100 + 20 * m) (fun _ => 0)) m (108 + 20 * m) = fun _ => 0 := by
  unfold cn_JM
  exact (zv_n_t _ _ (by omega)).trans ((zv_n_t _ _ (by omega)).trans ((zv_n_t _ _ (by omega)).trans ((zv_n_t _ _ (by omega)).trans ((zv_n_t _ _ (by omega)).trans ((zv_n_t _ _ (by omega)).trans ((zv_n_t _ _ (by omega)).trans (zv_n_s _ _ _)))))))
theorem cn_JM_109 {J : zv_J} {m : Nat} : cn_JM (zv_n J (100 + 20 * m) (fun _ => 0)) m (109 + 20 * m) = fun _ => 0 := by
  unfold cn_JM
  exact (zv_n_t _ _ (by omega)).trans ((zv_n_t _ _ (by omega)).trans ((zv_n_t _ _ (by omega)).trans ((zv_n_t _ _ (by omega)).trans ((zv_n_t _ _ (by omega)).trans ((zv_n_t _ _ (by omega)).trans (zv_n_s _ _ _))))))
theorem cn_JM_110 {J : zv_J} {m : Nat} : cn_JM (zv_n J (100 + 20 * m) (fun _ => 0)) m (110 + 20 * m) = fun _ => 0 := by
  unfold cn_JM
  exact (zv_n_t _ _ (by omega)).trans ((zv_n_t _ _ (by omega)).trans ((zv_n_t _ _ (by omega)).trans ((zv_n_t _ _ (by omega)).trans ((zv_n_t _ _ (by omega)).trans (zv_n_s _ _ _)))))
theorem cn_JM_111 {J : zv_J} {m : Nat} : cn_JM (zv_n J (100 + 20 * m) (fun _ => 0)) m (111 + 20 * m) = fun _ => 0 := by
  unfold cn_JM
  exact (zv_n_t _ _ (by omega)).trans ((zv_n_t _ _ (by omega)).trans ((zv_n_t _ _ (by omega)).trans ((zv_n_t _ _ (by omega)).trans (zv_n_s _ _ _))))
theorem cn_JM_112 {J : zv_J} {m : Nat} : cn_JM (zv_n J (100 + 20 * m) (fun _ => 0)) m (112 + 20 * m) = fun _ => 0 := by
  unfold cn_JM
  exact (zv_n_t _ _ (by omega)).trans ((zv_n_t _ _ (by omega)).trans ((zv_n_t _ _ (by omega)).trans (zv_n_s _ _ _)))
theorem cn_JM_113 {J : zv_J} {m : Nat} : cn_JM (zv_n J (100 + 20 * m) (fun _ => 0)) m (113 + 20 * m) = fun _ => 0 := by
  unfold cn_JM
  exact (zv_n_t _ _ (by omega)).trans ((zv_n_t _ _ (by omega)).trans (zv_n_s _ _ _))
theorem cn_JM_114 {J : zv_J} {m : Nat} : cn_JM (zv_n J (100 + 20 * m) (fun _ => 0)) m (114 + 20 * m) = fun _ => 0 := by
  unfold cn_JM
  exact (zv_n_t _ _ (by omega)).trans (zv_n_s _ _ _)
theorem cn_JM_115 {J : zv_J} {m : Nat} : cn_JM (zv_n J (100 + 20 * m) (fun _ => 0)) m (115 + 20 * m) = fun _ => 0 := by
  unfold cn_JM
  exact zv_n_s _ _ _
theorem cn_JM_z {J : zv_J} {m t : Nat} (h1 : 100 + 20 * m ≤ t) (h2 : t ≤ 115 + 20 * m) : cn_JM (zv_n J (100 + 20 * m) (fun _ => 0)) m t = fun _ => 0 := by
  rcases (show t = 100 + 20 * m ∨ t = 101 + 20 * m ∨ t = 102 + 20 * m ∨ t = 103 + 20 * m ∨ t = 104 + 20 * m ∨ t = 105 + 20 * m ∨ t = 106 + 20 * m ∨ t = 107 + 20 * m ∨ t = 108 + 20 * m ∨ t = 109 + 20 * m ∨ t = 110 + 20 * m ∨ t = 111 + 20 * m ∨ t = 112 + 20 * m ∨ t = 113 + 20 * m ∨ t = 114 + 20 * m ∨ t = 115 + 20 * m by omega) with rfl | rfl | rfl | rfl | rfl | rfl | rfl | rfl | rfl | rfl | rfl | rfl | rfl | rfl | rfl | rfl
  · exact cn_JM_100
  · exact cn_JM_101
  · exact cn_JM_102
  · exact cn_JM_103
  · exact cn_JM_104
  · exact cn_JM_105
  · exact cn_JM_106
  · exact cn_JM_107
  · exact cn_JM_108
  · exact cn_JM_109
  · exact cn_JM_110
  · exact cn_JM_111
  · exact cn_JM_112
  · exact cn_JM_113
  · exact cn_JM_114
  · exact cn_JM_115
theorem cn_RM_110 {R : zv_R} {m : Nat} : cn_RM R m (110 + 20 * m) = fun _ => none := by
  unfold cn_RM
  exact (zv_u_row _ _ _ _ (by omega)).trans ((zv_u_row _ _ _ _ (by omega)).trans ((zv_n_t _ _ (by omega)).trans ((zv_n_t _ _ (by omega)).trans ((zv_u_row _ _ _ _ (by omega)).trans ((zv_n_t _ _ (by omega)).trans ((zv_u_row _ _ _ _ (by omega)).trans ((zv_n_t _ _ (by omega)).trans ((zv_u_row _ _ _ _ (by omega)).trans ((zv_n_t _ _ (by omega)).trans ((zv_u_row _ _ _ _ (by omega)).trans (zv_n_s _ _ _)))))))))))
theorem cn_RM_112 {R : zv_R} {m : Nat} : cn_RM R m (112 + 20 * m) = fun _ => none := by
  unfold cn_RM
  exact (zv_u_row _ _ _ _ (by omega)).trans ((zv_u_row _ _ _ _ (by omega)).trans ((zv_n_t _ _ (by omega)).trans ((zv_n_t _ _ (by omega)).trans ((zv_u_row _ _ _ _ (by omega)).trans ((zv_n_t _ _ (by omega)).trans ((zv_u_row _ _ _ _ (by omega)).trans (zv_n_s _ _ _)))))))
theorem cn_RM_113 {R : zv_R} {m : Nat} : cn_RM R m (113 + 20 * m) = fun _ => none := by
  unfold cn_RM
  exact (zv_u_row _ _ _ _ (by omega)).trans ((zv_u_row _ _ _ _ (by omega)).trans ((zv_n_t _ _ (by omega)).trans ((zv_n_t _ _ (by omega)).trans ((zv_u_row _ _ _ _ (by omega)).trans (zv_n_s _ _ _)))))
theorem cn_RM_f0 {R : zv_R} {m : Nat} : cn_RM R m (100 + 20 * m) 0 = some (101 + 20 * m) := by
  unfold cn_RM
  exact (zv_u_j _ _ (by omega)).trans ((zv_u_t _ _ (by omega)).trans ((congrFun (zv_n_t _ _ (by omega)) _).trans ((congrFun (zv_n_t _ _ (by omega)) _).trans ((zv_u_j _ _ (by omega)).trans ((congrFun (zv_n_t _ _ (by omega)) _).trans ((zv_u_j _ _ (by omega)).trans ((congrFun (zv_n_t _ _ (by omega)) _).trans ((zv_u_j _ _ (by omega)).trans ((congrFun (zv_n_t _ _ (by omega)) _).trans ((zv_u_j _ _ (by omega)).trans ((congrFun (zv_n_t _ _ (by omega)) _).trans ((zv_u_j _ _ (by omega)).trans ((congrFun (zv_n_t _ _ (by omega)) _).trans ((zv_u_j _ _ (by omega)).trans ((congrFun (zv_n_t _ _ (by omega)) _).trans (zv_u_s _ _ _ _))))))))))))))))
theorem cn_RM_f1 {R : zv_R} {m : Nat} : cn_RM R m (100 + 20 * m) 1 = some (108 + 20 * m) := by
  unfold cn_RM
  exact (zv_u_j _ _ (by omega)).trans ((zv_u_t _ _ (by omega)).trans ((congrFun (zv_n_t _ _ (by omega)) _).trans ((congrFun (zv_n_t _ _ (by omega)) _).trans ((zv_u_j _ _ (by omega)).trans ((congrFun (zv_n_t _ _ (by omega)) _).trans ((zv_u_j _ _ (by omega)).trans ((congrFun (zv_n_t _ _ (by omega)) _).trans ((zv_u_j _ _ (by omega)).trans ((congrFun (zv_n_t _ _ (by omega)) _).trans ((zv_u_j _ _ (by omega)).trans ((congrFun (zv_n_t _ _ (by omega)) _).trans ((zv_u_j _ _ (by omega)).trans ((congrFun (zv_n_t _ _ (by omega)) _).trans (zv_u_s _ _ _ _))))))))))))))
theorem cn_RM_f2 {R : zv_R} {m : Nat} : cn_RM R m (100 + 20 * m) 2 = some (109 + 20 * m) := by
  unfold cn_RM
  exact (zv_u_j _ _ (by omega)).trans ((zv_u_t _ _ (by omega)).trans ((congrFun (zv_n_t _ _ (by omega)) _).trans ((congrFun (zv_n_t _ _ (by omega)) _).trans ((zv_u_j _ _ (by omega)).trans ((congrFun (zv_n_t _ _ (by omega)) _).trans ((zv_u_j _ _ (by omega)).trans ((congrFun (zv_n_t _ _ (by omega)) _).trans ((zv_u_j _ _ (by omega)).trans ((congrFun (zv_n_t _ _ (by omega)) _).trans ((zv_u_j _ _ (by omega)).trans ((congrFun (zv_n_t _ _ (by omega)) _).trans (zv_u_s _ _ _ _))))))))))))
theorem cn_RM_f3 {R : zv_R} {m : Nat} : cn_RM R m (100 + 20 * m) 3 = some (110 + 20 * m) := by
  unfold cn_RM
  exact (zv_u_j _ _ (by omega)).trans ((zv_u_t _ _ (by omega)).trans ((congrFun (zv_n_t _ _ (by omega)) _).trans ((congrFun (zv_n_t _ _ (by omega)) _).trans ((zv_u_j _ _ (by omega)).trans ((congrFun (zv_n_t _ _ (by omega)) _).trans ((zv_u_j _ _ (by omega)).trans ((congrFun (zv_n_t _ _ (by omega)) _).trans ((zv_u_j _ _ (by omega)).trans ((congrFun (zv_n_t _ _ (by omega)) _).trans (zv_u_s _ _ _ _))))))))))
theorem cn_RM_f4 {R : zv_R} {m : Nat} : cn_RM R m (100 + 20 * m) 4 = some (111 + 20 * m) := by
  unfold cn_RM
  exact (zv_u_j _ _ (by omega)).trans ((zv_u_t _ _ (by omega)).trans ((congrFun (zv_n_t _ _ (by omega)) _).trans ((congrFun (zv_n_t _ _ (by omega)) _).trans ((zv_u_j _ _ (by omega)).trans ((congrFun (zv_n_t _ _ (by omega)) _).trans ((zv_u_j _ _ (by omega)).trans ((congrFun (zv_n_t _ _ (by omega)) _).trans (zv_u_s _ _ _ _))))))))
theorem cn_RM_f5 {R : zv_R} {m : Nat} : cn_RM R m (100 + 20 * m) 5 = some (112 + 20 * m) := by
  unfold cn_RM
  exact (zv_u_j _ _ (by omega)).trans ((zv_u_t _ _ (by omega)).trans ((congrFun (zv_n_t _ _ (by omega)) _).trans ((congrFun (zv_n_t _ _ (by omega)) _).trans ((zv_u_j _ _ (by omega)).trans ((congrFun (zv_n_t _ _ (by omega)) _).trans (zv_u_s _ _ _ _))))))
theorem cn_RM_f6 {R : zv_R} {m : Nat} : cn_RM R m (100 + 20 * m) 6 = some (113 + 20 * m) := by
  unfold cn_RM
  exact (zv_u_j _ _ (by omega)).trans ((zv_u_t _ _ (by omega)).trans ((congrFun (zv_n_t _ _ (by omega)) _).trans ((congrFun (zv_n_t _ _ (by omega)) _).trans (zv_u_s _ _ _ _))))
theorem cn_RM_f7 {R : zv_R} {m : Nat} : cn_RM R m (100 + 20 * m) 7 = some (114 + 20 * m) := by
  unfold cn_RM
  exact zv_u_s _ _ _ _
theorem cn_RM_w {R : zv_R} {m : Nat} : cn_RM R m (114 + 20 * m) 0 = some (115 + 20 * m) := by
  unfold cn_RM
  exact (zv_u_t _ _ (by omega)).trans (zv_u_s _ _ _ _)
