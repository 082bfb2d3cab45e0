def c7_Q (sh : zv_S) (I : zv_I) : zv_Q := fun v sh' I' J' R' => v = none ∧ cc_W0 sh' R' ∧ (∀ j, I' 40 j = 0) ∧ (∀ j, I' 45 j = 0) ∧ (∀ j, I' 46 j = 0) ∧ ∀ t, t < 40 ∨ 46 < t → sh' t = sh t ∧ I' t = I t
theorem cC_init (d : Nat) {E : zv_E} {sh : zv_S} {I : zv_I} {J : zv_J} {R : zv_R} (hs : sh 40 = some (16, 0)) (hf : ∀ t, 41 ≤ t → t ≤ 46 → sh t = none) (hI : I 40 = fun _ => 0) : zv_V E mX7_init (d + 2) 6 476 0 [.ref 40] [] sh I J R (c7_Q sh I) := by
  refine zv_aload_n dX7_init_0 rfl rfl ?_
  refine zv_objI dX7_init_1 oiX7_1 oi_in oi_co (by omega) (by decide) ?_
  refine zv_aload_n dX7_init_4 rfl rfl ?_
  refine zv_bipush (v := nI (8)) dX7_init_5 (by decide) ?_
  refine zv_newq (t := 41) (k' := 4) (N := 8) (kc := 5) (ks := 468) dX7_init_7 rfl (by decide) (by decide) clX7_9 (by decide) rfl (by decide) (hf 41 (by decide) (by decide)) (by omega) ?_
  refine zv_putr 6 0 (u := 41) dX7_init_10 fwX7_11 (hs) rfl (Or.inr ⟨_, rfl⟩) (by omega) ?_
  refine zv_aload_n dX7_init_13 rfl rfl ?_
  refine zv_bipush (v := nI (6)) dX7_init_14 (by decide) ?_
  refine zv_newq (t := 42) (k' := 5) (N := 6) (kc := 4) (ks := 462) dX7_init_16 rfl (by decide) (by decide) clX7_15 (by decide) rfl (by decide) (hf 42 (by decide) (by decide)) (by omega) ?_
  refine zv_putr 6 1 (u := 42) dX7_init_19 fwX7_17 (hs) rfl (Or.inr ⟨_, rfl⟩) (by omega) ?_
  refine zv_aload_n dX7_init_22 rfl rfl ?_
  refine zv_sipush (v := nI (200)) dX7_init_23 (by decide) ?_
  refine zv_newq (t := 43) (k' := 6) (N := 200) (kc := 3) (ks := 262) dX7_init_26 rfl (by decide) (by decide) clX7_21 (by decide) rfl (by decide) (hf 43 (by decide) (by decide)) (by omega) ?_
  refine zv_putr 6 2 (u := 43) dX7_init_29 fwX7_23 (hs) rfl (Or.inr ⟨_, rfl⟩) (by omega) ?_
  refine zv_aload_n dX7_init_32 rfl rfl ?_
  refine zv_sipush (v := nI (200)) dX7_init_33 (by decide) ?_
  refine zv_newa (t := 44) (k' := 0) (N := 200) (kc := 2) (ks := 62) dX7_init_36 rfl (by decide) ac_int rfl (by decide) (hf 44 (by decide) (by decide)) (by omega) ?_
  refine zv_putr 6 3 (u := 44) dX7_init_38 fwX7_27 (hs) rfl (Or.inr ⟨_, rfl⟩) (by omega) ?_
  refine zv_aload_n dX7_init_41 rfl rfl ?_
  refine zv_new (t := 45) (kc := 1) (ks := 60) 5 dX7_init_42 (⟨RX6, TX6, 2, rfl, rfl, by decide, inX6, tyX6_ok, clX7_31, insX6, iniX6⟩) (hf 45 (by decide) (by decide)) (by omega) ?_
  refine zv_dup dX7_init_45 rfl ?_
  refine cc_callI (As := []) (st := [.ref 45, .ref 40]) (b := 45) (kc1 := 1) (ks1 := 60) (kc := 0) (ks := 0) dX7_init_46 ciX7_33 rfl (by decide) (cc_c0) (Nat.le_of_ble_eq_true rfl) (cC_traceI d rfl (hf 46 (by decide) (by decide))) (fun v s1 I1 J1 R1 q => ?_)
  obtain ⟨rfl, rfl, rfl, rfl, rfl⟩ := q
  show zv_V _ _ _ _ _ 49 [.ref 40] [.ref 45, .ref 40] _ _ _ _ _
  refine zv_putr 6 4 (u := 45) dX7_init_49 fwX7_34 (hs) rfl (Or.inl ⟨_, rfl⟩) (by omega) ?_
  refine zv_aload_n dX7_init_52 rfl rfl ?_
  refine zv_iconst (v := nI (0)) dX7_init_53 (by decide) ?_
  refine zv_puti 6 9 dX7_init_54 fwX7_38 (hs) rfl ?_
  refine zv_vret dX7_init_57 rfl ?_
  refine ⟨rfl, ?_, fun j => ?_, fun j => rfl, fun j => rfl, fun t ht => ?_⟩
  · exact ⟨hs, rfl, rfl, rfl, rfl, rfl, rfl, rfl, rfl, rfl, rfl, rfl, rfl⟩
  · by_cases q : j = 9
    · rw [q]; rfl
    · rw [zv_u_j _ _ q]; exact congrFun hI j
  · exact ⟨(zv_sn_t _ _ (by omega)).trans ((zv_sn_t _ _ (by omega)).trans ((zv_sn_t _ _ (by omega)).trans ((zv_sn_t _ _ (by omega)).trans ((zv_sn_t _ _ (by omega)).trans (zv_sn_t _ _ (by omega)))))), (zv_u_row _ _ _ _ (by omega)).trans ((zv_n_t _ _ (by omega)).trans ((zv_n_t _ _ (by omega)).trans ((zv_n_t _ _ (by omega)).trans ((zv_n_t _ _ (by omega)).trans ((zv_n_t _ _ (by omega)).trans (zv_n_t _ _ (by omega)))))))⟩
def c8_L (sh : zv_S) (I0 : zv_I) (J : zv_J) (R : zv_R) : zv_Q := fun v sh' I' J' R' => v = none ∧ sh' = sh ∧ J' = J ∧ R' = R ∧ (∀ j, j < 48 → I' 23 j = -1) ∧ ∀ t, t ≠ 23 → I' t = I0 t
theorem cM_init_l (d : Nat) {E : zv_E} {sh : zv_S} {I0 : zv_I} {J : zv_J} {R : zv_R} (w : rm_W sh R) : ∀ n k I, k + n = 48 → (∀ j, j < k → I 23 j = -1) → (∀ t, t ≠ 23 → I t = I0 t) → zv_V E mX8_init d 0 0 197 [.ref 3, .int (nI k)] [] sh I J R (c8_L sh I0 J R) := by
  intro n
  induction n with
  | zero =>
    intro k I hk h1 h2
    refine zv_iload_n dX8_init_197 rfl rfl ?_
    refine zv_bipush (v := nI 48) dX8_init_198 (by decide) ?_
    refine zv_icN_ge (tgt := 216) dX8_init_200 (by decide) (by omega) (by omega) (fun h => ?_) (fun h => absurd h (by omega))
    refine zv_vret dX8_init_216 rfl ?_
    exact ⟨rfl, rfl, rfl, rfl, fun j hj => h1 j (by omega), h2⟩
  | succ n ih =>
    intro k I hk h1 h2
    refine zv_iload_n dX8_init_197 rfl rfl ?_
    refine zv_bipush (v := nI 48) dX8_init_198 (by decide) ?_
    refine zv_icN_ge (tgt := 216) dX8_init_200 (by decide) (by omega) (by omega) (fun h => absurd h (by omega)) (fun h => ?_)
    refine zv_aload_n dX8_init_203 rfl rfl ?_
    refine zv_getr 7 19 (u := 23) dX8_init_204 flX8_55 w.1 rfl (rmR19 w) ?_
    refine zv_iload_n dX8_init_207 rfl rfl ?_
    refine zv_iconst (v := (-1 : Int32)) dX8_init_208 (by decide) ?_
    refine zv_iast (j := k) dX8_init_209 (rmS19 w) rfl (show k < 48 from by omega) (by decide) ?_
    refine zv_iinc (v := nI (k + 1)) (lv' := [.ref 3, .int (nI (k + 1))]) dX8_init_210 rfl (by rw [← nI_1]; rfl) (by decide) rfl ?_
    refine zv_goto (tgt := 197) dX8_init_213 (by decide) ?_
    refine ih (k + 1) _ (by omega) (fun j hj => ?_) (fun t ht => by rw [zv_u_row _ _ _ _ ht]; exact h2 t ht)
    by_cases q : j = k
    · rw [q, zv_u_s]
    · rw [zv_u_j _ _ q]; exact h1 j (by omega)
def c8_Q (sh : zv_S) (I : zv_I) (J : zv_J) (R : zv_R) : zv_Q := fun v sh' I' J' R' => v = none ∧ rm_W sh' R' ∧ (∀ t, ¬ (3 ≤ t ∧ t < 32) → sh' t = sh t ∧ I' t = I t ∧ J' t = J t ∧ R' t = R t) ∧ (∀ j, j < 48 → I' 23 j = -1) ∧ ∀ t, 3 ≤ t → t < 32 → t ≠ 23 → ∀ j, I' t j = 0
set_option maxRecDepth 100000 in
set_option maxHeartbeats 4000000 in
theorem cM_init (d : Nat) {E : zv_E} {sh : zv_S} {I : zv_I} {J : zv_J} {R : zv_R} (hs : sh 3 = some (17, 0)) (hf : ∀ t, 4 ≤ t → t ≤ 31 → sh t = none) (hI : ∀ t, 3 ≤ t → t < 32 → I t = fun _ => 0) : zv_V E mX8_init (d + 1) 22 55680 0 [.ref 3] [] sh I J R (c8_Q sh I J R) := by
  refine zv_aload_n dX8_init_0 rfl rfl ?_
  refine zv_objI dX8_init_1 oiX8_1 oi_in oi_co (by omega) (by decide) ?_
  refine zv_aload_n dX8_init_4 rfl rfl ?_
  refine zv_bipush (v := nI (6)) dX8_init_5 (by decide) ?_
  refine zv_newa (t := 6) (k' := 0) (N := 6) (kc := 21) (ks := 55674) dX8_init_7 rfl (by decide) ac_int rfl (by decide) (hf 6 (by decide) (by decide)) (by omega) ?_
  refine zv_putr 7 2 (u := 6) dX8_init_9 fwX8_7 (hs) rfl (Or.inr ⟨_, rfl⟩) (by omega) ?_
  refine zv_aload_n dX8_init_12 rfl rfl ?_
  refine zv_bipush (v := nI (6)) dX8_init_13 (by decide) ?_
  refine zv_newa (t := 7) (k' := 0) (N := 6) (kc := 20) (ks := 55668) dX8_init_15 rfl (by decide) ac_int rfl (by decide) (hf 7 (by decide) (by decide)) (by omega) ?_
  refine zv_putr 7 3 (u := 7) dX8_init_17 fwX8_13 (hs) rfl (Or.inr ⟨_, rfl⟩) (by omega) ?_
  refine zv_aload_n dX8_init_20 rfl rfl ?_
  refine zv_sipush (v := nI (200)) dX8_init_21 (by decide) ?_
  refine zv_newa (t := 10) (k' := 0) (N := 200) (kc := 19) (ks := 55468) dX8_init_24 rfl (by decide) ac_int rfl (by decide) (hf 10 (by decide) (by decide)) (by omega) ?_
  refine zv_putr 7 6 (u := 10) dX8_init_26 fwX8_16 (hs) rfl (Or.inr ⟨_, rfl⟩) (by omega) ?_
  refine zv_aload_n dX8_init_29 rfl rfl ?_
  refine zv_sipush (v := nI (200)) dX8_init_30 (by decide) ?_
  refine zv_newa (t := 11) (k' := 0) (N := 200) (kc := 18) (ks := 55268) dX8_init_33 rfl (by decide) ac_int rfl (by decide) (hf 11 (by decide) (by decide)) (by omega) ?_
  refine zv_putr 7 7 (u := 11) dX8_init_35 fwX8_19 (hs) rfl (Or.inr ⟨_, rfl⟩) (by omega) ?_
  refine zv_aload_n dX8_init_38 rfl rfl ?_
  refine zv_sipush (v := nI (200)) dX8_init_39 (by decide) ?_
  refine zv_newa (t := 12) (k' := 0) (N := 200) (kc := 17) (ks := 55068) dX8_init_42 rfl (by decide) ac_int rfl (by decide) (hf 12 (by decide) (by decide)) (by omega) ?_
  refine zv_putr 7 8 (u := 12) dX8_init_44 fwX8_22 (hs) rfl (Or.inr ⟨_, rfl⟩) (by omega) ?_
  refine zv_aload_n dX8_init_47 rfl rfl ?_
  refine zv_sipush (v := nI (200)) dX8_init_48 (by decide) ?_
  refine zv_newa (t := 13) (k' := 0) (N := 200) (kc := 16) (ks := 54868) dX8_init_51 rfl (by decide) ac_int rfl (by decide) (hf 13 (by decide) (by decide)) (by omega) ?_
  refine zv_putr 7 9 (u := 13) dX8_init_53 fwX8_25 (hs) rfl (Or.inr ⟨_, rfl⟩) (by omega) ?_
  refine zv_aload_n dX8_init_56 rfl rfl ?_
  refine zv_sipush (v := nI (200)) dX8_init_57 (by decide) ?_
  refine zv_newa (t := 14) (k' := 0) (N := 200) (kc := 15) (ks := 54668) dX8_init_60 rfl (by decide) ac_int rfl (by decide) (hf 14 (by decide) (by decide)) (by omega) ?_
  refine zv_putr 7 10 (u := 14) dX8_init_62 fwX8_28 (hs) rfl (Or.inr ⟨_, rfl⟩) (by omega) ?_
  refine zv_aload_n dX8_init_65 rfl rfl ?_
  refine zv_sipush (v := nI (200)) dX8_init_66 (by decide) ?_
  refine zv_newa (t := 15) (k' := 0) (N := 200) (kc := 14) (ks := 54468) dX8_init_69 rfl (by decide) ac_int rfl (by decide) (hf 15 (by decide) (by decide)) (by omega) ?_
  refine zv_putr 7 11 (u := 15) dX8_init_71 fwX8_31 (hs) rfl (Or.inr ⟨_, rfl⟩) (by omega) ?_
  refine zv_aload_n dX8_init_74 rfl rfl ?_
  refine zv_sipush (v := nI (200)) dX8_init_75 (by decide) ?_
  refine zv_newa (t := 16) (k' := 0) (N := 200) (kc := 13) (ks := 54268) dX8_init_78 rfl (by decide) ac_int rfl (by decide) (hf 16 (by decide) (by decide)) (by omega) ?_
  refine zv_putr 7 12 (u := 16) dX8_init_80 fwX8_34 (hs) rfl (Or.inr ⟨_, rfl⟩) (by omega) ?_
  refine zv_aload_n dX8_init_83 rfl rfl ?_
  refine zv_sipush (v := nI (200)) dX8_init_84 (by decide) ?_
  refine zv_newa (t := 17) (k' := 0) (N := 200) (kc := 12) (ks := 54068) dX8_init_87 rfl (by decide) ac_int rfl (by decide) (hf 17 (by decide) (by decide)) (by omega) ?_
  refine zv_putr 7 13 (u := 17) dX8_init_89 fwX8_37 (hs) rfl (Or.inr ⟨_, rfl⟩) (by omega) ?_
  refine zv_aload_n dX8_init_92 rfl rfl ?_
  refine zv_sipush (v := nI (200)) dX8_init_93 (by decide) ?_
  refine zv_newa (t := 18) (k' := 0) (N := 200) (kc := 11) (ks := 53868) dX8_init_96 rfl (by decide) ac_int rfl (by decide) (hf 18 (by decide) (by decide)) (by omega) ?_
  refine zv_putr 7 14 (u := 18) dX8_init_98 fwX8_40 (hs) rfl (Or.inr ⟨_, rfl⟩) (by omega) ?_
  refine zv_aload_n dX8_init_101 rfl rfl ?_
  refine zv_sipush (v := nI (9600)) dX8_init_102 (by decide) ?_
  refine zv_newa (t := 19) (k' := 0) (N := 9600) (kc := 10) (ks := 44268) dX8_init_105 rfl (by decide) ac_int rfl (by decide) (hf 19 (by decide) (by decide)) (by omega) ?_
  refine zv_putr 7 15 (u := 19) dX8_init_107 fwX8_43 (hs) rfl (Or.inr ⟨_, rfl⟩) (by omega) ?_
  refine zv_aload_n dX8_init_110 rfl rfl ?_
  refine zv_sipush (v := nI (1600)) dX8_init_111 (by decide) ?_
  refine zv_newa (t := 20) (k' := 0) (N := 1600) (kc := 9) (ks := 42668) dX8_init_114 rfl (by decide) ac_int rfl (by decide) (hf 20 (by decide) (by decide)) (by omega) ?_
  refine zv_putr 7 16 (u := 20) dX8_init_116 fwX8_46 (hs) rfl (Or.inr ⟨_, rfl⟩) (by omega) ?_
  refine zv_aload_n dX8_init_119 rfl rfl ?_
  refine zv_sipush (v := nI (384)) dX8_init_120 (by decide) ?_
  refine zv_newa (t := 21) (k' := 0) (N := 384) (kc := 8) (ks := 42284) dX8_init_123 rfl (by decide) ac_int rfl (by decide) (hf 21 (by decide) (by decide)) (by omega) ?_
  refine zv_putr 7 17 (u := 21) dX8_init_125 fwX8_49 (hs) rfl (Or.inr ⟨_, rfl⟩) (by omega) ?_
  refine zv_aload_n dX8_init_128 rfl rfl ?_
  refine zv_bipush (v := nI (48)) dX8_init_129 (by decide) ?_
  refine zv_newa (t := 22) (k' := 0) (N := 48) (kc := 7) (ks := 42236) dX8_init_131 rfl (by decide) ac_int rfl (by decide) (hf 22 (by decide) (by decide)) (by omega) ?_
  refine zv_putr 7 18 (u := 22) dX8_init_133 fwX8_52 (hs) rfl (Or.inr ⟨_, rfl⟩) (by omega) ?_
  refine zv_aload_n dX8_init_136 rfl rfl ?_
  refine zv_bipush (v := nI (48)) dX8_init_137 (by decide) ?_
  refine zv_newa (t := 23) (k' := 0) (N := 48) (kc := 6) (ks := 42188) dX8_init_139 rfl (by decide) ac_int rfl (by decide) (hf 23 (by decide) (by decide)) (by omega) ?_
  refine zv_putr 7 19 (u := 23) dX8_init_141 fwX8_55 (hs) rfl (Or.inr ⟨_, rfl⟩) (by omega) ?_
  refine zv_aload_n dX8_init_144 rfl rfl ?_
  refine zv_sipush (v := nI (1600)) dX8_init_145 (by decide) ?_
  refine zv_newa (t := 24) (k' := 0) (N := 1600) (kc := 5) (ks := 40588) dX8_init_148 rfl (by decide) ac_int rfl (by decide) (hf 24 (by decide) (by decide)) (by omega) ?_
  refine zv_putr 7 20 (u := 24) dX8_init_150 fwX8_58 (hs) rfl (Or.inr ⟨_, rfl⟩) (by omega) ?_
  refine zv_aload_n dX8_init_153 rfl rfl ?_
  refine zv_bipush (v := nI (8)) dX8_init_154 (by decide) ?_
  refine zv_newa (t := 25) (k' := 0) (N := 8) (kc := 4) (ks := 40580) dX8_init_156 rfl (by decide) ac_int rfl (by decide) (hf 25 (by decide) (by decide)) (by omega) ?_
  refine zv_putr 7 21 (u := 25) dX8_init_158 fwX8_61 (hs) rfl (Or.inr ⟨_, rfl⟩) (by omega) ?_
  refine zv_aload_n dX8_init_161 rfl rfl ?_
  refine zv_ldc dX8_init_162 kcX8_64 ?_
  refine zv_newa (t := 26) (k' := 2) (N := 40000) (kc := 3) (ks := 580) dX8_init_164 rfl (by decide) ac_boolean rfl (by decide) (hf 26 (by decide) (by decide)) (by omega) ?_
  refine zv_putr 7 22 (u := 26) dX8_init_166 fwX8_65 (hs) rfl (Or.inr ⟨_, rfl⟩) (by omega) ?_
  refine zv_aload_n dX8_init_169 rfl rfl ?_
  refine zv_sipush (v := nI (320)) dX8_init_170 (by decide) ?_
  refine zv_newa (t := 27) (k' := 0) (N := 320) (kc := 2) (ks := 260) dX8_init_173 rfl (by decide) ac_int rfl (by decide) (hf 27 (by decide) (by decide)) (by omega) ?_
  refine zv_putr 7 23 (u := 27) dX8_init_175 fwX8_69 (hs) rfl (Or.inr ⟨_, rfl⟩) (by omega) ?_
  refine zv_aload_n dX8_init_178 rfl rfl ?_
  refine zv_bipush (v := nI (60)) dX8_init_179 (by decide) ?_
  refine zv_newa (t := 29) (k' := 0) (N := 60) (kc := 1) (ks := 200) dX8_init_181 rfl (by decide) ac_int rfl (by decide) (hf 29 (by decide) (by decide)) (by omega) ?_
  refine zv_putr 7 25 (u := 29) dX8_init_183 fwX8_72 (hs) rfl (Or.inr ⟨_, rfl⟩) (by omega) ?_
  refine zv_aload_n dX8_init_186 rfl rfl ?_
  refine zv_sipush (v := nI (200)) dX8_init_187 (by decide) ?_
  refine zv_newa (t := 31) (k' := 0) (N := 200) (kc := 0) (ks := 0) dX8_init_190 rfl (by decide) ac_int rfl (by decide) (hf 31 (by decide) (by decide)) (by omega) ?_
  refine zv_putr 7 27 (u := 31) dX8_init_192 fwX8_75 (hs) rfl (Or.inr ⟨_, rfl⟩) (by omega) ?_
  refine zv_iconst (v := nI (0)) dX8_init_195 (by decide) ?_
  refine zv_istore_n (lv' := [.ref 3, .int (nI (0))]) dX8_init_196 rfl (by decide) rfl ?_
  have wW : rm_W (zv_sn ((zv_sn ((zv_sn ((zv_sn ((zv_sn ((zv_sn ((zv_sn ((zv_sn ((zv_sn ((zv_sn ((zv_sn ((zv_sn ((zv_sn ((zv_sn ((zv_sn ((zv_sn ((zv_sn ((zv_sn ((zv_sn ((zv_sn ((zv_sn ((zv_sn sh (6) (0, 6))) (7) (0, 6))) (10) (0, 200))) (11) (0, 200))) (12) (0, 200))) (13) (0, 200))) (14) (0, 200))) (15) (0, 200))) (16) (0, 200))) (17) (0, 200))) (18) (0, 200))) (19) (0, 9600))) (20) (0, 1600))) (21) (0, 384))) (22) (0, 48))) (23) (0, 48))) (24) (0, 1600))) (25) (0, 8))) (26) (2, 40000))) (27) (0, 320))) (29) (0, 60))) (31) (0, 200)) (zv_u ((zv_n ((zv_u ((zv_n ((zv_u ((zv_n ((zv_u ((zv_n ((zv_u ((zv_n ((zv_u ((zv_n ((zv_u ((zv_n ((zv_u ((zv_n ((zv_u ((zv_n ((zv_u ((zv_n ((zv_u ((zv_n ((zv_u ((zv_n ((zv_u ((zv_n ((zv_u ((zv_n ((zv_u ((zv_n ((zv_u ((zv_n ((zv_u ((zv_n ((zv_u ((zv_n ((zv_u ((zv_n ((zv_u ((zv_n ((zv_u ((zv_n ((zv_u ((zv_n R (6) (fun _ => none))) (3) 2 (some (6)))) (7) (fun _ => none))) (3) 3 (some (7)))) (10) (fun _ => none))) (3) 6 (some (10)))) (11) (fun _ => none))) (3) 7 (some (11)))) (12) (fun _ => none))) (3) 8 (some (12)))) (13) (fun _ => none))) (3) 9 (some (13)))) (14) (fun _ => none))) (3) 10 (some (14)))) (15) (fun _ => none))) (3) 11 (some (15)))) (16) (fun _ => none))) (3) 12 (some (16)))) (17) (fun _ => none))) (3) 13 (some (17)))) (18) (fun _ => none))) (3) 14 (some (18)))) (19) (fun _ => none))) (3) 15 (some (19)))) (20) (fun _ => none))) (3) 16 (some (20)))) (21) (fun _ => none))) (3) 17 (some (21)))) (22) (fun _ => none))) (3) 18 (some (22)))) (23) (fun _ => none))) (3) 19 (some (23)))) (24) (fun _ => none))) (3) 20 (some (24)))) (25) (fun _ => none))) (3) 21 (some (25)))) (26) (fun _ => none))) (3) 22 (some (26)))) (27) (fun _ => none))) (3) 23 (some (27)))) (29) (fun _ => none))) (3) 25 (some (29)))) (31) (fun _ => none))) (3) 27 (some (31))) := ⟨hs, fun f hf1 hf2 => by
    rcases (show f = 0 ∨ f = 1 ∨ f = 2 ∨ f = 3 ∨ f = 4 ∨ f = 5 ∨ f = 6 ∨ f = 7 ∨ f = 8 ∨ f = 9 ∨ f = 10 ∨ f = 11 ∨ f = 12 ∨ f = 13 ∨ f = 14 ∨ f = 15 ∨ f = 16 ∨ f = 17 ∨ f = 18 ∨ f = 19 ∨ f = 20 ∨ f = 21 ∨ f = 22 ∨ f = 23 ∨ f = 24 ∨ f = 25 ∨ f = 26 ∨ f = 27 by omega) with rfl | rfl | rfl | rfl | rfl | rfl | rfl | rfl | rfl | rfl | rfl | rfl | rfl | rfl | rfl | rfl | rfl | rfl | rfl | rfl | rfl | rfl | rfl | rfl | rfl | rfl | rfl | rfl
    all_goals first | exact ⟨rfl, rfl⟩ | exact absurd hf2 (by decide)⟩
  refine zv_post (fun v s1 I1 J1 R1 q => ?_) (cM_init_l (d + 1) (I0 := (zv_n ((zv_n ((zv_n ((zv_n ((zv_n ((zv_n ((zv_n ((zv_n ((zv_n ((zv_n ((zv_n ((zv_n ((zv_n ((zv_n ((zv_n ((zv_n ((zv_n ((zv_n ((zv_n ((zv_n ((zv_n ((zv_n I (6) (fun _ => 0))) (7) (fun _ => 0))) (10) (fun _ => 0))) (11) (fun _ => 0))) (12) (fun _ => 0))) (13) (fun _ => 0))) (14) (fun _ => 0))) (15) (fun _ => 0))) (16) (fun _ => 0))) (17) (fun _ => 0))) (18) (fun _ => 0))) (19) (fun _ => 0))) (20) (fun _ => 0))) (21) (fun _ => 0))) (22) (fun _ => 0))) (23) (fun _ => 0))) (24) (fun _ => 0))) (25) (fun _ => 0))) (26) (fun _ => 0))) (27) (fun _ => 0))) (29) (fun _ => 0))) (31) (fun _ => 0))) wW 48 0 _ rfl (fun j hj => absurd hj (by omega)) (fun t _ => rfl))
  obtain ⟨rfl, rfl, rfl, rfl, q5, q6⟩ := q
  refine ⟨rfl, wW, fun t ht => ⟨?_, ?_, ?_, ?_⟩, q5, fun t h1 h2 h3 j => ?_⟩
  · exact (zv_sn_t _ _ (by omega)).trans ((zv_sn_t _ _ (by omega)).trans ((zv_sn_t _ _ (by omega)).trans ((zv_sn_t _ _ (by omega)).trans ((zv_sn_t _ _ (by omega)).trans ((zv_sn_t _ _ (by omega)).trans ((zv_sn_t _ _ (by omega)).trans ((zv_sn_t _ _ (by omega)).trans ((zv_sn_t _ _ (by omega)).trans ((zv_sn_t _ _ (by omega)).trans ((zv_sn_t _ _ (by omega)).trans ((zv_sn_t _ _ (by omega)).trans ((zv_sn_t _ _ (by omega)).trans ((zv_sn_t _ _ (by omega)).trans ((zv_sn_t _ _ (by omega)).trans ((zv_sn_t _ _ (by omega)).trans ((zv_sn_t _ _ (by omega)).trans ((zv_sn_t _ _ (by omega)).trans ((zv_sn_t _ _ (by omega)).trans ((zv_sn_t _ _ (by omega)).trans ((zv_sn_t _ _ (by omega)).trans ((zv_sn_t _ _ (by omega)).trans (rfl))))))))))))))))))))))
  · exact (q6 t (by omega)).trans ((zv_n_t _ _ (by omega)).trans ((zv_n_t _ _ (by omega)).trans ((zv_n_t _ _ (by omega)).trans ((zv_n_t _ _ (by omega)).trans ((zv_n_t _ _ (by omega)).trans ((zv_n_t _ _ (by omega)).trans ((zv_n_t _ _ (by omega)).trans ((zv_n_t _ _ (by omega)).trans ((zv_n_t _ _ (by omega)).trans ((zv_n_t _ _ (by omega)).trans ((zv_n_t _ _ (by omega)).trans ((zv_n_t _ _ (by omega)).trans ((zv_n_t _ _ (by omega)).trans ((zv_n_t _ _ (by omega)).trans ((zv_n_t _ _ (by omega)).trans ((zv_n_t _ _ (by omega)).trans ((zv_n_t _ _ (by omega)).trans ((zv_n_t _ _ (by omega)).trans ((zv_n_t _ _ (by omega)).trans ((zv_n_t _ _ (by omega)).trans ((zv_n_t _ _ (by omega)).trans ((zv_n_t _ _ (by omega)).trans (rfl)))))))))))))))))))))))
  · exact (zv_n_t _ _ (by omega)).trans ((zv_n_t _ _ (by omega)).trans ((zv_n_t _ _ (by omega)).trans ((zv_n_t _ _ (by omega)).trans ((zv_n_t _ _ (by omega)).trans ((zv_n_t _ _ (by omega)).trans ((zv_n_t _ _ (by omega)).trans ((zv_n_t _ _ (by omega)).trans ((zv_n_t _ _ (by omega)).trans ((zv_n_t _ _ (by omega)).trans ((zv_n_t _ _ (by omega)).trans ((zv_n_t _ _ (by omega)).trans ((zv_n_t _ _ (by omega)).trans ((zv_n_t _ _ (by omega)).trans ((zv_n_t _ _ (by omega)).trans ((zv_n_t _ _ (by omega)).trans ((zv_n_t _ _ (by omega)).trans ((zv_n_t _ _ (by omega)).trans ((zv_n_t _ _ (by omega)).trans ((zv_n_t _ _ (by omega)).trans ((zv_n_t _ _ (by omega)).trans ((zv_n_t _ _ (by omega)).trans (rfl))))))))))))))))))))))
  · exact (zv_u_row _ _ _ _ (by omega)).trans ((zv_n_t _ _ (by omega)).trans ((zv_u_row _ _ _ _ (by omega)).trans ((zv_n_t _ _ (by omega)).trans ((zv_u_row _ _ _ _ (by omega)).trans ((zv_n_t _ _ (by omega)).trans ((zv_u_row _ _ _ _ (by omega)).trans ((zv_n_t _ _ (by omega)).trans ((zv_u_row _ _ _ _ (by omega)).trans ((zv_n_t _ _ (by omega)).trans ((zv_u_row _ _ _ _ (by omega)).trans ((zv_n_t _ _ (by omega)).trans ((zv_u_row _ _ _ _ (by omega)).trans ((zv_n_t _ _ (by omega)).trans ((zv_u_row _ _ _ _ (by omega)).trans ((zv_n_t _ _ (by omega)).trans ((zv_u_row _ _ _ _ (by omega)).trans ((zv_n_t _ _ (by omega)).trans ((zv_u_row _ _ _ _ (by omega)).trans ((zv_n_t _ _ (by omega)).trans ((zv_u_row _ _ _ _ (by omega)).trans ((zv_n_t _ _ (by omega)).trans ((zv_u_row _ _ _ _ (by omega)).trans ((zv_n_t _ _ (by omega)).trans ((zv_u_row _ _ _ _ (by omega)).trans ((zv_n_t _ _ (by omega)).trans ((zv_u_row _ _ _ _ (by omega)).trans ((zv_n_t _ _ (by omega)).trans ((zv_u_row _ _ _ _ (by omega)).trans ((zv_n_t _ _ (by omega)).trans ((zv_u_row _ _ _ _ (by omega)).trans ((zv_n_t _ _ (by omega)).trans ((zv_u_row _ _ _ _ (by omega)).trans ((zv_n_t _ _ (by omega)).trans ((zv_u_row _ _ _ _ (by omega)).trans ((zv_n_t _ _ (by omega)).trans ((zv_u_row _ _ _ _ (by omega)).trans ((zv_n_t _ _ (by omega)).trans ((zv_u_row _ _ _ _ (by omega)).trans ((zv_n_t _ _ (by omega)).trans ((zv_u_row _ _ _ _ (by omega)).trans ((zv_n_t _ _ (by omega)).trans ((zv_u_row _ _ _ _ (by omega)).trans ((zv_n_t _ _ (by omega)).trans (rfl))))))))))))))))))))))))))))))))))))))))))))
  · rw [q6 t h3]
    rcases (show t = 3 ∨ t = 4 ∨ t = 5 ∨ t = 6 ∨ t = 7 ∨ t = 8 ∨ t = 9 ∨ t = 10 ∨ t = 11 ∨ t = 12 ∨ t = 13 ∨ t = 14 ∨ t = 15 ∨ t = 16 ∨ t = 17 ∨ t = 18 ∨ t = 19 ∨ t = 20 ∨ t = 21 ∨ t = 22 ∨ t = 23 ∨ t = 24 ∨ t = 25 ∨ t = 26 ∨ t = 27 ∨ t = 28 ∨ t = 29 ∨ t = 30 ∨ t = 31 by omega) with rfl | rfl | rfl | rfl | rfl | rfl | rfl | rfl | rfl | rfl | rfl | rfl | rfl | rfl | rfl | rfl | rfl | rfl | rfl | rfl | rfl | rfl | rfl | rfl | rfl | rfl | rfl | rfl | rfl
    all_goals first | rfl | exact congrFun (hI _ (by decide) (by decide)) j | exact absurd rfl h3
