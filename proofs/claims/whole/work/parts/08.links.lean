theorem zv_gt {w : Cond} (i : Nat) (h : tables_1[i]? = some w) (g : goodWord w = true) : w ∈ zv_gw := List.mem_filter.mpr ⟨List.mem_append_right _ (List.mem_of_getElem? h), g⟩
theorem zv_gp {w : Cond} (i : Nat) (h : (k2_sels lw_privs)[i]? = some w) (g : goodWord w = true) : w ∈ zv_gw := List.mem_filter.mpr ⟨List.mem_append_left _ (List.mem_of_getElem? h), g⟩
theorem zv_nt {w : Cond} (i : Nat) (h : tables_1[i]? = some w) (g : zv_isN w = true) : w ∈ zv_nw := List.mem_filter.mpr ⟨List.mem_of_getElem? h, g⟩
theorem zv_ga {ws : List Cond} (h : ∀ w ∈ ws, w ∈ tables_1) (g : ∀ w ∈ ws, goodWord w = true) : ∀ w ∈ ws, w ∈ zv_gw := fun w hw => List.mem_filter.mpr ⟨List.mem_append_right _ (h w hw), g w hw⟩
def zv_CV (own : String) (idx : Nat) (M1 : zv_M) (n : Nat) : Prop := zv_ML M1 n ∧ ((Cond.methodLink own idx M1.1 ∈ zv_gw) ∨ ∃ host, Cond.methodLinkNest own idx M1.1 host ∈ zv_nw) ∧ Cond.instanceMethod M1.1 ∈ zv_gw ∧ Cond.selects M1.1.cls M1.1 M1.1 ∈ zv_gw
def zv_CS (own : String) (idx : Nat) (M1 : zv_M) (n : Nat) : Prop := zv_ML M1 n ∧ ((Cond.methodLink own idx M1.1 ∈ zv_gw) ∨ ∃ host, Cond.methodLinkNest own idx M1.1 host ∈ zv_nw) ∧ Cond.static M1.1 ∈ zv_gw
def zv_CI (own : String) (idx : Nat) (M1 : zv_M) (n : Nat) : Prop := zv_ML M1 n ∧ M1.2.2.2 = none ∧ M1.1.name = "<init>" ∧ ((Cond.methodLink own idx M1.1 ∈ zv_gw) ∨ ∃ host, Cond.methodLinkNest own idx M1.1 host ∈ zv_nw) ∧ Cond.instanceMethod M1.1 ∈ zv_gw
set_option maxRecDepth 20000 in
theorem inX0 : ∀ w ∈ wsX00, w ∈ zv_gw := zv_ga (by decide +kernel) (by decide +kernel)
set_option maxRecDepth 20000 in
theorem inX1 : ∀ w ∈ wsX10, w ∈ zv_gw := zv_ga (by decide +kernel) (by decide +kernel)
set_option maxRecDepth 20000 in
theorem inX2 : ∀ w ∈ wsX20, w ∈ zv_gw := zv_ga (by decide +kernel) (by decide +kernel)
set_option maxRecDepth 20000 in
theorem inX3 : ∀ w ∈ wsX30, w ∈ zv_gw := zv_ga (by decide +kernel) (by decide +kernel)
set_option maxRecDepth 20000 in
theorem inX4 : ∀ w ∈ wsX40, w ∈ zv_gw := zv_ga (by decide +kernel) (by decide +kernel)
set_option maxRecDepth 20000 in
theorem inX6 : ∀ w ∈ wsX60, w ∈ zv_gw := zv_ga (by decide +kernel) (by decide +kernel)
set_option maxRecDepth 20000 in
theorem inX7 : ∀ w ∈ wsX70, w ∈ zv_gw := zv_ga (by decide +kernel) (by decide +kernel)
set_option maxRecDepth 20000 in
theorem inX8 : ∀ w ∈ wsX80, w ∈ zv_gw := zv_ga (by decide +kernel) (by decide +kernel)
theorem flX6_9 : zv_FL RX6 9 5 0 := ⟨RX6, TX6, 2, rfl, by decide, rfl, inX6, tyX6_ok, nmX6, rfl, Or.inl (zv_gt 32 (by decide +kernel) rfl)⟩
theorem fwX6_9 : zv_FW RX6 "<init>" 9 5 0 := ⟨flX6_9, fun C T N h => by cases h; exact Or.inr ⟨rfl, rfl, rfl, zv_gt 32 (by decide +kernel) rfl⟩⟩
theorem flX6_15 : zv_FL RX6 15 5 1 := ⟨RX6, TX6, 2, rfl, by decide, rfl, inX6, tyX6_ok, nmX6, rfl, Or.inl (zv_gt 33 (by decide +kernel) rfl)⟩
theorem fwX6_15 {nm : String} : zv_FW RX6 nm 15 5 1 := ⟨flX6_15, fun C T N h => by cases h; exact Or.inl rfl⟩
theorem flX7_11 : zv_FL RX7 11 6 0 := ⟨RX7, TX7, 10, rfl, by decide, rfl, inX7, tyX7_ok, nmX7, rfl, Or.inl (zv_gt 40 (by decide +kernel) rfl)⟩
theorem fwX7_11 : zv_FW RX7 "<init>" 11 6 0 := ⟨flX7_11, fun C T N h => by cases h; exact Or.inr ⟨rfl, rfl, rfl, zv_gt 40 (by decide +kernel) rfl⟩⟩
theorem flX7_17 : zv_FL RX7 17 6 1 := ⟨RX7, TX7, 10, rfl, by decide, rfl, inX7, tyX7_ok, nmX7, rfl, Or.inl (zv_gt 41 (by decide +kernel) rfl)⟩
theorem fwX7_17 : zv_FW RX7 "<init>" 17 6 1 := ⟨flX7_17, fun C T N h => by cases h; exact Or.inr ⟨rfl, rfl, rfl, zv_gt 41 (by decide +kernel) rfl⟩⟩
theorem flX7_23 : zv_FL RX7 23 6 2 := ⟨RX7, TX7, 10, rfl, by decide, rfl, inX7, tyX7_ok, nmX7, rfl, Or.inl (zv_gt 42 (by decide +kernel) rfl)⟩
theorem fwX7_23 : zv_FW RX7 "<init>" 23 6 2 := ⟨flX7_23, fun C T N h => by cases h; exact Or.inr ⟨rfl, rfl, rfl, zv_gt 42 (by decide +kernel) rfl⟩⟩
theorem flX7_27 : zv_FL RX7 27 6 3 := ⟨RX7, TX7, 10, rfl, by decide, rfl, inX7, tyX7_ok, nmX7, rfl, Or.inl (zv_gt 43 (by decide +kernel) rfl)⟩
theorem fwX7_27 : zv_FW RX7 "<init>" 27 6 3 := ⟨flX7_27, fun C T N h => by cases h; exact Or.inr ⟨rfl, rfl, rfl, zv_gt 43 (by decide +kernel) rfl⟩⟩
theorem flX7_34 : zv_FL RX7 34 6 4 := ⟨RX7, TX7, 10, rfl, by decide, rfl, inX7, tyX7_ok, nmX7, rfl, Or.inl (zv_gt 44 (by decide +kernel) rfl)⟩
theorem fwX7_34 : zv_FW RX7 "<init>" 34 6 4 := ⟨flX7_34, fun C T N h => by cases h; exact Or.inr ⟨rfl, rfl, rfl, zv_gt 44 (by decide +kernel) rfl⟩⟩
theorem flX7_42 : zv_FL RX7 42 6 5 := ⟨RX7, TX7, 10, rfl, by decide, rfl, inX7, tyX7_ok, nmX7, rfl, Or.inl (zv_gt 45 (by decide +kernel) rfl)⟩
theorem fwX7_42 {nm : String} : zv_FW RX7 nm 42 6 5 := ⟨flX7_42, fun C T N h => by cases h; exact Or.inl rfl⟩
theorem flX7_58 : zv_FL RX7 58 6 6 := ⟨RX7, TX7, 10, rfl, by decide, rfl, inX7, tyX7_ok, nmX7, rfl, Or.inl (zv_gt 46 (by decide +kernel) rfl)⟩
theorem fwX7_58 {nm : String} : zv_FW RX7 nm 58 6 6 := ⟨flX7_58, fun C T N h => by cases h; exact Or.inl rfl⟩
theorem flX7_95 : zv_FL RX7 95 6 7 := ⟨RX7, TX7, 10, rfl, by decide, rfl, inX7, tyX7_ok, nmX7, rfl, Or.inl (zv_gt 47 (by decide +kernel) rfl)⟩
theorem fwX7_95 {nm : String} : zv_FW RX7 nm 95 6 7 := ⟨flX7_95, fun C T N h => by cases h; exact Or.inl rfl⟩
theorem flX7_222 : zv_FL RX7 222 6 8 := ⟨RX7, TX7, 10, rfl, by decide, rfl, inX7, tyX7_ok, nmX7, rfl, Or.inl (zv_gt 48 (by decide +kernel) rfl)⟩
theorem fwX7_222 {nm : String} : zv_FW RX7 nm 222 6 8 := ⟨flX7_222, fun C T N h => by cases h; exact Or.inl rfl⟩
theorem flX7_38 : zv_FL RX7 38 6 9 := ⟨RX7, TX7, 10, rfl, by decide, rfl, inX7, tyX7_ok, nmX7, rfl, Or.inl (zv_gt 49 (by decide +kernel) rfl)⟩
theorem fwX7_38 {nm : String} : zv_FW RX7 nm 38 6 9 := ⟨flX7_38, fun C T N h => by cases h; exact Or.inl rfl⟩
theorem flX4_11 : zv_FL RX4 11 4 0 := ⟨RX4, TX4, 1, rfl, by decide, rfl, inX4, tyX4_ok, nmX4, rfl, Or.inl (zv_gt 97 (by decide +kernel) rfl)⟩
theorem fwX4_11 : zv_FW RX4 "<init>" 11 4 0 := ⟨flX4_11, fun C T N h => by cases h; exact Or.inr ⟨rfl, rfl, rfl, zv_gt 97 (by decide +kernel) rfl⟩⟩
theorem flX3_11 : zv_FL RX3 11 3 0 := ⟨RX3, TX3, 10, rfl, by decide, rfl, inX3, tyX3_ok, nmX3, rfl, Or.inl (zv_gt 102 (by decide +kernel) rfl)⟩
theorem fwX3_11 : zv_FW RX3 "<init>" 11 3 0 := ⟨flX3_11, fun C T N h => by cases h; exact Or.inr ⟨rfl, rfl, rfl, zv_gt 102 (by decide +kernel) rfl⟩⟩
theorem flX7_148 : zv_FL RX7 148 3 0 := ⟨RX3, TX3, 10, rfl, by decide, rfl, inX3, tyX3_ok, nmX3, rfl, Or.inr ⟨RX7, zv_nt 103 (by decide +kernel) rfl⟩⟩
theorem flX3_16 : zv_FL RX3 16 3 1 := ⟨RX3, TX3, 10, rfl, by decide, rfl, inX3, tyX3_ok, nmX3, rfl, Or.inl (zv_gt 104 (by decide +kernel) rfl)⟩
theorem fwX3_16 : zv_FW RX3 "<init>" 16 3 1 := ⟨flX3_16, fun C T N h => by cases h; exact Or.inr ⟨rfl, rfl, rfl, zv_gt 104 (by decide +kernel) rfl⟩⟩
theorem flX3_20 : zv_FL RX3 20 3 2 := ⟨RX3, TX3, 10, rfl, by decide, rfl, inX3, tyX3_ok, nmX3, rfl, Or.inl (zv_gt 105 (by decide +kernel) rfl)⟩
theorem fwX3_20 : zv_FW RX3 "<init>" 20 3 2 := ⟨flX3_20, fun C T N h => by cases h; exact Or.inr ⟨rfl, rfl, rfl, zv_gt 105 (by decide +kernel) rfl⟩⟩
theorem flX7_314 : zv_FL RX7 314 3 2 := ⟨RX3, TX3, 10, rfl, by decide, rfl, inX3, tyX3_ok, nmX3, rfl, Or.inr ⟨RX7, zv_nt 106 (by decide +kernel) rfl⟩⟩
theorem flX3_25 : zv_FL RX3 25 3 3 := ⟨RX3, TX3, 10, rfl, by decide, rfl, inX3, tyX3_ok, nmX3, rfl, Or.inl (zv_gt 107 (by decide +kernel) rfl)⟩
theorem fwX3_25 : zv_FW RX3 "<init>" 25 3 3 := ⟨flX3_25, fun C T N h => by cases h; exact Or.inr ⟨rfl, rfl, rfl, zv_gt 107 (by decide +kernel) rfl⟩⟩
theorem flX7_238 : zv_FL RX7 238 3 3 := ⟨RX3, TX3, 10, rfl, by decide, rfl, inX3, tyX3_ok, nmX3, rfl, Or.inr ⟨RX7, zv_nt 108 (by decide +kernel) rfl⟩⟩
theorem flX3_29 : zv_FL RX3 29 3 4 := ⟨RX3, TX3, 10, rfl, by decide, rfl, inX3, tyX3_ok, nmX3, rfl, Or.inl (zv_gt 109 (by decide +kernel) rfl)⟩
theorem fwX3_29 : zv_FW RX3 "<init>" 29 3 4 := ⟨flX3_29, fun C T N h => by cases h; exact Or.inr ⟨rfl, rfl, rfl, zv_gt 109 (by decide +kernel) rfl⟩⟩
theorem flX7_155 : zv_FL RX7 155 3 4 := ⟨RX3, TX3, 10, rfl, by decide, rfl, inX3, tyX3_ok, nmX3, rfl, Or.inr ⟨RX7, zv_nt 110 (by decide +kernel) rfl⟩⟩
theorem flX3_34 : zv_FL RX3 34 3 5 := ⟨RX3, TX3, 10, rfl, by decide, rfl, inX3, tyX3_ok, nmX3, rfl, Or.inl (zv_gt 111 (by decide +kernel) rfl)⟩
theorem fwX3_34 : zv_FW RX3 "<init>" 34 3 5 := ⟨flX3_34, fun C T N h => by cases h; exact Or.inr ⟨rfl, rfl, rfl, zv_gt 111 (by decide +kernel) rfl⟩⟩
theorem flX7_281 : zv_FL RX7 281 3 5 := ⟨RX3, TX3, 10, rfl, by decide, rfl, inX3, tyX3_ok, nmX3, rfl, Or.inr ⟨RX7, zv_nt 112 (by decide +kernel) rfl⟩⟩
theorem flX3_40 : zv_FL RX3 40 3 6 := ⟨RX3, TX3, 10, rfl, by decide, rfl, inX3, tyX3_ok, nmX3, rfl, Or.inl (zv_gt 113 (by decide +kernel) rfl)⟩
theorem fwX3_40 : zv_FW RX3 "<init>" 40 3 6 := ⟨flX3_40, fun C T N h => by cases h; exact Or.inr ⟨rfl, rfl, rfl, zv_gt 113 (by decide +kernel) rfl⟩⟩
theorem flX7_197 : zv_FL RX7 197 3 6 := ⟨RX3, TX3, 10, rfl, by decide, rfl, inX3, tyX3_ok, nmX3, rfl, Or.inr ⟨RX7, zv_nt 114 (by decide +kernel) rfl⟩⟩
theorem flX3_47 : zv_FL RX3 47 3 7 := ⟨RX3, TX3, 10, rfl, by decide, rfl, inX3, tyX3_ok, nmX3, rfl, Or.inl (zv_gt 115 (by decide +kernel) rfl)⟩
theorem fwX3_47 : zv_FW RX3 "<init>" 47 3 7 := ⟨flX3_47, fun C T N h => by cases h; exact Or.inr ⟨rfl, rfl, rfl, zv_gt 115 (by decide +kernel) rfl⟩⟩
theorem flX7_264 : zv_FL RX7 264 3 7 := ⟨RX3, TX3, 10, rfl, by decide, rfl, inX3, tyX3_ok, nmX3, rfl, Or.inr ⟨RX7, zv_nt 116 (by decide +kernel) rfl⟩⟩
theorem flX3_77 : zv_FL RX3 77 3 8 := ⟨RX3, TX3, 10, rfl, by decide, rfl, inX3, tyX3_ok, nmX3, rfl, Or.inl (zv_gt 117 (by decide +kernel) rfl)⟩
theorem fwX3_77 {nm : String} : zv_FW RX3 nm 77 3 8 := ⟨flX3_77, fun C T N h => by cases h; exact Or.inl rfl⟩
theorem flX7_152 : zv_FL RX7 152 3 8 := ⟨RX3, TX3, 10, rfl, by decide, rfl, inX3, tyX3_ok, nmX3, rfl, Or.inr ⟨RX7, zv_nt 118 (by decide +kernel) rfl⟩⟩
theorem fwX7_152 {nm : String} : zv_FW RX7 nm 152 3 8 := ⟨flX7_152, fun C T N h => by cases h; exact Or.inl rfl⟩
theorem flX3_51 : zv_FL RX3 51 3 9 := ⟨RX3, TX3, 10, rfl, by decide, rfl, inX3, tyX3_ok, nmX3, rfl, Or.inl (zv_gt 119 (by decide +kernel) rfl)⟩
theorem fwX3_51 {nm : String} : zv_FW RX3 nm 51 3 9 := ⟨flX3_51, fun C T N h => by cases h; exact Or.inl rfl⟩
theorem flX7_278 : zv_FL RX7 278 3 9 := ⟨RX3, TX3, 10, rfl, by decide, rfl, inX3, tyX3_ok, nmX3, rfl, Or.inr ⟨RX7, zv_nt 120 (by decide +kernel) rfl⟩⟩
theorem fwX7_278 {nm : String} : zv_FW RX7 nm 278 3 9 := ⟨flX7_278, fun C T N h => by cases h; exact Or.inl rfl⟩
theorem flX0_7 : zv_FL RX0 7 0 0 := ⟨RX0, TX0, 3, rfl, by decide, rfl, inX0, tyX0_ok, nmX0, rfl, Or.inl (zv_gt 167 (by decide +kernel) rfl)⟩
theorem fwX0_7 : zv_FW RX0 "<init>" 7 0 0 := ⟨flX0_7, fun C T N h => by cases h; exact Or.inr ⟨rfl, rfl, rfl, zv_gt 167 (by decide +kernel) rfl⟩⟩
theorem flX1_25 : zv_FL RX1 25 0 0 := ⟨RX0, TX0, 3, rfl, by decide, rfl, inX0, tyX0_ok, nmX0, rfl, Or.inr ⟨RX7, zv_nt 168 (by decide +kernel) rfl⟩⟩
theorem flX7_132 : zv_FL RX7 132 0 0 := ⟨RX0, TX0, 3, rfl, by decide, rfl, inX0, tyX0_ok, nmX0, rfl, Or.inr ⟨RX7, zv_nt 169 (by decide +kernel) rfl⟩⟩
theorem flX0_13 : zv_FL RX0 13 0 1 := ⟨RX0, TX0, 3, rfl, by decide, rfl, inX0, tyX0_ok, nmX0, rfl, Or.inl (zv_gt 170 (by decide +kernel) rfl)⟩
theorem fwX0_13 : zv_FW RX0 "<init>" 13 0 1 := ⟨flX0_13, fun C T N h => by cases h; exact Or.inr ⟨rfl, rfl, rfl, zv_gt 170 (by decide +kernel) rfl⟩⟩
theorem flX7_135 : zv_FL RX7 135 0 1 := ⟨RX0, TX0, 3, rfl, by decide, rfl, inX0, tyX0_ok, nmX0, rfl, Or.inr ⟨RX7, zv_nt 171 (by decide +kernel) rfl⟩⟩
theorem flX7_138 : zv_FL RX7 138 0 2 := ⟨RX0, TX0, 3, rfl, by decide, rfl, inX0, tyX0_ok, nmX0, rfl, Or.inr ⟨RX7, zv_nt 172 (by decide +kernel) rfl⟩⟩
theorem fwX7_138 {nm : String} : zv_FW RX7 nm 138 0 2 := ⟨flX7_138, fun C T N h => by cases h; exact Or.inl rfl⟩
theorem flX1_11 : zv_FL RX1 11 1 0 := ⟨RX1, TX1, 2, rfl, by decide, rfl, inX1, tyX1_ok, nmX1, rfl, Or.inl (zv_gt 224 (by decide +kernel) rfl)⟩
theorem fwX1_11 : zv_FW RX1 "<init>" 11 1 0 := ⟨flX1_11, fun C T N h => by cases h; exact Or.inr ⟨rfl, rfl, rfl, zv_gt 224 (by decide +kernel) rfl⟩⟩
theorem flX2_57 : zv_FL RX2 57 1 0 := ⟨RX1, TX1, 2, rfl, by decide, rfl, inX1, tyX1_ok, nmX1, rfl, Or.inr ⟨RX7, zv_nt 225 (by decide +kernel) rfl⟩⟩
theorem flX1_21 : zv_FL RX1 21 1 1 := ⟨RX1, TX1, 2, rfl, by decide, rfl, inX1, tyX1_ok, nmX1, rfl, Or.inl (zv_gt 226 (by decide +kernel) rfl)⟩
theorem fwX1_21 {nm : String} : zv_FW RX1 nm 21 1 1 := ⟨flX1_21, fun C T N h => by cases h; exact Or.inl rfl⟩
theorem flX7_124 : zv_FL RX7 124 1 1 := ⟨RX1, TX1, 2, rfl, by decide, rfl, inX1, tyX1_ok, nmX1, rfl, Or.inr ⟨RX7, zv_nt 227 (by decide +kernel) rfl⟩⟩
theorem fwX7_124 {nm : String} : zv_FW RX7 nm 124 1 1 := ⟨flX7_124, fun C T N h => by cases h; exact Or.inl rfl⟩
theorem flX2_25 : zv_FL RX2 25 2 0 := ⟨RX2, TX2, 13, rfl, by decide, rfl, inX2, tyX2_ok, nmX2, rfl, Or.inl (zv_gt 250 (by decide +kernel) rfl)⟩
theorem fwX2_25 : zv_FW RX2 "<init>" 25 2 0 := ⟨flX2_25, fun C T N h => by cases h; exact Or.inr ⟨rfl, rfl, rfl, zv_gt 250 (by decide +kernel) rfl⟩⟩
theorem flX3_55 : zv_FL RX3 55 2 0 := ⟨RX2, TX2, 13, rfl, by decide, rfl, inX2, tyX2_ok, nmX2, rfl, Or.inr ⟨RX7, zv_nt 251 (by decide +kernel) rfl⟩⟩
theorem flX7_253 : zv_FL RX7 253 2 0 := ⟨RX2, TX2, 13, rfl, by decide, rfl, inX2, tyX2_ok, nmX2, rfl, Or.inr ⟨RX7, zv_nt 252 (by decide +kernel) rfl⟩⟩
theorem flX2_28 : zv_FL RX2 28 2 1 := ⟨RX2, TX2, 13, rfl, by decide, rfl, inX2, tyX2_ok, nmX2, rfl, Or.inl (zv_gt 253 (by decide +kernel) rfl)⟩
theorem fwX2_28 : zv_FW RX2 "<init>" 28 2 1 := ⟨flX2_28, fun C T N h => by cases h; exact Or.inr ⟨rfl, rfl, rfl, zv_gt 253 (by decide +kernel) rfl⟩⟩
theorem flX3_74 : zv_FL RX3 74 2 1 := ⟨RX2, TX2, 13, rfl, by decide, rfl, inX2, tyX2_ok, nmX2, rfl, Or.inr ⟨RX7, zv_nt 254 (by decide +kernel) rfl⟩⟩
theorem flX7_102 : zv_FL RX7 102 2 1 := ⟨RX2, TX2, 13, rfl, by decide, rfl, inX2, tyX2_ok, nmX2, rfl, Or.inr ⟨RX7, zv_nt 255 (by decide +kernel) rfl⟩⟩
theorem flX2_31 : zv_FL RX2 31 2 2 := ⟨RX2, TX2, 13, rfl, by decide, rfl, inX2, tyX2_ok, nmX2, rfl, Or.inl (zv_gt 256 (by decide +kernel) rfl)⟩
theorem fwX2_31 : zv_FW RX2 "<init>" 31 2 2 := ⟨flX2_31, fun C T N h => by cases h; exact Or.inr ⟨rfl, rfl, rfl, zv_gt 256 (by decide +kernel) rfl⟩⟩
theorem flX3_68 : zv_FL RX3 68 2 2 := ⟨RX2, TX2, 13, rfl, by decide, rfl, inX2, tyX2_ok, nmX2, rfl, Or.inr ⟨RX7, zv_nt 257 (by decide +kernel) rfl⟩⟩
theorem flX7_105 : zv_FL RX7 105 2 2 := ⟨RX2, TX2, 13, rfl, by decide, rfl, inX2, tyX2_ok, nmX2, rfl, Or.inr ⟨RX7, zv_nt 258 (by decide +kernel) rfl⟩⟩
theorem flX2_34 : zv_FL RX2 34 2 3 := ⟨RX2, TX2, 13, rfl, by decide, rfl, inX2, tyX2_ok, nmX2, rfl, Or.inl (zv_gt 259 (by decide +kernel) rfl)⟩
theorem fwX2_34 : zv_FW RX2 "<init>" 34 2 3 := ⟨flX2_34, fun C T N h => by cases h; exact Or.inr ⟨rfl, rfl, rfl, zv_gt 259 (by decide +kernel) rfl⟩⟩
theorem flX3_71 : zv_FL RX3 71 2 3 := ⟨RX2, TX2, 13, rfl, by decide, rfl, inX2, tyX2_ok, nmX2, rfl, Or.inr ⟨RX7, zv_nt 260 (by decide +kernel) rfl⟩⟩
theorem flX7_108 : zv_FL RX7 108 2 3 := ⟨RX2, TX2, 13, rfl, by decide, rfl, inX2, tyX2_ok, nmX2, rfl, Or.inr ⟨RX7, zv_nt 261 (by decide +kernel) rfl⟩⟩
theorem flX2_37 : zv_FL RX2 37 2 4 := ⟨RX2, TX2, 13, rfl, by decide, rfl, inX2, tyX2_ok, nmX2, rfl, Or.inl (zv_gt 262 (by decide +kernel) rfl)⟩
theorem fwX2_37 : zv_FW RX2 "<init>" 37 2 4 := ⟨flX2_37, fun C T N h => by cases h; exact Or.inr ⟨rfl, rfl, rfl, zv_gt 262 (by decide +kernel) rfl⟩⟩
theorem flX7_111 : zv_FL RX7 111 2 4 := ⟨RX2, TX2, 13, rfl, by decide, rfl, inX2, tyX2_ok, nmX2, rfl, Or.inr ⟨RX7, zv_nt 263 (by decide +kernel) rfl⟩⟩
theorem flX2_40 : zv_FL RX2 40 2 5 := ⟨RX2, TX2, 13, rfl, by decide, rfl, inX2, tyX2_ok, nmX2, rfl, Or.inl (zv_gt 264 (by decide +kernel) rfl)⟩
theorem fwX2_40 : zv_FW RX2 "<init>" 40 2 5 := ⟨flX2_40, fun C T N h => by cases h; exact Or.inr ⟨rfl, rfl, rfl, zv_gt 264 (by decide +kernel) rfl⟩⟩
theorem flX7_114 : zv_FL RX7 114 2 5 := ⟨RX2, TX2, 13, rfl, by decide, rfl, inX2, tyX2_ok, nmX2, rfl, Or.inr ⟨RX7, zv_nt 265 (by decide +kernel) rfl⟩⟩
theorem flX2_43 : zv_FL RX2 43 2 6 := ⟨RX2, TX2, 13, rfl, by decide, rfl, inX2, tyX2_ok, nmX2, rfl, Or.inl (zv_gt 266 (by decide +kernel) rfl)⟩
theorem fwX2_43 : zv_FW RX2 "<init>" 43 2 6 := ⟨flX2_43, fun C T N h => by cases h; exact Or.inr ⟨rfl, rfl, rfl, zv_gt 266 (by decide +kernel) rfl⟩⟩
theorem flX7_120 : zv_FL RX7 120 2 6 := ⟨RX2, TX2, 13, rfl, by decide, rfl, inX2, tyX2_ok, nmX2, rfl, Or.inr ⟨RX7, zv_nt 267 (by decide +kernel) rfl⟩⟩
theorem flX2_12 : zv_FL RX2 12 2 7 := ⟨RX2, TX2, 13, rfl, by decide, rfl, inX2, tyX2_ok, nmX2, rfl, Or.inl (zv_gt 268 (by decide +kernel) rfl)⟩
theorem fwX2_12 : zv_FW RX2 "<init>" 12 2 7 := ⟨flX2_12, fun C T N h => by cases h; exact Or.inr ⟨rfl, rfl, rfl, zv_gt 268 (by decide +kernel) rfl⟩⟩
theorem flX3_80 : zv_FL RX3 80 2 7 := ⟨RX2, TX2, 13, rfl, by decide, rfl, inX2, tyX2_ok, nmX2, rfl, Or.inr ⟨RX7, zv_nt 269 (by decide +kernel) rfl⟩⟩
theorem flX7_169 : zv_FL RX7 169 2 7 := ⟨RX2, TX2, 13, rfl, by decide, rfl, inX2, tyX2_ok, nmX2, rfl, Or.inr ⟨RX7, zv_nt 270 (by decide +kernel) rfl⟩⟩
theorem flX2_18 : zv_FL RX2 18 2 8 := ⟨RX2, TX2, 13, rfl, by decide, rfl, inX2, tyX2_ok, nmX2, rfl, Or.inl (zv_gt 271 (by decide +kernel) rfl)⟩
theorem fwX2_18 {nm : String} : zv_FW RX2 nm 18 2 8 := ⟨flX2_18, fun C T N h => by cases h; exact Or.inl rfl⟩
theorem flX7_117 : zv_FL RX7 117 2 8 := ⟨RX2, TX2, 13, rfl, by decide, rfl, inX2, tyX2_ok, nmX2, rfl, Or.inr ⟨RX7, zv_nt 272 (by decide +kernel) rfl⟩⟩
theorem fwX7_117 {nm : String} : zv_FW RX7 nm 117 2 8 := ⟨flX7_117, fun C T N h => by cases h; exact Or.inl rfl⟩
theorem flX2_22 : zv_FL RX2 22 2 9 := ⟨RX2, TX2, 13, rfl, by decide, rfl, inX2, tyX2_ok, nmX2, rfl, Or.inl (zv_gt 273 (by decide +kernel) rfl)⟩
theorem fwX2_22 {nm : String} : zv_FW RX2 nm 22 2 9 := ⟨flX2_22, fun C T N h => by cases h; exact Or.inl rfl⟩
theorem flX7_311 : zv_FL RX7 311 2 9 := ⟨RX2, TX2, 13, rfl, by decide, rfl, inX2, tyX2_ok, nmX2, rfl, Or.inr ⟨RX7, zv_nt 274 (by decide +kernel) rfl⟩⟩
theorem fwX7_311 {nm : String} : zv_FW RX7 nm 311 2 9 := ⟨flX7_311, fun C T N h => by cases h; exact Or.inl rfl⟩
theorem flX7_129 : zv_FL RX7 129 2 10 := ⟨RX2, TX2, 13, rfl, by decide, rfl, inX2, tyX2_ok, nmX2, rfl, Or.inr ⟨RX7, zv_nt 275 (by decide +kernel) rfl⟩⟩
theorem fwX7_129 {nm : String} : zv_FW RX7 nm 129 2 10 := ⟨flX7_129, fun C T N h => by cases h; exact Or.inl rfl⟩
theorem flX2_47 : zv_FL RX2 47 2 11 := ⟨RX2, TX2, 13, rfl, by decide, rfl, inX2, tyX2_ok, nmX2, rfl, Or.inl (zv_gt 276 (by decide +kernel) rfl)⟩
theorem fwX2_47 {nm : String} : zv_FW RX2 nm 47 2 11 := ⟨flX2_47, fun C T N h => by cases h; exact Or.inl rfl⟩
theorem flX7_92 : zv_FL RX7 92 2 11 := ⟨RX2, TX2, 13, rfl, by decide, rfl, inX2, tyX2_ok, nmX2, rfl, Or.inr ⟨RX7, zv_nt 277 (by decide +kernel) rfl⟩⟩
theorem fwX7_92 {nm : String} : zv_FW RX7 nm 92 2 11 := ⟨flX7_92, fun C T N h => by cases h; exact Or.inl rfl⟩
theorem flX2_54 : zv_FL RX2 54 2 12 := ⟨RX2, TX2, 13, rfl, by decide, rfl, inX2, tyX2_ok, nmX2, rfl, Or.inl (zv_gt 278 (by decide +kernel) rfl)⟩
theorem fwX2_54 {nm : String} : zv_FW RX2 nm 54 2 12 := ⟨flX2_54, fun C T N h => by cases h; exact Or.inl rfl⟩
theorem flX7_291 : zv_FL RX7 291 2 12 := ⟨RX2, TX2, 13, rfl, by decide, rfl, inX2, tyX2_ok, nmX2, rfl, Or.inr ⟨RX7, zv_nt 279 (by decide +kernel) rfl⟩⟩
theorem fwX7_291 {nm : String} : zv_FW RX7 nm 291 2 12 := ⟨flX7_291, fun C T N h => by cases h; exact Or.inl rfl⟩
theorem st_323 : Cond.fieldLink RX7 323 RX7 "BODIES" "[I" ∈ zv_gw := zv_gt 505 (by decide +kernel) rfl
theorem st_320 : Cond.fieldLink RX7 320 RX7 "KIND_ABOVE" "[I" ∈ zv_gw := zv_gt 507 (by decide +kernel) rfl
theorem flX8_78 : zv_FL RX8 78 7 0 := ⟨RX8, TX8, 28, rfl, by decide, rfl, inX8, tyX8_ok, nmX8, rfl, Or.inl (zv_gt 587 (by decide +kernel) rfl)⟩
theorem fwX8_78 {nm : String} : zv_FW RX8 nm 78 7 0 := ⟨flX8_78, fun C T N h => by cases h; exact Or.inl rfl⟩
theorem flX8_86 : zv_FL RX8 86 7 1 := ⟨RX8, TX8, 28, rfl, by decide, rfl, inX8, tyX8_ok, nmX8, rfl, Or.inl (zv_gt 588 (by decide +kernel) rfl)⟩
theorem fwX8_86 {nm : String} : zv_FW RX8 nm 86 7 1 := ⟨flX8_86, fun C T N h => by cases h; exact Or.inl rfl⟩
theorem flX8_7 : zv_FL RX8 7 7 2 := ⟨RX8, TX8, 28, rfl, by decide, rfl, inX8, tyX8_ok, nmX8, rfl, Or.inl (zv_gt 589 (by decide +kernel) rfl)⟩
theorem fwX8_7 : zv_FW RX8 "<init>" 7 7 2 := ⟨flX8_7, fun C T N h => by cases h; exact Or.inr ⟨rfl, rfl, rfl, zv_gt 589 (by decide +kernel) rfl⟩⟩
theorem flX8_13 : zv_FL RX8 13 7 3 := ⟨RX8, TX8, 28, rfl, by decide, rfl, inX8, tyX8_ok, nmX8, rfl, Or.inl (zv_gt 590 (by decide +kernel) rfl)⟩
theorem fwX8_13 : zv_FW RX8 "<init>" 13 7 3 := ⟨flX8_13, fun C T N h => by cases h; exact Or.inr ⟨rfl, rfl, rfl, zv_gt 590 (by decide +kernel) rfl⟩⟩
theorem flX8_89 : zv_FL RX8 89 7 4 := ⟨RX8, TX8, 28, rfl, by decide, rfl, inX8, tyX8_ok, nmX8, rfl, Or.inl (zv_gt 591 (by decide +kernel) rfl)⟩
theorem fwX8_89 {nm : String} : zv_FW RX8 nm 89 7 4 := ⟨flX8_89, fun C T N h => by cases h; exact Or.inl rfl⟩
theorem flX8_120 : zv_FL RX8 120 7 5 := ⟨RX8, TX8, 28, rfl, by decide, rfl, inX8, tyX8_ok, nmX8, rfl, Or.inl (zv_gt 592 (by decide +kernel) rfl)⟩
theorem fwX8_120 {nm : String} : zv_FW RX8 nm 120 7 5 := ⟨flX8_120, fun C T N h => by cases h; exact Or.inl rfl⟩
theorem flX8_16 : zv_FL RX8 16 7 6 := ⟨RX8, TX8, 28, rfl, by decide, rfl, inX8, tyX8_ok, nmX8, rfl, Or.inl (zv_gt 593 (by decide +kernel) rfl)⟩
theorem fwX8_16 : zv_FW RX8 "<init>" 16 7 6 := ⟨flX8_16, fun C T N h => by cases h; exact Or.inr ⟨rfl, rfl, rfl, zv_gt 593 (by decide +kernel) rfl⟩⟩
theorem flX8_19 : zv_FL RX8 19 7 7 := ⟨RX8, TX8, 28, rfl, by decide, rfl, inX8, tyX8_ok, nmX8, rfl, Or.inl (zv_gt 594 (by decide +kernel) rfl)⟩
theorem fwX8_19 : zv_FW RX8 "<init>" 19 7 7 := ⟨flX8_19, fun C T N h => by cases h; exact Or.inr ⟨rfl, rfl, rfl, zv_gt 594 (by decide +kernel) rfl⟩⟩
theorem flX8_22 : zv_FL RX8 22 7 8 := ⟨RX8, TX8, 28, rfl, by decide, rfl, inX8, tyX8_ok, nmX8, rfl, Or.inl (zv_gt 595 (by decide +kernel) rfl)⟩
theorem fwX8_22 : zv_FW RX8 "<init>" 22 7 8 := ⟨flX8_22, fun C T N h => by cases h; exact Or.inr ⟨rfl, rfl, rfl, zv_gt 595 (by decide +kernel) rfl⟩⟩
theorem flX8_25 : zv_FL RX8 25 7 9 := ⟨RX8, TX8, 28, rfl, by decide, rfl, inX8, tyX8_ok, nmX8, rfl, Or.inl (zv_gt 596 (by decide +kernel) rfl)⟩
theorem fwX8_25 : zv_FW RX8 "<init>" 25 7 9 := ⟨flX8_25, fun C T N h => by cases h; exact Or.inr ⟨rfl, rfl, rfl, zv_gt 596 (by decide +kernel) rfl⟩⟩
theorem flX8_28 : zv_FL RX8 28 7 10 := ⟨RX8, TX8, 28, rfl, by decide, rfl, inX8, tyX8_ok, nmX8, rfl, Or.inl (zv_gt 597 (by decide +kernel) rfl)⟩
theorem fwX8_28 : zv_FW RX8 "<init>" 28 7 10 := ⟨flX8_28, fun C T N h => by cases h; exact Or.inr ⟨rfl, rfl, rfl, zv_gt 597 (by decide +kernel) rfl⟩⟩
theorem flX8_31 : zv_FL RX8 31 7 11 := ⟨RX8, TX8, 28, rfl, by decide, rfl, inX8, tyX8_ok, nmX8, rfl, Or.inl (zv_gt 598 (by decide +kernel) rfl)⟩
theorem fwX8_31 : zv_FW RX8 "<init>" 31 7 11 := ⟨flX8_31, fun C T N h => by cases h; exact Or.inr ⟨rfl, rfl, rfl, zv_gt 598 (by decide +kernel) rfl⟩⟩
theorem flX8_34 : zv_FL RX8 34 7 12 := ⟨RX8, TX8, 28, rfl, by decide, rfl, inX8, tyX8_ok, nmX8, rfl, Or.inl (zv_gt 599 (by decide +kernel) rfl)⟩
theorem fwX8_34 : zv_FW RX8 "<init>" 34 7 12 := ⟨flX8_34, fun C T N h => by cases h; exact Or.inr ⟨rfl, rfl, rfl, zv_gt 599 (by decide +kernel) rfl⟩⟩
theorem flX8_37 : zv_FL RX8 37 7 13 := ⟨RX8, TX8, 28, rfl, by decide, rfl, inX8, tyX8_ok, nmX8, rfl, Or.inl (zv_gt 600 (by decide +kernel) rfl)⟩
theorem fwX8_37 : zv_FW RX8 "<init>" 37 7 13 := ⟨flX8_37, fun C T N h => by cases h; exact Or.inr ⟨rfl, rfl, rfl, zv_gt 600 (by decide +kernel) rfl⟩⟩
theorem flX8_40 : zv_FL RX8 40 7 14 := ⟨RX8, TX8, 28, rfl, by decide, rfl, inX8, tyX8_ok, nmX8, rfl, Or.inl (zv_gt 601 (by decide +kernel) rfl)⟩
theorem fwX8_40 : zv_FW RX8 "<init>" 40 7 14 := ⟨flX8_40, fun C T N h => by cases h; exact Or.inr ⟨rfl, rfl, rfl, zv_gt 601 (by decide +kernel) rfl⟩⟩
theorem flX8_43 : zv_FL RX8 43 7 15 := ⟨RX8, TX8, 28, rfl, by decide, rfl, inX8, tyX8_ok, nmX8, rfl, Or.inl (zv_gt 602 (by decide +kernel) rfl)⟩
theorem fwX8_43 : zv_FW RX8 "<init>" 43 7 15 := ⟨flX8_43, fun C T N h => by cases h; exact Or.inr ⟨rfl, rfl, rfl, zv_gt 602 (by decide +kernel) rfl⟩⟩
theorem flX8_46 : zv_FL RX8 46 7 16 := ⟨RX8, TX8, 28, rfl, by decide, rfl, inX8, tyX8_ok, nmX8, rfl, Or.inl (zv_gt 603 (by decide +kernel) rfl)⟩
theorem fwX8_46 : zv_FW RX8 "<init>" 46 7 16 := ⟨flX8_46, fun C T N h => by cases h; exact Or.inr ⟨rfl, rfl, rfl, zv_gt 603 (by decide +kernel) rfl⟩⟩
theorem flX8_49 : zv_FL RX8 49 7 17 := ⟨RX8, TX8, 28, rfl, by decide, rfl, inX8, tyX8_ok, nmX8, rfl, Or.inl (zv_gt 604 (by decide +kernel) rfl)⟩
theorem fwX8_49 : zv_FW RX8 "<init>" 49 7 17 := ⟨flX8_49, fun C T N h => by cases h; exact Or.inr ⟨rfl, rfl, rfl, zv_gt 604 (by decide +kernel) rfl⟩⟩
theorem flX8_52 : zv_FL RX8 52 7 18 := ⟨RX8, TX8, 28, rfl, by decide, rfl, inX8, tyX8_ok, nmX8, rfl, Or.inl (zv_gt 605 (by decide +kernel) rfl)⟩
theorem fwX8_52 : zv_FW RX8 "<init>" 52 7 18 := ⟨flX8_52, fun C T N h => by cases h; exact Or.inr ⟨rfl, rfl, rfl, zv_gt 605 (by decide +kernel) rfl⟩⟩
theorem flX8_55 : zv_FL RX8 55 7 19 := ⟨RX8, TX8, 28, rfl, by decide, rfl, inX8, tyX8_ok, nmX8, rfl, Or.inl (zv_gt 606 (by decide +kernel) rfl)⟩
theorem fwX8_55 : zv_FW RX8 "<init>" 55 7 19 := ⟨flX8_55, fun C T N h => by cases h; exact Or.inr ⟨rfl, rfl, rfl, zv_gt 606 (by decide +kernel) rfl⟩⟩
theorem flX8_58 : zv_FL RX8 58 7 20 := ⟨RX8, TX8, 28, rfl, by decide, rfl, inX8, tyX8_ok, nmX8, rfl, Or.inl (zv_gt 607 (by decide +kernel) rfl)⟩
theorem fwX8_58 : zv_FW RX8 "<init>" 58 7 20 := ⟨flX8_58, fun C T N h => by cases h; exact Or.inr ⟨rfl, rfl, rfl, zv_gt 607 (by decide +kernel) rfl⟩⟩
theorem flX8_61 : zv_FL RX8 61 7 21 := ⟨RX8, TX8, 28, rfl, by decide, rfl, inX8, tyX8_ok, nmX8, rfl, Or.inl (zv_gt 608 (by decide +kernel) rfl)⟩
theorem fwX8_61 : zv_FW RX8 "<init>" 61 7 21 := ⟨flX8_61, fun C T N h => by cases h; exact Or.inr ⟨rfl, rfl, rfl, zv_gt 608 (by decide +kernel) rfl⟩⟩
theorem flX8_65 : zv_FL RX8 65 7 22 := ⟨RX8, TX8, 28, rfl, by decide, rfl, inX8, tyX8_ok, nmX8, rfl, Or.inl (zv_gt 609 (by decide +kernel) rfl)⟩
theorem fwX8_65 : zv_FW RX8 "<init>" 65 7 22 := ⟨flX8_65, fun C T N h => by cases h; exact Or.inr ⟨rfl, rfl, rfl, zv_gt 609 (by decide +kernel) rfl⟩⟩
theorem flX8_69 : zv_FL RX8 69 7 23 := ⟨RX8, TX8, 28, rfl, by decide, rfl, inX8, tyX8_ok, nmX8, rfl, Or.inl (zv_gt 610 (by decide +kernel) rfl)⟩
theorem fwX8_69 : zv_FW RX8 "<init>" 69 7 23 := ⟨flX8_69, fun C T N h => by cases h; exact Or.inr ⟨rfl, rfl, rfl, zv_gt 610 (by decide +kernel) rfl⟩⟩
theorem flX8_100 : zv_FL RX8 100 7 24 := ⟨RX8, TX8, 28, rfl, by decide, rfl, inX8, tyX8_ok, nmX8, rfl, Or.inl (zv_gt 611 (by decide +kernel) rfl)⟩
theorem fwX8_100 {nm : String} : zv_FW RX8 nm 100 7 24 := ⟨flX8_100, fun C T N h => by cases h; exact Or.inl rfl⟩
theorem flX8_72 : zv_FL RX8 72 7 25 := ⟨RX8, TX8, 28, rfl, by decide, rfl, inX8, tyX8_ok, nmX8, rfl, Or.inl (zv_gt 612 (by decide +kernel) rfl)⟩
theorem fwX8_72 : zv_FW RX8 "<init>" 72 7 25 := ⟨flX8_72, fun C T N h => by cases h; exact Or.inr ⟨rfl, rfl, rfl, zv_gt 612 (by decide +kernel) rfl⟩⟩
theorem flX8_176 : zv_FL RX8 176 7 26 := ⟨RX8, TX8, 28, rfl, by decide, rfl, inX8, tyX8_ok, nmX8, rfl, Or.inl (zv_gt 613 (by decide +kernel) rfl)⟩
theorem fwX8_176 {nm : String} : zv_FW RX8 nm 176 7 26 := ⟨flX8_176, fun C T N h => by cases h; exact Or.inl rfl⟩
theorem flX8_75 : zv_FL RX8 75 7 27 := ⟨RX8, TX8, 28, rfl, by decide, rfl, inX8, tyX8_ok, nmX8, rfl, Or.inl (zv_gt 614 (by decide +kernel) rfl)⟩
theorem fwX8_75 : zv_FW RX8 "<init>" 75 7 27 := ⟨flX8_75, fun C T N h => by cases h; exact Or.inr ⟨rfl, rfl, rfl, zv_gt 614 (by decide +kernel) rfl⟩⟩
theorem mlX0_init : zv_ML mX0_init 2 := ⟨zv_gt 165 (by decide +kernel) rfl, zv_gt 7 (by decide +kernel) rfl, by decide +kernel, by decide, by decide +kernel, by decide +kernel, by decide +kernel⟩
theorem imX0_init : Cond.instanceMethod mX0_init.1 ∈ zv_gw := zv_gt 164 (by decide +kernel) rfl
theorem mlX1_init : zv_ML mX1_init 0 := ⟨zv_gt 221 (by decide +kernel) rfl, zv_gt 8 (by decide +kernel) rfl, by decide +kernel, by decide, by decide +kernel, by decide +kernel, by decide +kernel⟩
theorem imX1_init : Cond.instanceMethod mX1_init.1 ∈ zv_gw := zv_gt 220 (by decide +kernel) rfl
theorem mlX1_addRow : zv_ML mX1_addRow 3 := ⟨zv_gt 236 (by decide +kernel) rfl, zv_gt 8 (by decide +kernel) rfl, by decide +kernel, by decide, by decide +kernel, by decide +kernel, by decide +kernel⟩
theorem imX1_addRow : Cond.instanceMethod mX1_addRow.1 ∈ zv_gw := zv_gt 234 (by decide +kernel) rfl
theorem seX1_addRow : Cond.selects mX1_addRow.1.cls mX1_addRow.1 mX1_addRow.1 ∈ zv_gw := zv_gt 235 (by decide +kernel) rfl
theorem mlX1_rowAt : zv_ML mX1_rowAt 1 := ⟨zv_gt 350 (by decide +kernel) rfl, zv_gt 8 (by decide +kernel) rfl, by decide +kernel, by decide, by decide +kernel, by decide +kernel, by decide +kernel⟩
theorem imX1_rowAt : Cond.instanceMethod mX1_rowAt.1 ∈ zv_gw := zv_gt 348 (by decide +kernel) rfl
theorem seX1_rowAt : Cond.selects mX1_rowAt.1.cls mX1_rowAt.1 mX1_rowAt.1 ∈ zv_gw := zv_gt 349 (by decide +kernel) rfl
theorem mlX1_firstRow : zv_ML mX1_firstRow 0 := ⟨zv_gt 556 (by decide +kernel) rfl, zv_gt 8 (by decide +kernel) rfl, by decide +kernel, by decide, by decide +kernel, by decide +kernel, by decide +kernel⟩
theorem imX1_firstRow : Cond.instanceMethod mX1_firstRow.1 ∈ zv_gw := zv_gt 554 (by decide +kernel) rfl
theorem seX1_firstRow : Cond.selects mX1_firstRow.1.cls mX1_firstRow.1 mX1_firstRow.1 ∈ zv_gw := zv_gt 555 (by decide +kernel) rfl
theorem mlX1_sameCounts : zv_ML mX1_sameCounts 2 := ⟨zv_gt 310 (by decide +kernel) rfl, zv_gt 8 (by decide +kernel) rfl, by decide +kernel, by decide, by decide +kernel, by decide +kernel, by decide +kernel⟩
theorem imX1_sameCounts : Cond.instanceMethod mX1_sameCounts.1 ∈ zv_gw := zv_gt 308 (by decide +kernel) rfl
theorem seX1_sameCounts : Cond.selects mX1_sameCounts.1.cls mX1_sameCounts.1 mX1_sameCounts.1 ∈ zv_gw := zv_gt 309 (by decide +kernel) rfl
theorem mlX1_sameInRow : zv_ML mX1_sameInRow 3 := ⟨zv_gt 313 (by decide +kernel) rfl, zv_gt 8 (by decide +kernel) rfl, by decide +kernel, by decide, by decide +kernel, by decide +kernel, by decide +kernel⟩
theorem smX1_sameInRow : Cond.static mX1_sameInRow.1 ∈ zv_gw := zv_gt 312 (by decide +kernel) rfl
theorem mlX2_init : zv_ML mX2_init 7 := ⟨zv_gt 246 (by decide +kernel) rfl, zv_gt 9 (by decide +kernel) rfl, by decide +kernel, by decide, by decide +kernel, by decide +kernel, by decide +kernel⟩
theorem imX2_init : Cond.instanceMethod mX2_init.1 ∈ zv_gw := zv_gt 245 (by decide +kernel) rfl
theorem mlX2_isOnLineTo : zv_ML mX2_isOnLineTo 1 := ⟨zv_gt 400 (by decide +kernel) rfl, zv_gt 9 (by decide +kernel) rfl, by decide +kernel, by decide, by decide +kernel, by decide +kernel, by decide +kernel⟩
theorem imX2_isOnLineTo : Cond.instanceMethod mX2_isOnLineTo.1 ∈ zv_gw := zv_gt 398 (by decide +kernel) rfl
theorem seX2_isOnLineTo : Cond.selects mX2_isOnLineTo.1.cls mX2_isOnLineTo.1 mX2_isOnLineTo.1 ∈ zv_gw := zv_gt 399 (by decide +kernel) rfl
theorem mlX2_isGivenBy : zv_ML mX2_isGivenBy 1 := ⟨zv_gt 207 (by decide +kernel) rfl, zv_gt 9 (by decide +kernel) rfl, by decide +kernel, by decide, by decide +kernel, by decide +kernel, by decide +kernel⟩
theorem imX2_isGivenBy : Cond.instanceMethod mX2_isGivenBy.1 ∈ zv_gw := zv_gt 205 (by decide +kernel) rfl
theorem seX2_isGivenBy : Cond.selects mX2_isGivenBy.1.cls mX2_isGivenBy.1 mX2_isGivenBy.1 ∈ zv_gw := zv_gt 206 (by decide +kernel) rfl
theorem mlX2_needed : zv_ML mX2_needed 2 := ⟨zv_gt 358 (by decide +kernel) rfl, zv_gt 9 (by decide +kernel) rfl, by decide +kernel, by decide, by decide +kernel, by decide +kernel, by decide +kernel⟩
theorem imX2_needed : Cond.instanceMethod mX2_needed.1 ∈ zv_gw := zv_gt 356 (by decide +kernel) rfl
theorem seX2_needed : Cond.selects mX2_needed.1.cls mX2_needed.1 mX2_needed.1 ∈ zv_gw := zv_gt 357 (by decide +kernel) rfl
theorem mlX3_init : zv_ML mX3_init 0 := ⟨zv_gt 82 (by decide +kernel) rfl, zv_gt 4 (by decide +kernel) rfl, by decide +kernel, by decide, by decide +kernel, by decide +kernel, by decide +kernel⟩
theorem imX3_init : Cond.instanceMethod mX3_init.1 ∈ zv_gw := zv_gt 81 (by decide +kernel) rfl
theorem mlX3_nextSerial : zv_ML mX3_nextSerial 1 := ⟨zv_gt 212 (by decide +kernel) rfl, zv_gt 4 (by decide +kernel) rfl, by decide +kernel, by decide, by decide +kernel, by decide +kernel, by decide +kernel⟩
theorem imX3_nextSerial : Cond.instanceMethod mX3_nextSerial.1 ∈ zv_gw := zv_gt 210 (by decide +kernel) rfl
theorem seX3_nextSerial : Cond.selects mX3_nextSerial.1.cls mX3_nextSerial.1 mX3_nextSerial.1 ∈ zv_gw := zv_gt 211 (by decide +kernel) rfl
theorem mlX3_hold : zv_ML mX3_hold 1 := ⟨zv_gt 330 (by decide +kernel) rfl, zv_gt 4 (by decide +kernel) rfl, by decide +kernel, by decide, by decide +kernel, by decide +kernel, by decide +kernel⟩
theorem imX3_hold : Cond.instanceMethod mX3_hold.1 ∈ zv_gw := zv_gt 328 (by decide +kernel) rfl
theorem seX3_hold : Cond.selects mX3_hold.1.cls mX3_hold.1 mX3_hold.1 ∈ zv_gw := zv_gt 329 (by decide +kernel) rfl
theorem mlX3_takeSlot : zv_ML mX3_takeSlot 1 := ⟨zv_gt 334 (by decide +kernel) rfl, zv_gt 4 (by decide +kernel) rfl, by decide +kernel, by decide, by decide +kernel, by decide +kernel, by decide +kernel⟩
theorem imX3_takeSlot : Cond.instanceMethod mX3_takeSlot.1 ∈ zv_gw := zv_gt 333 (by decide +kernel) rfl
theorem seX3_takeSlot : Cond.selects mX3_takeSlot.1.cls mX3_takeSlot.1 mX3_takeSlot.1 ∈ zv_gw := zv_gp 9 (by decide +kernel) rfl
theorem mlX3_release : zv_ML mX3_release 1 := ⟨zv_gt 370 (by decide +kernel) rfl, zv_gt 4 (by decide +kernel) rfl, by decide +kernel, by decide, by decide +kernel, by decide +kernel, by decide +kernel⟩
theorem imX3_release : Cond.instanceMethod mX3_release.1 ∈ zv_gw := zv_gt 368 (by decide +kernel) rfl
theorem seX3_release : Cond.selects mX3_release.1.cls mX3_release.1 mX3_release.1 ∈ zv_gw := zv_gt 369 (by decide +kernel) rfl
theorem mlX3_dropHeld : zv_ML mX3_dropHeld 1 := ⟨zv_gt 374 (by decide +kernel) rfl, zv_gt 4 (by decide +kernel) rfl, by decide +kernel, by decide, by decide +kernel, by decide +kernel, by decide +kernel⟩
theorem imX3_dropHeld : Cond.instanceMethod mX3_dropHeld.1 ∈ zv_gw := zv_gt 373 (by decide +kernel) rfl
theorem seX3_dropHeld : Cond.selects mX3_dropHeld.1.cls mX3_dropHeld.1 mX3_dropHeld.1 ∈ zv_gw := zv_gp 16 (by decide +kernel) rfl
theorem mlX3_leaveSlot : zv_ML mX3_leaveSlot 1 := ⟨zv_gt 378 (by decide +kernel) rfl, zv_gt 4 (by decide +kernel) rfl, by decide +kernel, by decide, by decide +kernel, by decide +kernel, by decide +kernel⟩
theorem imX3_leaveSlot : Cond.instanceMethod mX3_leaveSlot.1 ∈ zv_gw := zv_gt 377 (by decide +kernel) rfl
theorem seX3_leaveSlot : Cond.selects mX3_leaveSlot.1.cls mX3_leaveSlot.1 mX3_leaveSlot.1 ∈ zv_gw := zv_gp 17 (by decide +kernel) rfl
theorem mlX4_init : zv_ML mX4_init 0 := ⟨zv_gt 95 (by decide +kernel) rfl, zv_gt 5 (by decide +kernel) rfl, by decide +kernel, by decide, by decide +kernel, by decide +kernel, by decide +kernel⟩
theorem imX4_init : Cond.instanceMethod mX4_init.1 ∈ zv_gw := zv_gt 94 (by decide +kernel) rfl
theorem mlX4_add : zv_ML mX4_add 1 := ⟨zv_gt 326 (by decide +kernel) rfl, zv_gt 5 (by decide +kernel) rfl, by decide +kernel, by decide, by decide +kernel, by decide +kernel, by decide +kernel⟩
theorem imX4_add : Cond.instanceMethod mX4_add.1 ∈ zv_gw := zv_gt 324 (by decide +kernel) rfl
theorem seX4_add : Cond.selects mX4_add.1.cls mX4_add.1 mX4_add.1 ∈ zv_gw := zv_gt 325 (by decide +kernel) rfl
theorem mlX4_addAll : zv_ML mX4_addAll 1 := ⟨zv_gt 322 (by decide +kernel) rfl, zv_gt 5 (by decide +kernel) rfl, by decide +kernel, by decide, by decide +kernel, by decide +kernel, by decide +kernel⟩
theorem imX4_addAll : Cond.instanceMethod mX4_addAll.1 ∈ zv_gw := zv_gt 320 (by decide +kernel) rfl
theorem seX4_addAll : Cond.selects mX4_addAll.1.cls mX4_addAll.1 mX4_addAll.1 ∈ zv_gw := zv_gt 321 (by decide +kernel) rfl
theorem mlX4_has : zv_ML mX4_has 1 := ⟨zv_gt 468 (by decide +kernel) rfl, zv_gt 5 (by decide +kernel) rfl, by decide +kernel, by decide, by decide +kernel, by decide +kernel, by decide +kernel⟩
theorem imX4_has : Cond.instanceMethod mX4_has.1 ∈ zv_gw := zv_gt 466 (by decide +kernel) rfl
theorem seX4_has : Cond.selects mX4_has.1.cls mX4_has.1 mX4_has.1 ∈ zv_gw := zv_gt 467 (by decide +kernel) rfl
theorem mlX4_size : zv_ML mX4_size 0 := ⟨zv_gt 476 (by decide +kernel) rfl, zv_gt 5 (by decide +kernel) rfl, by decide +kernel, by decide, by decide +kernel, by decide +kernel, by decide +kernel⟩
theorem imX4_size : Cond.instanceMethod mX4_size.1 ∈ zv_gw := zv_gt 474 (by decide +kernel) rfl
theorem seX4_size : Cond.selects mX4_size.1.cls mX4_size.1 mX4_size.1 ∈ zv_gw := zv_gt 475 (by decide +kernel) rfl
theorem mlX6_init : zv_ML mX6_init 0 := ⟨zv_gt 30 (by decide +kernel) rfl, zv_gt 2 (by decide +kernel) rfl, by decide +kernel, by decide, by decide +kernel, by decide +kernel, by decide +kernel⟩
theorem imX6_init : Cond.instanceMethod mX6_init.1 ∈ zv_gw := zv_gt 29 (by decide +kernel) rfl
theorem mlX6_restart : zv_ML mX6_restart 0 := ⟨zv_gt 498 (by decide +kernel) rfl, zv_gt 2 (by decide +kernel) rfl, by decide +kernel, by decide, by decide +kernel, by decide +kernel, by decide +kernel⟩
theorem imX6_restart : Cond.instanceMethod mX6_restart.1 ∈ zv_gw := zv_gt 496 (by decide +kernel) rfl
theorem seX6_restart : Cond.selects mX6_restart.1.cls mX6_restart.1 mX6_restart.1 ∈ zv_gw := zv_gt 497 (by decide +kernel) rfl
theorem mlX6_begunCount : zv_ML mX6_begunCount 0 := ⟨zv_gt 420 (by decide +kernel) rfl, zv_gt 2 (by decide +kernel) rfl, by decide +kernel, by decide, by decide +kernel, by decide +kernel, by decide +kernel⟩
theorem imX6_begunCount : Cond.instanceMethod mX6_begunCount.1 ∈ zv_gw := zv_gt 418 (by decide +kernel) rfl
theorem seX6_begunCount : Cond.selects mX6_begunCount.1.cls mX6_begunCount.1 mX6_begunCount.1 ∈ zv_gw := zv_gt 419 (by decide +kernel) rfl
theorem mlX6_begin : zv_ML mX6_begin 1 := ⟨zv_gt 512 (by decide +kernel) rfl, zv_gt 2 (by decide +kernel) rfl, by decide +kernel, by decide, by decide +kernel, by decide +kernel, by decide +kernel⟩
theorem imX6_begin : Cond.instanceMethod mX6_begin.1 ∈ zv_gw := zv_gt 510 (by decide +kernel) rfl
theorem seX6_begin : Cond.selects mX6_begin.1.cls mX6_begin.1 mX6_begin.1 ∈ zv_gw := zv_gt 511 (by decide +kernel) rfl
theorem mlX6_bodyAt : zv_ML mX6_bodyAt 1 := ⟨zv_gt 520 (by decide +kernel) rfl, zv_gt 2 (by decide +kernel) rfl, by decide +kernel, by decide, by decide +kernel, by decide +kernel, by decide +kernel⟩
theorem imX6_bodyAt : Cond.instanceMethod mX6_bodyAt.1 ∈ zv_gw := zv_gt 518 (by decide +kernel) rfl
theorem seX6_bodyAt : Cond.selects mX6_bodyAt.1.cls mX6_bodyAt.1 mX6_bodyAt.1 ∈ zv_gw := zv_gt 519 (by decide +kernel) rfl
theorem mlX7_init : zv_ML mX7_init 0 := ⟨zv_gt 16 (by decide +kernel) rfl, zv_gt 1 (by decide +kernel) rfl, by decide +kernel, by decide, by decide +kernel, by decide +kernel, by decide +kernel⟩
theorem imX7_init : Cond.instanceMethod mX7_init.1 ∈ zv_gw := zv_gt 15 (by decide +kernel) rfl
theorem mlX7_member : zv_ML mX7_member 0 := ⟨zv_gt 74 (by decide +kernel) rfl, zv_gt 1 (by decide +kernel) rfl, by decide +kernel, by decide, by decide +kernel, by decide +kernel, by decide +kernel⟩
theorem imX7_member : Cond.instanceMethod mX7_member.1 ∈ zv_gw := zv_gt 72 (by decide +kernel) rfl
theorem seX7_member : Cond.selects mX7_member.1.cls mX7_member.1 mX7_member.1 ∈ zv_gw := zv_gt 73 (by decide +kernel) rfl
theorem mlX7_circle : zv_ML mX7_circle 1 := ⟨zv_gt 149 (by decide +kernel) rfl, zv_gt 1 (by decide +kernel) rfl, by decide +kernel, by decide, by decide +kernel, by decide +kernel, by decide +kernel⟩
theorem imX7_circle : Cond.instanceMethod mX7_circle.1 ∈ zv_gw := zv_gt 147 (by decide +kernel) rfl
theorem seX7_circle : Cond.selects mX7_circle.1.cls mX7_circle.1 mX7_circle.1 ∈ zv_gw := zv_gt 148 (by decide +kernel) rfl
theorem mlX7_write : zv_ML mX7_write 3 := ⟨zv_gt 183 (by decide +kernel) rfl, zv_gt 1 (by decide +kernel) rfl, by decide +kernel, by decide, by decide +kernel, by decide +kernel, by decide +kernel⟩
theorem imX7_write : Cond.instanceMethod mX7_write.1 ∈ zv_gw := zv_gt 181 (by decide +kernel) rfl
theorem seX7_write : Cond.selects mX7_write.1.cls mX7_write.1 mX7_write.1 ∈ zv_gw := zv_gt 182 (by decide +kernel) rfl
theorem mlX7_reply : zv_ML mX7_reply 3 := ⟨zv_gt 388 (by decide +kernel) rfl, zv_gt 1 (by decide +kernel) rfl, by decide +kernel, by decide, by decide +kernel, by decide +kernel, by decide +kernel⟩
theorem imX7_reply : Cond.instanceMethod mX7_reply.1 ∈ zv_gw := zv_gt 386 (by decide +kernel) rfl
theorem seX7_reply : Cond.selects mX7_reply.1.cls mX7_reply.1 mX7_reply.1 ∈ zv_gw := zv_gt 387 (by decide +kernel) rfl
theorem mlX7_seal : zv_ML mX7_seal 3 := ⟨zv_gt 392 (by decide +kernel) rfl, zv_gt 1 (by decide +kernel) rfl, by decide +kernel, by decide, by decide +kernel, by decide +kernel, by decide +kernel⟩
theorem imX7_seal : Cond.instanceMethod mX7_seal.1 ∈ zv_gw := zv_gt 390 (by decide +kernel) rfl
theorem seX7_seal : Cond.selects mX7_seal.1.cls mX7_seal.1 mX7_seal.1 ∈ zv_gw := zv_gt 391 (by decide +kernel) rfl
theorem mlX7_deliver : zv_ML mX7_deliver 2 := ⟨zv_gt 396 (by decide +kernel) rfl, zv_gt 1 (by decide +kernel) rfl, by decide +kernel, by decide, by decide +kernel, by decide +kernel, by decide +kernel⟩
theorem imX7_deliver : Cond.instanceMethod mX7_deliver.1 ∈ zv_gw := zv_gt 394 (by decide +kernel) rfl
theorem seX7_deliver : Cond.selects mX7_deliver.1.cls mX7_deliver.1 mX7_deliver.1 ∈ zv_gw := zv_gt 395 (by decide +kernel) rfl
theorem mlX7_deliverAll : zv_ML mX7_deliverAll 2 := ⟨zv_gt 408 (by decide +kernel) rfl, zv_gt 1 (by decide +kernel) rfl, by decide +kernel, by decide, by decide +kernel, by decide +kernel, by decide +kernel⟩
theorem imX7_deliverAll : Cond.instanceMethod mX7_deliverAll.1 ∈ zv_gw := zv_gt 406 (by decide +kernel) rfl
theorem seX7_deliverAll : Cond.selects mX7_deliverAll.1.cls mX7_deliverAll.1 mX7_deliverAll.1 ∈ zv_gw := zv_gt 407 (by decide +kernel) rfl
theorem mlX7_count : zv_ML mX7_count 1 := ⟨zv_gt 416 (by decide +kernel) rfl, zv_gt 1 (by decide +kernel) rfl, by decide +kernel, by decide, by decide +kernel, by decide +kernel, by decide +kernel⟩
theorem imX7_count : Cond.instanceMethod mX7_count.1 ∈ zv_gw := zv_gt 414 (by decide +kernel) rfl
theorem seX7_count : Cond.selects mX7_count.1.cls mX7_count.1 mX7_count.1 ∈ zv_gw := zv_gt 415 (by decide +kernel) rfl
theorem mlX7_told : zv_ML mX7_told 2 := ⟨zv_gt 424 (by decide +kernel) rfl, zv_gt 1 (by decide +kernel) rfl, by decide +kernel, by decide, by decide +kernel, by decide +kernel, by decide +kernel⟩
theorem imX7_told : Cond.instanceMethod mX7_told.1 ∈ zv_gw := zv_gt 422 (by decide +kernel) rfl
theorem seX7_told : Cond.selects mX7_told.1.cls mX7_told.1 mX7_told.1 ∈ zv_gw := zv_gt 423 (by decide +kernel) rfl
theorem mlX7_circleTold : zv_ML mX7_circleTold 2 := ⟨zv_gt 428 (by decide +kernel) rfl, zv_gt 1 (by decide +kernel) rfl, by decide +kernel, by decide, by decide +kernel, by decide +kernel, by decide +kernel⟩
theorem imX7_circleTold : Cond.instanceMethod mX7_circleTold.1 ∈ zv_gw := zv_gt 426 (by decide +kernel) rfl
theorem seX7_circleTold : Cond.selects mX7_circleTold.1.cls mX7_circleTold.1 mX7_circleTold.1 ∈ zv_gw := zv_gt 427 (by decide +kernel) rfl
theorem mlX7_state : zv_ML mX7_state 2 := ⟨zv_gt 436 (by decide +kernel) rfl, zv_gt 1 (by decide +kernel) rfl, by decide +kernel, by decide, by decide +kernel, by decide +kernel, by decide +kernel⟩
theorem imX7_state : Cond.instanceMethod mX7_state.1 ∈ zv_gw := zv_gt 434 (by decide +kernel) rfl
theorem seX7_state : Cond.selects mX7_state.1.cls mX7_state.1 mX7_state.1 ∈ zv_gw := zv_gt 435 (by decide +kernel) rfl
theorem mlX7_given : zv_ML mX7_given 3 := ⟨zv_gt 444 (by decide +kernel) rfl, zv_gt 1 (by decide +kernel) rfl, by decide +kernel, by decide, by decide +kernel, by decide +kernel, by decide +kernel⟩
theorem imX7_given : Cond.instanceMethod mX7_given.1 ∈ zv_gw := zv_gt 442 (by decide +kernel) rfl
theorem seX7_given : Cond.selects mX7_given.1.cls mX7_given.1 mX7_given.1 ∈ zv_gw := zv_gt 443 (by decide +kernel) rfl
theorem mlX7_read : zv_ML mX7_read 2 := ⟨zv_gt 448 (by decide +kernel) rfl, zv_gt 1 (by decide +kernel) rfl, by decide +kernel, by decide, by decide +kernel, by decide +kernel, by decide +kernel⟩
theorem imX7_read : Cond.instanceMethod mX7_read.1 ∈ zv_gw := zv_gt 446 (by decide +kernel) rfl
theorem seX7_read : Cond.selects mX7_read.1.cls mX7_read.1 mX7_read.1 ∈ zv_gw := zv_gt 447 (by decide +kernel) rfl
theorem mlX7_why : zv_ML mX7_why 3 := ⟨zv_gt 452 (by decide +kernel) rfl, zv_gt 1 (by decide +kernel) rfl, by decide +kernel, by decide, by decide +kernel, by decide +kernel, by decide +kernel⟩
theorem imX7_why : Cond.instanceMethod mX7_why.1 ∈ zv_gw := zv_gt 450 (by decide +kernel) rfl
theorem seX7_why : Cond.selects mX7_why.1.cls mX7_why.1 mX7_why.1 ∈ zv_gw := zv_gt 451 (by decide +kernel) rfl
theorem mlX7_late : zv_ML mX7_late 1 := ⟨zv_gt 460 (by decide +kernel) rfl, zv_gt 1 (by decide +kernel) rfl, by decide +kernel, by decide, by decide +kernel, by decide +kernel, by decide +kernel⟩
theorem imX7_late : Cond.instanceMethod mX7_late.1 ∈ zv_gw := zv_gt 458 (by decide +kernel) rfl
theorem seX7_late : Cond.selects mX7_late.1.cls mX7_late.1 mX7_late.1 ∈ zv_gw := zv_gt 459 (by decide +kernel) rfl
theorem mlX7_behind : zv_ML mX7_behind 2 := ⟨zv_gt 464 (by decide +kernel) rfl, zv_gt 1 (by decide +kernel) rfl, by decide +kernel, by decide, by decide +kernel, by decide +kernel, by decide +kernel⟩
theorem imX7_behind : Cond.instanceMethod mX7_behind.1 ∈ zv_gw := zv_gt 462 (by decide +kernel) rfl
theorem seX7_behind : Cond.selects mX7_behind.1.cls mX7_behind.1 mX7_behind.1 ∈ zv_gw := zv_gt 463 (by decide +kernel) rfl
theorem mlX7_past : zv_ML mX7_past 1 := ⟨zv_gt 472 (by decide +kernel) rfl, zv_gt 1 (by decide +kernel) rfl, by decide +kernel, by decide, by decide +kernel, by decide +kernel, by decide +kernel⟩
theorem imX7_past : Cond.instanceMethod mX7_past.1 ∈ zv_gw := zv_gt 470 (by decide +kernel) rfl
theorem seX7_past : Cond.selects mX7_past.1.cls mX7_past.1 mX7_past.1 ∈ zv_gw := zv_gt 471 (by decide +kernel) rfl
theorem mlX7_chain : zv_ML mX7_chain 2 := ⟨zv_gt 486 (by decide +kernel) rfl, zv_gt 1 (by decide +kernel) rfl, by decide +kernel, by decide, by decide +kernel, by decide +kernel, by decide +kernel⟩
theorem imX7_chain : Cond.instanceMethod mX7_chain.1 ∈ zv_gw := zv_gt 484 (by decide +kernel) rfl
theorem seX7_chain : Cond.selects mX7_chain.1.cls mX7_chain.1 mX7_chain.1 ∈ zv_gw := zv_gt 485 (by decide +kernel) rfl
theorem mlX7_act : zv_ML mX7_act 3 := ⟨zv_gt 494 (by decide +kernel) rfl, zv_gt 1 (by decide +kernel) rfl, by decide +kernel, by decide, by decide +kernel, by decide +kernel, by decide +kernel⟩
theorem imX7_act : Cond.instanceMethod mX7_act.1 ∈ zv_gw := zv_gt 492 (by decide +kernel) rfl
theorem seX7_act : Cond.selects mX7_act.1.cls mX7_act.1 mX7_act.1 ∈ zv_gw := zv_gt 493 (by decide +kernel) rfl
theorem mlX7_trace : zv_ML mX7_trace 1 := ⟨zv_gt 516 (by decide +kernel) rfl, zv_gt 1 (by decide +kernel) rfl, by decide +kernel, by decide, by decide +kernel, by decide +kernel, by decide +kernel⟩
theorem imX7_trace : Cond.instanceMethod mX7_trace.1 ∈ zv_gw := zv_gt 514 (by decide +kernel) rfl
theorem seX7_trace : Cond.selects mX7_trace.1.cls mX7_trace.1 mX7_trace.1 ∈ zv_gw := zv_gt 515 (by decide +kernel) rfl
theorem mlX7_bare : zv_ML mX7_bare 3 := ⟨zv_gt 524 (by decide +kernel) rfl, zv_gt 1 (by decide +kernel) rfl, by decide +kernel, by decide, by decide +kernel, by decide +kernel, by decide +kernel⟩
theorem imX7_bare : Cond.instanceMethod mX7_bare.1 ∈ zv_gw := zv_gt 522 (by decide +kernel) rfl
theorem seX7_bare : Cond.selects mX7_bare.1.cls mX7_bare.1 mX7_bare.1 ∈ zv_gw := zv_gt 523 (by decide +kernel) rfl
theorem mlX7_slot : zv_ML mX7_slot 2 := ⟨zv_gt 531 (by decide +kernel) rfl, zv_gt 1 (by decide +kernel) rfl, by decide +kernel, by decide, by decide +kernel, by decide +kernel, by decide +kernel⟩
theorem imX7_slot : Cond.instanceMethod mX7_slot.1 ∈ zv_gw := zv_gt 529 (by decide +kernel) rfl
theorem seX7_slot : Cond.selects mX7_slot.1.cls mX7_slot.1 mX7_slot.1 ∈ zv_gw := zv_gt 530 (by decide +kernel) rfl
theorem mlX7_forge : zv_ML mX7_forge 4 := ⟨zv_gt 535 (by decide +kernel) rfl, zv_gt 1 (by decide +kernel) rfl, by decide +kernel, by decide, by decide +kernel, by decide +kernel, by decide +kernel⟩
theorem imX7_forge : Cond.instanceMethod mX7_forge.1 ∈ zv_gw := zv_gt 533 (by decide +kernel) rfl
theorem seX7_forge : Cond.selects mX7_forge.1.cls mX7_forge.1 mX7_forge.1 ∈ zv_gw := zv_gt 534 (by decide +kernel) rfl
theorem mlX7_status : zv_ML mX7_status 0 := ⟨zv_gt 579 (by decide +kernel) rfl, zv_gt 1 (by decide +kernel) rfl, by decide +kernel, by decide, by decide +kernel, by decide +kernel, by decide +kernel⟩
theorem imX7_status : Cond.instanceMethod mX7_status.1 ∈ zv_gw := zv_gt 577 (by decide +kernel) rfl
theorem seX7_status : Cond.selects mX7_status.1.cls mX7_status.1 mX7_status.1 ∈ zv_gw := zv_gt 578 (by decide +kernel) rfl
theorem mlX7_done : zv_ML mX7_done 1 := ⟨zv_gt 145 (by decide +kernel) rfl, zv_gt 1 (by decide +kernel) rfl, by decide +kernel, by decide, by decide +kernel, by decide +kernel, by decide +kernel⟩
theorem imX7_done : Cond.instanceMethod mX7_done.1 ∈ zv_gw := zv_gt 144 (by decide +kernel) rfl
theorem seX7_done : Cond.selects mX7_done.1.cls mX7_done.1 mX7_done.1 ∈ zv_gw := zv_gp 1 (by decide +kernel) rfl
theorem mlX7_refuse : zv_ML mX7_refuse 1 := ⟨zv_gt 78 (by decide +kernel) rfl, zv_gt 1 (by decide +kernel) rfl, by decide +kernel, by decide, by decide +kernel, by decide +kernel, by decide +kernel⟩
theorem imX7_refuse : Cond.instanceMethod mX7_refuse.1 ∈ zv_gw := zv_gt 77 (by decide +kernel) rfl
theorem seX7_refuse : Cond.selects mX7_refuse.1.cls mX7_refuse.1 mX7_refuse.1 ∈ zv_gw := zv_gp 0 (by decide +kernel) rfl
theorem mlX7_isMember : zv_ML mX7_isMember 1 := ⟨zv_gt 191 (by decide +kernel) rfl, zv_gt 1 (by decide +kernel) rfl, by decide +kernel, by decide, by decide +kernel, by decide +kernel, by decide +kernel⟩
theorem imX7_isMember : Cond.instanceMethod mX7_isMember.1 ∈ zv_gw := zv_gt 190 (by decide +kernel) rfl
theorem seX7_isMember : Cond.selects mX7_isMember.1.cls mX7_isMember.1 mX7_isMember.1 ∈ zv_gw := zv_gp 3 (by decide +kernel) rfl
theorem mlX7_isCircle : zv_ML mX7_isCircle 1 := ⟨zv_gt 195 (by decide +kernel) rfl, zv_gt 1 (by decide +kernel) rfl, by decide +kernel, by decide, by decide +kernel, by decide +kernel, by decide +kernel⟩
theorem imX7_isCircle : Cond.instanceMethod mX7_isCircle.1 ∈ zv_gw := zv_gt 194 (by decide +kernel) rfl
theorem seX7_isCircle : Cond.selects mX7_isCircle.1.cls mX7_isCircle.1 mX7_isCircle.1 ∈ zv_gw := zv_gp 4 (by decide +kernel) rfl
theorem mlX7_isLetter : zv_ML mX7_isLetter 1 := ⟨zv_gt 203 (by decide +kernel) rfl, zv_gt 1 (by decide +kernel) rfl, by decide +kernel, by decide, by decide +kernel, by decide +kernel, by decide +kernel⟩
theorem imX7_isLetter : Cond.instanceMethod mX7_isLetter.1 ∈ zv_gw := zv_gt 202 (by decide +kernel) rfl
theorem seX7_isLetter : Cond.selects mX7_isLetter.1.cls mX7_isLetter.1 mX7_isLetter.1 ∈ zv_gw := zv_gp 6 (by decide +kernel) rfl
theorem mlX7_isSlot : zv_ML mX7_isSlot 1 := ⟨zv_gt 527 (by decide +kernel) rfl, zv_gt 1 (by decide +kernel) rfl, by decide +kernel, by decide, by decide +kernel, by decide +kernel, by decide +kernel⟩
theorem smX7_isSlot : Cond.static mX7_isSlot.1 ∈ zv_gw := zv_gt 526 (by decide +kernel) rfl
theorem mlX7_hasBit : zv_ML mX7_hasBit 2 := ⟨zv_gt 162 (by decide +kernel) rfl, zv_gt 1 (by decide +kernel) rfl, by decide +kernel, by decide, by decide +kernel, by decide +kernel, by decide +kernel⟩
theorem smX7_hasBit : Cond.static mX7_hasBit.1 ∈ zv_gw := zv_gt 161 (by decide +kernel) rfl
theorem mlX7_lowestMember : zv_ML mX7_lowestMember 1 := ⟨zv_gt 159 (by decide +kernel) rfl, zv_gt 1 (by decide +kernel) rfl, by decide +kernel, by decide, by decide +kernel, by decide +kernel, by decide +kernel⟩
theorem smX7_lowestMember : Cond.static mX7_lowestMember.1 ∈ zv_gw := zv_gt 158 (by decide +kernel) rfl
theorem mlX7_writeByCall : zv_ML mX7_writeByCall 4 := ⟨zv_gt 187 (by decide +kernel) rfl, zv_gt 1 (by decide +kernel) rfl, by decide +kernel, by decide, by decide +kernel, by decide +kernel, by decide +kernel⟩
theorem imX7_writeByCall : Cond.instanceMethod mX7_writeByCall.1 ∈ zv_gw := zv_gt 186 (by decide +kernel) rfl
theorem seX7_writeByCall : Cond.selects mX7_writeByCall.1.cls mX7_writeByCall.1 mX7_writeByCall.1 ∈ zv_gw := zv_gp 2 (by decide +kernel) rfl
theorem mlX7_mayAnswer : zv_ML mX7_mayAnswer 2 := ⟨zv_gt 199 (by decide +kernel) rfl, zv_gt 1 (by decide +kernel) rfl, by decide +kernel, by decide, by decide +kernel, by decide +kernel, by decide +kernel⟩
theorem imX7_mayAnswer : Cond.instanceMethod mX7_mayAnswer.1 ∈ zv_gw := zv_gt 198 (by decide +kernel) rfl
theorem seX7_mayAnswer : Cond.selects mX7_mayAnswer.1.cls mX7_mayAnswer.1 mX7_mayAnswer.1 ∈ zv_gw := zv_gp 5 (by decide +kernel) rfl
theorem mlX7_clockNow : zv_ML mX7_clockNow 1 := ⟨zv_gt 216 (by decide +kernel) rfl, zv_gt 1 (by decide +kernel) rfl, by decide +kernel, by decide, by decide +kernel, by decide +kernel, by decide +kernel⟩
theorem imX7_clockNow : Cond.instanceMethod mX7_clockNow.1 ∈ zv_gw := zv_gt 215 (by decide +kernel) rfl
theorem seX7_clockNow : Cond.selects mX7_clockNow.1.cls mX7_clockNow.1 mX7_clockNow.1 ∈ zv_gw := zv_gp 7 (by decide +kernel) rfl
theorem mlX7_send : zv_ML mX7_send 1 := ⟨zv_gt 318 (by decide +kernel) rfl, zv_gt 1 (by decide +kernel) rfl, by decide +kernel, by decide, by decide +kernel, by decide +kernel, by decide +kernel⟩
theorem imX7_send : Cond.instanceMethod mX7_send.1 ∈ zv_gw := zv_gt 317 (by decide +kernel) rfl
theorem seX7_send : Cond.selects mX7_send.1.cls mX7_send.1 mX7_send.1 ∈ zv_gw := zv_gp 8 (by decide +kernel) rfl
theorem mlX7_bring : zv_ML mX7_bring 2 := ⟨zv_gt 404 (by decide +kernel) rfl, zv_gt 1 (by decide +kernel) rfl, by decide +kernel, by decide, by decide +kernel, by decide +kernel, by decide +kernel⟩
theorem imX7_bring : Cond.instanceMethod mX7_bring.1 ∈ zv_gw := zv_gt 403 (by decide +kernel) rfl
theorem seX7_bring : Cond.selects mX7_bring.1.cls mX7_bring.1 mX7_bring.1 ∈ zv_gw := zv_gp 19 (by decide +kernel) rfl
theorem mlX7_nextOnLine : zv_ML mX7_nextOnLine 2 := ⟨zv_gt 412 (by decide +kernel) rfl, zv_gt 1 (by decide +kernel) rfl, by decide +kernel, by decide, by decide +kernel, by decide +kernel, by decide +kernel⟩
theorem imX7_nextOnLine : Cond.instanceMethod mX7_nextOnLine.1 ∈ zv_gw := zv_gt 411 (by decide +kernel) rfl
theorem seX7_nextOnLine : Cond.selects mX7_nextOnLine.1.cls mX7_nextOnLine.1 mX7_nextOnLine.1 ∈ zv_gw := zv_gp 20 (by decide +kernel) rfl
theorem mlX7_giveAll : zv_ML mX7_giveAll 1 := ⟨zv_gt 338 (by decide +kernel) rfl, zv_gt 1 (by decide +kernel) rfl, by decide +kernel, by decide, by decide +kernel, by decide +kernel, by decide +kernel⟩
theorem imX7_giveAll : Cond.instanceMethod mX7_giveAll.1 ∈ zv_gw := zv_gt 337 (by decide +kernel) rfl
theorem seX7_giveAll : Cond.selects mX7_giveAll.1.cls mX7_giveAll.1 mX7_giveAll.1 ∈ zv_gw := zv_gp 10 (by decide +kernel) rfl
theorem mlX7_canGive : zv_ML mX7_canGive 2 := ⟨zv_gt 342 (by decide +kernel) rfl, zv_gt 1 (by decide +kernel) rfl, by decide +kernel, by decide, by decide +kernel, by decide +kernel, by decide +kernel⟩
theorem imX7_canGive : Cond.instanceMethod mX7_canGive.1 ∈ zv_gw := zv_gt 341 (by decide +kernel) rfl
theorem seX7_canGive : Cond.selects mX7_canGive.1.cls mX7_canGive.1 mX7_canGive.1 ∈ zv_gw := zv_gp 11 (by decide +kernel) rfl
theorem mlX7_firstLack : zv_ML mX7_firstLack 2 := ⟨zv_gt 346 (by decide +kernel) rfl, zv_gt 1 (by decide +kernel) rfl, by decide +kernel, by decide, by decide +kernel, by decide +kernel, by decide +kernel⟩
theorem imX7_firstLack : Cond.instanceMethod mX7_firstLack.1 ∈ zv_gw := zv_gt 345 (by decide +kernel) rfl
theorem seX7_firstLack : Cond.selects mX7_firstLack.1.cls mX7_firstLack.1 mX7_firstLack.1 ∈ zv_gw := zv_gp 12 (by decide +kernel) rfl
theorem mlX7_firstLackIn : zv_ML mX7_firstLackIn 3 := ⟨zv_gt 354 (by decide +kernel) rfl, zv_gt 1 (by decide +kernel) rfl, by decide +kernel, by decide, by decide +kernel, by decide +kernel, by decide +kernel⟩
theorem imX7_firstLackIn : Cond.instanceMethod mX7_firstLackIn.1 ∈ zv_gw := zv_gt 353 (by decide +kernel) rfl
theorem seX7_firstLackIn : Cond.selects mX7_firstLackIn.1.cls mX7_firstLackIn.1 mX7_firstLackIn.1 ∈ zv_gw := zv_gp 13 (by decide +kernel) rfl
theorem mlX7_lacksOrder : zv_ML mX7_lacksOrder 2 := ⟨zv_gt 362 (by decide +kernel) rfl, zv_gt 1 (by decide +kernel) rfl, by decide +kernel, by decide, by decide +kernel, by decide +kernel, by decide +kernel⟩
theorem imX7_lacksOrder : Cond.instanceMethod mX7_lacksOrder.1 ∈ zv_gw := zv_gt 361 (by decide +kernel) rfl
theorem seX7_lacksOrder : Cond.selects mX7_lacksOrder.1.cls mX7_lacksOrder.1 mX7_lacksOrder.1 ∈ zv_gw := zv_gp 14 (by decide +kernel) rfl
theorem mlX7_lacksLowerPlace : zv_ML mX7_lacksLowerPlace 2 := ⟨zv_gt 366 (by decide +kernel) rfl, zv_gt 1 (by decide +kernel) rfl, by decide +kernel, by decide, by decide +kernel, by decide +kernel, by decide +kernel⟩
theorem imX7_lacksLowerPlace : Cond.instanceMethod mX7_lacksLowerPlace.1 ∈ zv_gw := zv_gt 365 (by decide +kernel) rfl
theorem seX7_lacksLowerPlace : Cond.selects mX7_lacksLowerPlace.1.cls mX7_lacksLowerPlace.1 mX7_lacksLowerPlace.1 ∈ zv_gw := zv_gp 15 (by decide +kernel) rfl
theorem mlX7_whySealed : zv_ML mX7_whySealed 3 := ⟨zv_gt 456 (by decide +kernel) rfl, zv_gt 1 (by decide +kernel) rfl, by decide +kernel, by decide, by decide +kernel, by decide +kernel, by decide +kernel⟩
theorem imX7_whySealed : Cond.instanceMethod mX7_whySealed.1 ∈ zv_gw := zv_gt 455 (by decide +kernel) rfl
theorem seX7_whySealed : Cond.selects mX7_whySealed.1.cls mX7_whySealed.1 mX7_whySealed.1 ∈ zv_gw := zv_gp 23 (by decide +kernel) rfl
theorem mlX7_writeOrderIfDue : zv_ML mX7_writeOrderIfDue 2 := ⟨zv_gt 384 (by decide +kernel) rfl, zv_gt 1 (by decide +kernel) rfl, by decide +kernel, by decide, by decide +kernel, by decide +kernel, by decide +kernel⟩
theorem imX7_writeOrderIfDue : Cond.instanceMethod mX7_writeOrderIfDue.1 ∈ zv_gw := zv_gt 383 (by decide +kernel) rfl
theorem seX7_writeOrderIfDue : Cond.selects mX7_writeOrderIfDue.1.cls mX7_writeOrderIfDue.1 mX7_writeOrderIfDue.1 ∈ zv_gw := zv_gp 18 (by decide +kernel) rfl
theorem mlX7_standing : zv_ML mX7_standing 2 := ⟨zv_gt 440 (by decide +kernel) rfl, zv_gt 1 (by decide +kernel) rfl, by decide +kernel, by decide, by decide +kernel, by decide +kernel, by decide +kernel⟩
theorem imX7_standing : Cond.instanceMethod mX7_standing.1 ∈ zv_gw := zv_gt 439 (by decide +kernel) rfl
theorem seX7_standing : Cond.selects mX7_standing.1.cls mX7_standing.1 mX7_standing.1 ∈ zv_gw := zv_gp 22 (by decide +kernel) rfl
theorem mlX7_isCalm : zv_ML mX7_isCalm 1 := ⟨zv_gt 432 (by decide +kernel) rfl, zv_gt 1 (by decide +kernel) rfl, by decide +kernel, by decide, by decide +kernel, by decide +kernel, by decide +kernel⟩
theorem imX7_isCalm : Cond.instanceMethod mX7_isCalm.1 ∈ zv_gw := zv_gt 431 (by decide +kernel) rfl
theorem seX7_isCalm : Cond.selects mX7_isCalm.1.cls mX7_isCalm.1 mX7_isCalm.1 ∈ zv_gw := zv_gp 21 (by decide +kernel) rfl
theorem mlX7_longestRowTo : zv_ML mX7_longestRowTo 2 := ⟨zv_gt 490 (by decide +kernel) rfl, zv_gt 1 (by decide +kernel) rfl, by decide +kernel, by decide, by decide +kernel, by decide +kernel, by decide +kernel⟩
theorem imX7_longestRowTo : Cond.instanceMethod mX7_longestRowTo.1 ∈ zv_gw := zv_gt 489 (by decide +kernel) rfl
theorem seX7_longestRowTo : Cond.selects mX7_longestRowTo.1.cls mX7_longestRowTo.1 mX7_longestRowTo.1 ∈ zv_gw := zv_gp 24 (by decide +kernel) rfl
theorem mlX7_perform : zv_ML mX7_perform 6 := ⟨zv_gt 501 (by decide +kernel) rfl, zv_gt 1 (by decide +kernel) rfl, by decide +kernel, by decide, by decide +kernel, by decide +kernel, by decide +kernel⟩
theorem smX7_perform : Cond.static mX7_perform.1 ∈ zv_gw := zv_gt 500 (by decide +kernel) rfl
theorem mlX7_kindWithBody : zv_ML mX7_kindWithBody 2 := ⟨zv_gt 504 (by decide +kernel) rfl, zv_gt 1 (by decide +kernel) rfl, by decide +kernel, by decide, by decide +kernel, by decide +kernel, by decide +kernel⟩
theorem smX7_kindWithBody : Cond.static mX7_kindWithBody.1 ∈ zv_gw := zv_gt 503 (by decide +kernel) rfl
theorem mlX7_isKindOrUnder : zv_ML mX7_isKindOrUnder 2 := ⟨zv_gt 545 (by decide +kernel) rfl, zv_gt 1 (by decide +kernel) rfl, by decide +kernel, by decide, by decide +kernel, by decide +kernel, by decide +kernel⟩
theorem smX7_isKindOrUnder : Cond.static mX7_isKindOrUnder.1 ∈ zv_gw := zv_gt 544 (by decide +kernel) rfl
theorem mlX7_forgeSerial : zv_ML mX7_forgeSerial 2 := ⟨zv_gt 539 (by decide +kernel) rfl, zv_gt 1 (by decide +kernel) rfl, by decide +kernel, by decide, by decide +kernel, by decide +kernel, by decide +kernel⟩
theorem imX7_forgeSerial : Cond.instanceMethod mX7_forgeSerial.1 ∈ zv_gw := zv_gt 538 (by decide +kernel) rfl
theorem seX7_forgeSerial : Cond.selects mX7_forgeSerial.1.cls mX7_forgeSerial.1 mX7_forgeSerial.1 ∈ zv_gw := zv_gp 25 (by decide +kernel) rfl
theorem mlX7_forgeCount : zv_ML mX7_forgeCount 2 := ⟨zv_gt 549 (by decide +kernel) rfl, zv_gt 1 (by decide +kernel) rfl, by decide +kernel, by decide, by decide +kernel, by decide +kernel, by decide +kernel⟩
theorem imX7_forgeCount : Cond.instanceMethod mX7_forgeCount.1 ∈ zv_gw := zv_gt 548 (by decide +kernel) rfl
theorem seX7_forgeCount : Cond.selects mX7_forgeCount.1.cls mX7_forgeCount.1 mX7_forgeCount.1 ∈ zv_gw := zv_gp 26 (by decide +kernel) rfl
theorem mlX7_forgeRowSum : zv_ML mX7_forgeRowSum 2 := ⟨zv_gt 564 (by decide +kernel) rfl, zv_gt 1 (by decide +kernel) rfl, by decide +kernel, by decide, by decide +kernel, by decide +kernel, by decide +kernel⟩
theorem imX7_forgeRowSum : Cond.instanceMethod mX7_forgeRowSum.1 ∈ zv_gw := zv_gt 563 (by decide +kernel) rfl
theorem seX7_forgeRowSum : Cond.selects mX7_forgeRowSum.1.cls mX7_forgeRowSum.1 mX7_forgeRowSum.1 ∈ zv_gw := zv_gp 28 (by decide +kernel) rfl
theorem mlX7_forgeCopy : zv_ML mX7_forgeCopy 2 := ⟨zv_gt 571 (by decide +kernel) rfl, zv_gt 1 (by decide +kernel) rfl, by decide +kernel, by decide, by decide +kernel, by decide +kernel, by decide +kernel⟩
theorem imX7_forgeCopy : Cond.instanceMethod mX7_forgeCopy.1 ∈ zv_gw := zv_gt 570 (by decide +kernel) rfl
theorem seX7_forgeCopy : Cond.selects mX7_forgeCopy.1.cls mX7_forgeCopy.1 mX7_forgeCopy.1 ∈ zv_gw := zv_gp 29 (by decide +kernel) rfl
theorem mlX7_forgeStore : zv_ML mX7_forgeStore 1 := ⟨zv_gt 575 (by decide +kernel) rfl, zv_gt 1 (by decide +kernel) rfl, by decide +kernel, by decide, by decide +kernel, by decide +kernel, by decide +kernel⟩
theorem imX7_forgeStore : Cond.instanceMethod mX7_forgeStore.1 ∈ zv_gw := zv_gt 574 (by decide +kernel) rfl
theorem seX7_forgeStore : Cond.selects mX7_forgeStore.1.cls mX7_forgeStore.1 mX7_forgeStore.1 ∈ zv_gw := zv_gp 30 (by decide +kernel) rfl
theorem mlX7_refuseAsClock : zv_ML mX7_refuseAsClock 1 := ⟨zv_gt 560 (by decide +kernel) rfl, zv_gt 1 (by decide +kernel) rfl, by decide +kernel, by decide, by decide +kernel, by decide +kernel, by decide +kernel⟩
theorem imX7_refuseAsClock : Cond.instanceMethod mX7_refuseAsClock.1 ∈ zv_gw := zv_gt 559 (by decide +kernel) rfl
theorem seX7_refuseAsClock : Cond.selects mX7_refuseAsClock.1.cls mX7_refuseAsClock.1 mX7_refuseAsClock.1 ∈ zv_gw := zv_gp 27 (by decide +kernel) rfl
theorem mlX7_firstRowOf : zv_ML mX7_firstRowOf 1 := ⟨zv_gt 552 (by decide +kernel) rfl, zv_gt 1 (by decide +kernel) rfl, by decide +kernel, by decide, by decide +kernel, by decide +kernel, by decide +kernel⟩
theorem smX7_firstRowOf : Cond.static mX7_firstRowOf.1 ∈ zv_gw := zv_gt 551 (by decide +kernel) rfl
theorem mlX7_sum : zv_ML mX7_sum 3 := ⟨zv_gt 567 (by decide +kernel) rfl, zv_gt 1 (by decide +kernel) rfl, by decide +kernel, by decide, by decide +kernel, by decide +kernel, by decide +kernel⟩
theorem smX7_sum : Cond.static mX7_sum.1 ∈ zv_gw := zv_gt 566 (by decide +kernel) rfl
theorem mlX8_init : zv_ML mX8_init 0 := ⟨zv_gt 584 (by decide +kernel) rfl, zv_gt 3 (by decide +kernel) rfl, by decide +kernel, by decide, by decide +kernel, by decide +kernel, by decide +kernel⟩
theorem imX8_init : Cond.instanceMethod mX8_init.1 ∈ zv_gw := zv_gt 583 (by decide +kernel) rfl
theorem mlX8_in : zv_ML mX8_in 3 := ⟨zv_gt 703 (by decide +kernel) rfl, zv_gt 3 (by decide +kernel) rfl, by decide +kernel, by decide, by decide +kernel, by decide +kernel, by decide +kernel⟩
theorem smX8_in : Cond.static mX8_in.1 ∈ zv_gw := zv_gt 702 (by decide +kernel) rfl
theorem mlX8_isMember : zv_ML mX8_isMember 1 := ⟨zv_gt 700 (by decide +kernel) rfl, zv_gt 3 (by decide +kernel) rfl, by decide +kernel, by decide, by decide +kernel, by decide +kernel, by decide +kernel⟩
theorem imX8_isMember : Cond.instanceMethod mX8_isMember.1 ∈ zv_gw := zv_gt 699 (by decide +kernel) rfl
theorem seX8_isMember : Cond.selects mX8_isMember.1.cls mX8_isMember.1 mX8_isMember.1 ∈ zv_gw := zv_gp 34 (by decide +kernel) rfl
theorem mlX8_isCircle : zv_ML mX8_isCircle 1 := ⟨zv_gt 707 (by decide +kernel) rfl, zv_gt 3 (by decide +kernel) rfl, by decide +kernel, by decide, by decide +kernel, by decide +kernel, by decide +kernel⟩
theorem imX8_isCircle : Cond.instanceMethod mX8_isCircle.1 ∈ zv_gw := zv_gt 706 (by decide +kernel) rfl
theorem seX8_isCircle : Cond.selects mX8_isCircle.1.cls mX8_isCircle.1 mX8_isCircle.1 ∈ zv_gw := zv_gp 35 (by decide +kernel) rfl
theorem mlX8_isLetter : zv_ML mX8_isLetter 1 := ⟨zv_gt 771 (by decide +kernel) rfl, zv_gt 3 (by decide +kernel) rfl, by decide +kernel, by decide, by decide +kernel, by decide +kernel, by decide +kernel⟩
theorem imX8_isLetter : Cond.instanceMethod mX8_isLetter.1 ∈ zv_gw := zv_gt 770 (by decide +kernel) rfl
theorem seX8_isLetter : Cond.selects mX8_isLetter.1.cls mX8_isLetter.1 mX8_isLetter.1 ∈ zv_gw := zv_gp 50 (by decide +kernel) rfl
theorem mlX8_isIn : zv_ML mX8_isIn 2 := ⟨zv_gt 711 (by decide +kernel) rfl, zv_gt 3 (by decide +kernel) rfl, by decide +kernel, by decide, by decide +kernel, by decide +kernel, by decide +kernel⟩
theorem imX8_isIn : Cond.instanceMethod mX8_isIn.1 ∈ zv_gw := zv_gt 710 (by decide +kernel) rfl
theorem seX8_isIn : Cond.selects mX8_isIn.1.cls mX8_isIn.1 mX8_isIn.1 ∈ zv_gw := zv_gp 36 (by decide +kernel) rfl
theorem mlX8_eldest : zv_ML mX8_eldest 1 := ⟨zv_gt 751 (by decide +kernel) rfl, zv_gt 3 (by decide +kernel) rfl, by decide +kernel, by decide, by decide +kernel, by decide +kernel, by decide +kernel⟩
theorem imX8_eldest : Cond.instanceMethod mX8_eldest.1 ∈ zv_gw := zv_gt 750 (by decide +kernel) rfl
theorem seX8_eldest : Cond.selects mX8_eldest.1.cls mX8_eldest.1 mX8_eldest.1 ∈ zv_gw := zv_gp 46 (by decide +kernel) rfl
theorem mlX8_above : zv_ML mX8_above 1 := ⟨zv_gt 913 (by decide +kernel) rfl, zv_gt 3 (by decide +kernel) rfl, by decide +kernel, by decide, by decide +kernel, by decide +kernel, by decide +kernel⟩
theorem smX8_above : Cond.static mX8_above.1 ∈ zv_gw := zv_gt 912 (by decide +kernel) rfl
theorem mlX8_isOf : zv_ML mX8_isOf 2 := ⟨zv_gt 910 (by decide +kernel) rfl, zv_gt 3 (by decide +kernel) rfl, by decide +kernel, by decide, by decide +kernel, by decide +kernel, by decide +kernel⟩
theorem smX8_isOf : Cond.static mX8_isOf.1 ∈ zv_gw := zv_gt 909 (by decide +kernel) rfl
theorem mlX8_refused : zv_ML mX8_refused 1 := ⟨zv_gt 680 (by decide +kernel) rfl, zv_gt 3 (by decide +kernel) rfl, by decide +kernel, by decide, by decide +kernel, by decide +kernel, by decide +kernel⟩
theorem imX8_refused : Cond.instanceMethod mX8_refused.1 ∈ zv_gw := zv_gt 679 (by decide +kernel) rfl
theorem seX8_refused : Cond.selects mX8_refused.1.cls mX8_refused.1 mX8_refused.1 ∈ zv_gw := zv_gp 31 (by decide +kernel) rfl
theorem mlX8_done : zv_ML mX8_done 1 := ⟨zv_gt 684 (by decide +kernel) rfl, zv_gt 3 (by decide +kernel) rfl, by decide +kernel, by decide, by decide +kernel, by decide +kernel, by decide +kernel⟩
theorem imX8_done : Cond.instanceMethod mX8_done.1 ∈ zv_gw := zv_gt 683 (by decide +kernel) rfl
theorem seX8_done : Cond.selects mX8_done.1.cls mX8_done.1 mX8_done.1 ∈ zv_gw := zv_gp 32 (by decide +kernel) rfl
theorem mlX8_member : zv_ML mX8_member 0 := ⟨zv_gt 676 (by decide +kernel) rfl, zv_gt 3 (by decide +kernel) rfl, by decide +kernel, by decide, by decide +kernel, by decide +kernel, by decide +kernel⟩
theorem imX8_member : Cond.instanceMethod mX8_member.1 ∈ zv_gw := zv_gt 674 (by decide +kernel) rfl
theorem seX8_member : Cond.selects mX8_member.1.cls mX8_member.1 mX8_member.1 ∈ zv_gw := zv_gt 675 (by decide +kernel) rfl
theorem mlX8_circle : zv_ML mX8_circle 1 := ⟨zv_gt 688 (by decide +kernel) rfl, zv_gt 3 (by decide +kernel) rfl, by decide +kernel, by decide, by decide +kernel, by decide +kernel, by decide +kernel⟩
theorem imX8_circle : Cond.instanceMethod mX8_circle.1 ∈ zv_gw := zv_gt 686 (by decide +kernel) rfl
theorem seX8_circle : Cond.selects mX8_circle.1.cls mX8_circle.1 mX8_circle.1 ∈ zv_gw := zv_gt 687 (by decide +kernel) rfl
theorem mlX8_made : zv_ML mX8_made 4 := ⟨zv_gt 715 (by decide +kernel) rfl, zv_gt 3 (by decide +kernel) rfl, by decide +kernel, by decide, by decide +kernel, by decide +kernel, by decide +kernel⟩
theorem imX8_made : Cond.instanceMethod mX8_made.1 ∈ zv_gw := zv_gt 714 (by decide +kernel) rfl
theorem seX8_made : Cond.selects mX8_made.1.cls mX8_made.1 mX8_made.1 ∈ zv_gw := zv_gp 37 (by decide +kernel) rfl
theorem mlX8_goes : zv_ML mX8_goes 1 := ⟨zv_gt 723 (by decide +kernel) rfl, zv_gt 3 (by decide +kernel) rfl, by decide +kernel, by decide, by decide +kernel, by decide +kernel, by decide +kernel⟩
theorem imX8_goes : Cond.instanceMethod mX8_goes.1 ∈ zv_gw := zv_gt 722 (by decide +kernel) rfl
theorem seX8_goes : Cond.selects mX8_goes.1.cls mX8_goes.1 mX8_goes.1 ∈ zv_gw := zv_gp 39 (by decide +kernel) rfl
theorem mlX8_holds : zv_ML mX8_holds 2 := ⟨zv_gt 727 (by decide +kernel) rfl, zv_gt 3 (by decide +kernel) rfl, by decide +kernel, by decide, by decide +kernel, by decide +kernel, by decide +kernel⟩
theorem imX8_holds : Cond.instanceMethod mX8_holds.1 ∈ zv_gw := zv_gt 726 (by decide +kernel) rfl
theorem seX8_holds : Cond.selects mX8_holds.1.cls mX8_holds.1 mX8_holds.1 ∈ zv_gw := zv_gp 40 (by decide +kernel) rfl
theorem mlX8_counts : zv_ML mX8_counts 3 := ⟨zv_gt 719 (by decide +kernel) rfl, zv_gt 3 (by decide +kernel) rfl, by decide +kernel, by decide, by decide +kernel, by decide +kernel, by decide +kernel⟩
theorem imX8_counts : Cond.instanceMethod mX8_counts.1 ∈ zv_gw := zv_gt 718 (by decide +kernel) rfl
theorem seX8_counts : Cond.selects mX8_counts.1.cls mX8_counts.1 mX8_counts.1 ∈ zv_gw := zv_gp 38 (by decide +kernel) rfl
theorem mlX8_call : zv_ML mX8_call 5 := ⟨zv_gt 696 (by decide +kernel) rfl, zv_gt 3 (by decide +kernel) rfl, by decide +kernel, by decide, by decide +kernel, by decide +kernel, by decide +kernel⟩
theorem imX8_call : Cond.instanceMethod mX8_call.1 ∈ zv_gw := zv_gt 695 (by decide +kernel) rfl
theorem seX8_call : Cond.selects mX8_call.1.cls mX8_call.1 mX8_call.1 ∈ zv_gw := zv_gp 33 (by decide +kernel) rfl
theorem mlX8_write : zv_ML mX8_write 3 := ⟨zv_gt 692 (by decide +kernel) rfl, zv_gt 3 (by decide +kernel) rfl, by decide +kernel, by decide, by decide +kernel, by decide +kernel, by decide +kernel⟩
theorem imX8_write : Cond.instanceMethod mX8_write.1 ∈ zv_gw := zv_gt 690 (by decide +kernel) rfl
theorem seX8_write : Cond.selects mX8_write.1.cls mX8_write.1 mX8_write.1 ∈ zv_gw := zv_gt 691 (by decide +kernel) rfl
theorem mlX8_reply : zv_ML mX8_reply 3 := ⟨zv_gt 767 (by decide +kernel) rfl, zv_gt 3 (by decide +kernel) rfl, by decide +kernel, by decide, by decide +kernel, by decide +kernel, by decide +kernel⟩
theorem imX8_reply : Cond.instanceMethod mX8_reply.1 ∈ zv_gw := zv_gt 765 (by decide +kernel) rfl
theorem seX8_reply : Cond.selects mX8_reply.1.cls mX8_reply.1 mX8_reply.1 ∈ zv_gw := zv_gt 766 (by decide +kernel) rfl
theorem mlX8_seal : zv_ML mX8_seal 3 := ⟨zv_gt 775 (by decide +kernel) rfl, zv_gt 3 (by decide +kernel) rfl, by decide +kernel, by decide, by decide +kernel, by decide +kernel, by decide +kernel⟩
theorem imX8_seal : Cond.instanceMethod mX8_seal.1 ∈ zv_gw := zv_gt 773 (by decide +kernel) rfl
theorem seX8_seal : Cond.selects mX8_seal.1.cls mX8_seal.1 mX8_seal.1 ∈ zv_gw := zv_gt 774 (by decide +kernel) rfl
theorem mlX8_lacks : zv_ML mX8_lacks 4 := ⟨zv_gt 747 (by decide +kernel) rfl, zv_gt 3 (by decide +kernel) rfl, by decide +kernel, by decide, by decide +kernel, by decide +kernel, by decide +kernel⟩
theorem imX8_lacks : Cond.instanceMethod mX8_lacks.1 ∈ zv_gw := zv_gt 746 (by decide +kernel) rfl
theorem seX8_lacks : Cond.selects mX8_lacks.1.cls mX8_lacks.1 mX8_lacks.1 ∈ zv_gw := zv_gp 45 (by decide +kernel) rfl
theorem mlX8_lacking : zv_ML mX8_lacking 2 := ⟨zv_gt 743 (by decide +kernel) rfl, zv_gt 3 (by decide +kernel) rfl, by decide +kernel, by decide, by decide +kernel, by decide +kernel, by decide +kernel⟩
theorem imX8_lacking : Cond.instanceMethod mX8_lacking.1 ∈ zv_gw := zv_gt 742 (by decide +kernel) rfl
theorem seX8_lacking : Cond.selects mX8_lacking.1.cls mX8_lacking.1 mX8_lacking.1 ∈ zv_gw := zv_gp 44 (by decide +kernel) rfl
theorem mlX8_hasOrder : zv_ML mX8_hasOrder 2 := ⟨zv_gt 755 (by decide +kernel) rfl, zv_gt 3 (by decide +kernel) rfl, by decide +kernel, by decide, by decide +kernel, by decide +kernel, by decide +kernel⟩
theorem imX8_hasOrder : Cond.instanceMethod mX8_hasOrder.1 ∈ zv_gw := zv_gt 754 (by decide +kernel) rfl
theorem seX8_hasOrder : Cond.selects mX8_hasOrder.1.cls mX8_hasOrder.1 mX8_hasOrder.1 ∈ zv_gw := zv_gp 47 (by decide +kernel) rfl
theorem mlX8_hasLower : zv_ML mX8_hasLower 2 := ⟨zv_gt 759 (by decide +kernel) rfl, zv_gt 3 (by decide +kernel) rfl, by decide +kernel, by decide, by decide +kernel, by decide +kernel, by decide +kernel⟩
theorem imX8_hasLower : Cond.instanceMethod mX8_hasLower.1 ∈ zv_gw := zv_gt 758 (by decide +kernel) rfl
theorem seX8_hasLower : Cond.selects mX8_hasLower.1.cls mX8_hasLower.1 mX8_hasLower.1 ∈ zv_gw := zv_gp 48 (by decide +kernel) rfl
theorem mlX8_canGive : zv_ML mX8_canGive 2 := ⟨zv_gt 739 (by decide +kernel) rfl, zv_gt 3 (by decide +kernel) rfl, by decide +kernel, by decide, by decide +kernel, by decide +kernel, by decide +kernel⟩
theorem imX8_canGive : Cond.instanceMethod mX8_canGive.1 ∈ zv_gw := zv_gt 738 (by decide +kernel) rfl
theorem seX8_canGive : Cond.selects mX8_canGive.1.cls mX8_canGive.1 mX8_canGive.1 ∈ zv_gw := zv_gp 43 (by decide +kernel) rfl
theorem mlX8_next : zv_ML mX8_next 1 := ⟨zv_gt 735 (by decide +kernel) rfl, zv_gt 3 (by decide +kernel) rfl, by decide +kernel, by decide, by decide +kernel, by decide +kernel, by decide +kernel⟩
theorem imX8_next : Cond.instanceMethod mX8_next.1 ∈ zv_gw := zv_gt 734 (by decide +kernel) rfl
theorem seX8_next : Cond.selects mX8_next.1.cls mX8_next.1 mX8_next.1 ∈ zv_gw := zv_gp 42 (by decide +kernel) rfl
theorem mlX8_gives : zv_ML mX8_gives 1 := ⟨zv_gt 731 (by decide +kernel) rfl, zv_gt 3 (by decide +kernel) rfl, by decide +kernel, by decide, by decide +kernel, by decide +kernel, by decide +kernel⟩
theorem imX8_gives : Cond.instanceMethod mX8_gives.1 ∈ zv_gw := zv_gt 730 (by decide +kernel) rfl
theorem seX8_gives : Cond.selects mX8_gives.1.cls mX8_gives.1 mX8_gives.1 ∈ zv_gw := zv_gp 41 (by decide +kernel) rfl
theorem mlX8_give : zv_ML mX8_give 2 := ⟨zv_gt 763 (by decide +kernel) rfl, zv_gt 3 (by decide +kernel) rfl, by decide +kernel, by decide, by decide +kernel, by decide +kernel, by decide +kernel⟩
theorem imX8_give : Cond.instanceMethod mX8_give.1 ∈ zv_gw := zv_gt 762 (by decide +kernel) rfl
theorem seX8_give : Cond.selects mX8_give.1.cls mX8_give.1 mX8_give.1 ∈ zv_gw := zv_gp 49 (by decide +kernel) rfl
theorem mlX8_deliver : zv_ML mX8_deliver 2 := ⟨zv_gt 779 (by decide +kernel) rfl, zv_gt 3 (by decide +kernel) rfl, by decide +kernel, by decide, by decide +kernel, by decide +kernel, by decide +kernel⟩
theorem imX8_deliver : Cond.instanceMethod mX8_deliver.1 ∈ zv_gw := zv_gt 777 (by decide +kernel) rfl
theorem seX8_deliver : Cond.selects mX8_deliver.1.cls mX8_deliver.1 mX8_deliver.1 ∈ zv_gw := zv_gt 778 (by decide +kernel) rfl
theorem mlX8_lineOf : zv_ML mX8_lineOf 1 := ⟨zv_gt 791 (by decide +kernel) rfl, zv_gt 3 (by decide +kernel) rfl, by decide +kernel, by decide, by decide +kernel, by decide +kernel, by decide +kernel⟩
theorem imX8_lineOf : Cond.instanceMethod mX8_lineOf.1 ∈ zv_gw := zv_gt 790 (by decide +kernel) rfl
theorem seX8_lineOf : Cond.selects mX8_lineOf.1.cls mX8_lineOf.1 mX8_lineOf.1 ∈ zv_gw := zv_gp 52 (by decide +kernel) rfl
theorem mlX8_lined : zv_ML mX8_lined 2 := ⟨zv_gt 787 (by decide +kernel) rfl, zv_gt 3 (by decide +kernel) rfl, by decide +kernel, by decide, by decide +kernel, by decide +kernel, by decide +kernel⟩
theorem imX8_lined : Cond.instanceMethod mX8_lined.1 ∈ zv_gw := zv_gt 786 (by decide +kernel) rfl
theorem seX8_lined : Cond.selects mX8_lined.1.cls mX8_lined.1 mX8_lined.1 ∈ zv_gw := zv_gp 51 (by decide +kernel) rfl
theorem mlX8_deliverAll : zv_ML mX8_deliverAll 2 := ⟨zv_gt 783 (by decide +kernel) rfl, zv_gt 3 (by decide +kernel) rfl, by decide +kernel, by decide, by decide +kernel, by decide +kernel, by decide +kernel⟩
theorem imX8_deliverAll : Cond.instanceMethod mX8_deliverAll.1 ∈ zv_gw := zv_gt 781 (by decide +kernel) rfl
theorem seX8_deliverAll : Cond.selects mX8_deliverAll.1.cls mX8_deliverAll.1 mX8_deliverAll.1 ∈ zv_gw := zv_gt 782 (by decide +kernel) rfl
theorem mlX8_count : zv_ML mX8_count 1 := ⟨zv_gt 795 (by decide +kernel) rfl, zv_gt 3 (by decide +kernel) rfl, by decide +kernel, by decide, by decide +kernel, by decide +kernel, by decide +kernel⟩
theorem imX8_count : Cond.instanceMethod mX8_count.1 ∈ zv_gw := zv_gt 793 (by decide +kernel) rfl
theorem seX8_count : Cond.selects mX8_count.1.cls mX8_count.1 mX8_count.1 ∈ zv_gw := zv_gt 794 (by decide +kernel) rfl
theorem mlX8_countsOf : zv_ML mX8_countsOf 1 := ⟨zv_gt 803 (by decide +kernel) rfl, zv_gt 3 (by decide +kernel) rfl, by decide +kernel, by decide, by decide +kernel, by decide +kernel, by decide +kernel⟩
theorem imX8_countsOf : Cond.instanceMethod mX8_countsOf.1 ∈ zv_gw := zv_gt 802 (by decide +kernel) rfl
theorem seX8_countsOf : Cond.selects mX8_countsOf.1.cls mX8_countsOf.1 mX8_countsOf.1 ∈ zv_gw := zv_gp 53 (by decide +kernel) rfl
theorem mlX8_told : zv_ML mX8_told 2 := ⟨zv_gt 799 (by decide +kernel) rfl, zv_gt 3 (by decide +kernel) rfl, by decide +kernel, by decide, by decide +kernel, by decide +kernel, by decide +kernel⟩
theorem imX8_told : Cond.instanceMethod mX8_told.1 ∈ zv_gw := zv_gt 797 (by decide +kernel) rfl
theorem seX8_told : Cond.selects mX8_told.1.cls mX8_told.1 mX8_told.1 ∈ zv_gw := zv_gt 798 (by decide +kernel) rfl
theorem mlX8_circleTold : zv_ML mX8_circleTold 2 := ⟨zv_gt 807 (by decide +kernel) rfl, zv_gt 3 (by decide +kernel) rfl, by decide +kernel, by decide, by decide +kernel, by decide +kernel, by decide +kernel⟩
theorem imX8_circleTold : Cond.instanceMethod mX8_circleTold.1 ∈ zv_gw := zv_gt 805 (by decide +kernel) rfl
theorem seX8_circleTold : Cond.selects mX8_circleTold.1.cls mX8_circleTold.1 mX8_circleTold.1 ∈ zv_gw := zv_gt 806 (by decide +kernel) rfl
theorem mlX8_isCalm : zv_ML mX8_isCalm 1 := ⟨zv_gt 811 (by decide +kernel) rfl, zv_gt 3 (by decide +kernel) rfl, by decide +kernel, by decide, by decide +kernel, by decide +kernel, by decide +kernel⟩
theorem imX8_isCalm : Cond.instanceMethod mX8_isCalm.1 ∈ zv_gw := zv_gt 810 (by decide +kernel) rfl
theorem seX8_isCalm : Cond.selects mX8_isCalm.1.cls mX8_isCalm.1 mX8_isCalm.1 ∈ zv_gw := zv_gp 54 (by decide +kernel) rfl
theorem mlX8_state : zv_ML mX8_state 2 := ⟨zv_gt 815 (by decide +kernel) rfl, zv_gt 3 (by decide +kernel) rfl, by decide +kernel, by decide, by decide +kernel, by decide +kernel, by decide +kernel⟩
theorem imX8_state : Cond.instanceMethod mX8_state.1 ∈ zv_gw := zv_gt 813 (by decide +kernel) rfl
theorem seX8_state : Cond.selects mX8_state.1.cls mX8_state.1 mX8_state.1 ∈ zv_gw := zv_gt 814 (by decide +kernel) rfl
theorem mlX8_given : zv_ML mX8_given 3 := ⟨zv_gt 819 (by decide +kernel) rfl, zv_gt 3 (by decide +kernel) rfl, by decide +kernel, by decide, by decide +kernel, by decide +kernel, by decide +kernel⟩
theorem imX8_given : Cond.instanceMethod mX8_given.1 ∈ zv_gw := zv_gt 817 (by decide +kernel) rfl
theorem seX8_given : Cond.selects mX8_given.1.cls mX8_given.1 mX8_given.1 ∈ zv_gw := zv_gt 818 (by decide +kernel) rfl
theorem mlX8_read : zv_ML mX8_read 2 := ⟨zv_gt 823 (by decide +kernel) rfl, zv_gt 3 (by decide +kernel) rfl, by decide +kernel, by decide, by decide +kernel, by decide +kernel, by decide +kernel⟩
theorem imX8_read : Cond.instanceMethod mX8_read.1 ∈ zv_gw := zv_gt 821 (by decide +kernel) rfl
theorem seX8_read : Cond.selects mX8_read.1.cls mX8_read.1 mX8_read.1 ∈ zv_gw := zv_gt 822 (by decide +kernel) rfl
theorem mlX8_why : zv_ML mX8_why 3 := ⟨zv_gt 827 (by decide +kernel) rfl, zv_gt 3 (by decide +kernel) rfl, by decide +kernel, by decide, by decide +kernel, by decide +kernel, by decide +kernel⟩
theorem imX8_why : Cond.instanceMethod mX8_why.1 ∈ zv_gw := zv_gt 825 (by decide +kernel) rfl
theorem seX8_why : Cond.selects mX8_why.1.cls mX8_why.1 mX8_why.1 ∈ zv_gw := zv_gt 826 (by decide +kernel) rfl
theorem mlX8_late : zv_ML mX8_late 1 := ⟨zv_gt 831 (by decide +kernel) rfl, zv_gt 3 (by decide +kernel) rfl, by decide +kernel, by decide, by decide +kernel, by decide +kernel, by decide +kernel⟩
theorem imX8_late : Cond.instanceMethod mX8_late.1 ∈ zv_gw := zv_gt 829 (by decide +kernel) rfl
theorem seX8_late : Cond.selects mX8_late.1.cls mX8_late.1 mX8_late.1 ∈ zv_gw := zv_gt 830 (by decide +kernel) rfl
theorem mlX8_behind : zv_ML mX8_behind 2 := ⟨zv_gt 835 (by decide +kernel) rfl, zv_gt 3 (by decide +kernel) rfl, by decide +kernel, by decide, by decide +kernel, by decide +kernel, by decide +kernel⟩
theorem imX8_behind : Cond.instanceMethod mX8_behind.1 ∈ zv_gw := zv_gt 833 (by decide +kernel) rfl
theorem seX8_behind : Cond.selects mX8_behind.1.cls mX8_behind.1 mX8_behind.1 ∈ zv_gw := zv_gt 834 (by decide +kernel) rfl
theorem mlX8_past : zv_ML mX8_past 1 := ⟨zv_gt 839 (by decide +kernel) rfl, zv_gt 3 (by decide +kernel) rfl, by decide +kernel, by decide, by decide +kernel, by decide +kernel, by decide +kernel⟩
theorem imX8_past : Cond.instanceMethod mX8_past.1 ∈ zv_gw := zv_gt 837 (by decide +kernel) rfl
theorem seX8_past : Cond.selects mX8_past.1.cls mX8_past.1 mX8_past.1 ∈ zv_gw := zv_gt 838 (by decide +kernel) rfl
theorem mlX8_chain : zv_ML mX8_chain 2 := ⟨zv_gt 843 (by decide +kernel) rfl, zv_gt 3 (by decide +kernel) rfl, by decide +kernel, by decide, by decide +kernel, by decide +kernel, by decide +kernel⟩
theorem imX8_chain : Cond.instanceMethod mX8_chain.1 ∈ zv_gw := zv_gt 841 (by decide +kernel) rfl
theorem seX8_chain : Cond.selects mX8_chain.1.cls mX8_chain.1 mX8_chain.1 ∈ zv_gw := zv_gt 842 (by decide +kernel) rfl
theorem mlX8_ran : zv_ML mX8_ran 1 := ⟨zv_gt 859 (by decide +kernel) rfl, zv_gt 3 (by decide +kernel) rfl, by decide +kernel, by decide, by decide +kernel, by decide +kernel, by decide +kernel⟩
theorem imX8_ran : Cond.instanceMethod mX8_ran.1 ∈ zv_gw := zv_gt 858 (by decide +kernel) rfl
theorem seX8_ran : Cond.selects mX8_ran.1.cls mX8_ran.1 mX8_ran.1 ∈ zv_gw := zv_gp 57 (by decide +kernel) rfl
theorem mlX8_noteAge : zv_ML mX8_noteAge 2 := ⟨zv_gt 855 (by decide +kernel) rfl, zv_gt 3 (by decide +kernel) rfl, by decide +kernel, by decide, by decide +kernel, by decide +kernel, by decide +kernel⟩
theorem imX8_noteAge : Cond.instanceMethod mX8_noteAge.1 ∈ zv_gw := zv_gt 854 (by decide +kernel) rfl
theorem seX8_noteAge : Cond.selects mX8_noteAge.1.cls mX8_noteAge.1 mX8_noteAge.1 ∈ zv_gw := zv_gp 56 (by decide +kernel) rfl
theorem mlX8_orderAge : zv_ML mX8_orderAge 2 := ⟨zv_gt 863 (by decide +kernel) rfl, zv_gt 3 (by decide +kernel) rfl, by decide +kernel, by decide, by decide +kernel, by decide +kernel, by decide +kernel⟩
theorem imX8_orderAge : Cond.instanceMethod mX8_orderAge.1 ∈ zv_gw := zv_gt 862 (by decide +kernel) rfl
theorem seX8_orderAge : Cond.selects mX8_orderAge.1.cls mX8_orderAge.1 mX8_orderAge.1 ∈ zv_gw := zv_gp 58 (by decide +kernel) rfl
theorem mlX8_age : zv_ML mX8_age 2 := ⟨zv_gt 851 (by decide +kernel) rfl, zv_gt 3 (by decide +kernel) rfl, by decide +kernel, by decide, by decide +kernel, by decide +kernel, by decide +kernel⟩
theorem imX8_age : Cond.instanceMethod mX8_age.1 ∈ zv_gw := zv_gt 850 (by decide +kernel) rfl
theorem seX8_age : Cond.selects mX8_age.1.cls mX8_age.1 mX8_age.1 ∈ zv_gw := zv_gp 55 (by decide +kernel) rfl
theorem mlX8_noteBear : zv_ML mX8_noteBear 2 := ⟨zv_gt 871 (by decide +kernel) rfl, zv_gt 3 (by decide +kernel) rfl, by decide +kernel, by decide, by decide +kernel, by decide +kernel, by decide +kernel⟩
theorem imX8_noteBear : Cond.instanceMethod mX8_noteBear.1 ∈ zv_gw := zv_gt 870 (by decide +kernel) rfl
theorem seX8_noteBear : Cond.selects mX8_noteBear.1.cls mX8_noteBear.1 mX8_noteBear.1 ∈ zv_gw := zv_gp 60 (by decide +kernel) rfl
theorem mlX8_bear : zv_ML mX8_bear 2 := ⟨zv_gt 867 (by decide +kernel) rfl, zv_gt 3 (by decide +kernel) rfl, by decide +kernel, by decide, by decide +kernel, by decide +kernel, by decide +kernel⟩
theorem imX8_bear : Cond.instanceMethod mX8_bear.1 ∈ zv_gw := zv_gt 866 (by decide +kernel) rfl
theorem seX8_bear : Cond.selects mX8_bear.1.cls mX8_bear.1 mX8_bear.1 ∈ zv_gw := zv_gp 59 (by decide +kernel) rfl
theorem mlX8_noteGive : zv_ML mX8_noteGive 2 := ⟨zv_gt 879 (by decide +kernel) rfl, zv_gt 3 (by decide +kernel) rfl, by decide +kernel, by decide, by decide +kernel, by decide +kernel, by decide +kernel⟩
theorem imX8_noteGive : Cond.instanceMethod mX8_noteGive.1 ∈ zv_gw := zv_gt 878 (by decide +kernel) rfl
theorem seX8_noteGive : Cond.selects mX8_noteGive.1.cls mX8_noteGive.1 mX8_noteGive.1 ∈ zv_gw := zv_gp 62 (by decide +kernel) rfl
theorem mlX8_giveOf : zv_ML mX8_giveOf 2 := ⟨zv_gt 875 (by decide +kernel) rfl, zv_gt 3 (by decide +kernel) rfl, by decide +kernel, by decide, by decide +kernel, by decide +kernel, by decide +kernel⟩
theorem imX8_giveOf : Cond.instanceMethod mX8_giveOf.1 ∈ zv_gw := zv_gt 874 (by decide +kernel) rfl
theorem seX8_giveOf : Cond.selects mX8_giveOf.1.cls mX8_giveOf.1 mX8_giveOf.1 ∈ zv_gw := zv_gp 61 (by decide +kernel) rfl
theorem mlX8_noteWait : zv_ML mX8_noteWait 2 := ⟨zv_gt 887 (by decide +kernel) rfl, zv_gt 3 (by decide +kernel) rfl, by decide +kernel, by decide, by decide +kernel, by decide +kernel, by decide +kernel⟩
theorem imX8_noteWait : Cond.instanceMethod mX8_noteWait.1 ∈ zv_gw := zv_gt 886 (by decide +kernel) rfl
theorem seX8_noteWait : Cond.selects mX8_noteWait.1.cls mX8_noteWait.1 mX8_noteWait.1 ∈ zv_gw := zv_gp 64 (by decide +kernel) rfl
theorem mlX8_waitOf : zv_ML mX8_waitOf 2 := ⟨zv_gt 883 (by decide +kernel) rfl, zv_gt 3 (by decide +kernel) rfl, by decide +kernel, by decide, by decide +kernel, by decide +kernel, by decide +kernel⟩
theorem imX8_waitOf : Cond.instanceMethod mX8_waitOf.1 ∈ zv_gw := zv_gt 882 (by decide +kernel) rfl
theorem seX8_waitOf : Cond.selects mX8_waitOf.1.cls mX8_waitOf.1 mX8_waitOf.1 ∈ zv_gw := zv_gp 63 (by decide +kernel) rfl
theorem mlX8_act : zv_ML mX8_act 3 := ⟨zv_gt 847 (by decide +kernel) rfl, zv_gt 3 (by decide +kernel) rfl, by decide +kernel, by decide, by decide +kernel, by decide +kernel, by decide +kernel⟩
theorem imX8_act : Cond.instanceMethod mX8_act.1 ∈ zv_gw := zv_gt 845 (by decide +kernel) rfl
theorem seX8_act : Cond.selects mX8_act.1.cls mX8_act.1 mX8_act.1 ∈ zv_gw := zv_gt 846 (by decide +kernel) rfl
theorem mlX8_trace : zv_ML mX8_trace 1 := ⟨zv_gt 891 (by decide +kernel) rfl, zv_gt 3 (by decide +kernel) rfl, by decide +kernel, by decide, by decide +kernel, by decide +kernel, by decide +kernel⟩
theorem imX8_trace : Cond.instanceMethod mX8_trace.1 ∈ zv_gw := zv_gt 889 (by decide +kernel) rfl
theorem seX8_trace : Cond.selects mX8_trace.1.cls mX8_trace.1 mX8_trace.1 ∈ zv_gw := zv_gt 890 (by decide +kernel) rfl
theorem mlX8_bare : zv_ML mX8_bare 3 := ⟨zv_gt 895 (by decide +kernel) rfl, zv_gt 3 (by decide +kernel) rfl, by decide +kernel, by decide, by decide +kernel, by decide +kernel, by decide +kernel⟩
theorem imX8_bare : Cond.instanceMethod mX8_bare.1 ∈ zv_gw := zv_gt 893 (by decide +kernel) rfl
theorem seX8_bare : Cond.selects mX8_bare.1.cls mX8_bare.1 mX8_bare.1 ∈ zv_gw := zv_gt 894 (by decide +kernel) rfl
theorem mlX8_slot : zv_ML mX8_slot 2 := ⟨zv_gt 899 (by decide +kernel) rfl, zv_gt 3 (by decide +kernel) rfl, by decide +kernel, by decide, by decide +kernel, by decide +kernel, by decide +kernel⟩
theorem imX8_slot : Cond.instanceMethod mX8_slot.1 ∈ zv_gw := zv_gt 897 (by decide +kernel) rfl
theorem seX8_slot : Cond.selects mX8_slot.1.cls mX8_slot.1 mX8_slot.1 ∈ zv_gw := zv_gt 898 (by decide +kernel) rfl
theorem mlX8_firstRow : zv_ML mX8_firstRow 1 := ⟨zv_gt 921 (by decide +kernel) rfl, zv_gt 3 (by decide +kernel) rfl, by decide +kernel, by decide, by decide +kernel, by decide +kernel, by decide +kernel⟩
theorem imX8_firstRow : Cond.instanceMethod mX8_firstRow.1 ∈ zv_gw := zv_gt 920 (by decide +kernel) rfl
theorem seX8_firstRow : Cond.selects mX8_firstRow.1.cls mX8_firstRow.1 mX8_firstRow.1 ∈ zv_gw := zv_gp 67 (by decide +kernel) rfl
theorem mlX8_sumOf : zv_ML mX8_sumOf 4 := ⟨zv_gt 925 (by decide +kernel) rfl, zv_gt 3 (by decide +kernel) rfl, by decide +kernel, by decide, by decide +kernel, by decide +kernel, by decide +kernel⟩
theorem imX8_sumOf : Cond.instanceMethod mX8_sumOf.1 ∈ zv_gw := zv_gt 924 (by decide +kernel) rfl
theorem seX8_sumOf : Cond.selects mX8_sumOf.1.cls mX8_sumOf.1 mX8_sumOf.1 ∈ zv_gw := zv_gp 68 (by decide +kernel) rfl
theorem mlX8_forge : zv_ML mX8_forge 4 := ⟨zv_gt 903 (by decide +kernel) rfl, zv_gt 3 (by decide +kernel) rfl, by decide +kernel, by decide, by decide +kernel, by decide +kernel, by decide +kernel⟩
theorem imX8_forge : Cond.instanceMethod mX8_forge.1 ∈ zv_gw := zv_gt 901 (by decide +kernel) rfl
theorem seX8_forge : Cond.selects mX8_forge.1.cls mX8_forge.1 mX8_forge.1 ∈ zv_gw := zv_gt 902 (by decide +kernel) rfl
theorem mlX8_letterTaken : zv_ML mX8_letterTaken 3 := ⟨zv_gt 907 (by decide +kernel) rfl, zv_gt 3 (by decide +kernel) rfl, by decide +kernel, by decide, by decide +kernel, by decide +kernel, by decide +kernel⟩
theorem imX8_letterTaken : Cond.instanceMethod mX8_letterTaken.1 ∈ zv_gw := zv_gt 906 (by decide +kernel) rfl
theorem seX8_letterTaken : Cond.selects mX8_letterTaken.1.cls mX8_letterTaken.1 mX8_letterTaken.1 ∈ zv_gw := zv_gp 65 (by decide +kernel) rfl
theorem mlX8_clockTaken : zv_ML mX8_clockTaken 3 := ⟨zv_gt 917 (by decide +kernel) rfl, zv_gt 3 (by decide +kernel) rfl, by decide +kernel, by decide, by decide +kernel, by decide +kernel, by decide +kernel⟩
theorem imX8_clockTaken : Cond.instanceMethod mX8_clockTaken.1 ∈ zv_gw := zv_gt 916 (by decide +kernel) rfl
theorem seX8_clockTaken : Cond.selects mX8_clockTaken.1.cls mX8_clockTaken.1 mX8_clockTaken.1 ∈ zv_gw := zv_gp 66 (by decide +kernel) rfl
theorem mlX8_status : zv_ML mX8_status 0 := ⟨zv_gt 929 (by decide +kernel) rfl, zv_gt 3 (by decide +kernel) rfl, by decide +kernel, by decide, by decide +kernel, by decide +kernel, by decide +kernel⟩
theorem imX8_status : Cond.instanceMethod mX8_status.1 ∈ zv_gw := zv_gt 927 (by decide +kernel) rfl
theorem seX8_status : Cond.selects mX8_status.1.cls mX8_status.1 mX8_status.1 ∈ zv_gw := zv_gt 928 (by decide +kernel) rfl
theorem mlJ6_bitCount_0f7a4 : zv_ML mJ6_bitCount_0f7a4 1 := ⟨zv_gt 152 (by decide +kernel) rfl, zv_gt 6 (by decide +kernel) rfl, by decide +kernel, by decide, by decide +kernel, by decide +kernel, by decide +kernel⟩
theorem smJ6_bitCount_0f7a4 : Cond.static mJ6_bitCount_0f7a4.1 ∈ zv_gw := zv_gt 151 (by decide +kernel) rfl
theorem mlJ13_bitCount_95d88 : zv_ML mJ13_bitCount_95d88 1 := ⟨zv_gt 479 (by decide +kernel) rfl, zv_gt 10 (by decide +kernel) rfl, by decide +kernel, by decide, by decide +kernel, by decide +kernel, by decide +kernel⟩
theorem smJ13_bitCount_95d88 : Cond.static mJ13_bitCount_95d88.1 ∈ zv_gw := zv_gt 478 (by decide +kernel) rfl
theorem mlJ9_floorMod_7cf53 : zv_ML mJ9_floorMod_7cf53 2 := ⟨zv_gt 542 (by decide +kernel) rfl, zv_gt 11 (by decide +kernel) rfl, by decide +kernel, by decide, by decide +kernel, by decide +kernel, by decide +kernel⟩
theorem smJ9_floorMod_7cf53 : Cond.static mJ9_floorMod_7cf53.1 ∈ zv_gw := zv_gt 541 (by decide +kernel) rfl
theorem ciL_9 : zv_CI RL 9 mX7_init 0 := ⟨mlX7_init, rfl, rfl, Or.inl (zv_gt 14 (by decide +kernel) rfl), imX7_init⟩
theorem ciX7_33 : zv_CI RX7 33 mX6_init 0 := ⟨mlX6_init, rfl, rfl, Or.inl (zv_gt 28 (by decide +kernel) rfl), imX6_init⟩
theorem cvL_13 : zv_CV RL 13 mX7_member 0 := ⟨mlX7_member, Or.inl (zv_gt 71 (by decide +kernel) rfl), imX7_member, seX7_member⟩
theorem cvX7_45 : zv_CV RX7 45 mX7_refuse 1 := ⟨mlX7_refuse, Or.inl (zv_gt 75 (by decide +kernel) rfl), imX7_refuse, seX7_refuse⟩
theorem ciX7_49 : zv_CI RX7 49 mX3_init 0 := ⟨mlX3_init, rfl, rfl, Or.inr ⟨RX7, zv_nt 80 (by decide +kernel) rfl⟩, imX3_init⟩
theorem ciX3_46 : zv_CI RX3 46 mX4_init 0 := ⟨mlX4_init, rfl, rfl, Or.inr ⟨RX7, zv_nt 93 (by decide +kernel) rfl⟩, imX4_init⟩
theorem cvX7_50 : zv_CV RX7 50 mX7_done 1 := ⟨mlX7_done, Or.inl (zv_gt 142 (by decide +kernel) rfl), imX7_done, seX7_done⟩
theorem cvL_18 : zv_CV RL 18 mX7_circle 1 := ⟨mlX7_circle, Or.inl (zv_gt 146 (by decide +kernel) rfl), imX7_circle, seX7_circle⟩
theorem csX7_53 : zv_CS RX7 53 mJ6_bitCount_0f7a4 1 := ⟨mlJ6_bitCount_0f7a4, Or.inl (zv_gt 150 (by decide +kernel) rfl), smJ6_bitCount_0f7a4⟩
theorem csX7_61 : zv_CS RX7 61 mX7_lowestMember 1 := ⟨mlX7_lowestMember, Or.inl (zv_gt 157 (by decide +kernel) rfl), smX7_lowestMember⟩
theorem csX7_218 : zv_CS RX7 218 mX7_hasBit 2 := ⟨mlX7_hasBit, Or.inl (zv_gt 160 (by decide +kernel) rfl), smX7_hasBit⟩
theorem ciX7_64 : zv_CI RX7 64 mX0_init 2 := ⟨mlX0_init, rfl, rfl, Or.inl (zv_gt 163 (by decide +kernel) rfl), imX0_init⟩
theorem cvL_23 : zv_CV RL 23 mX7_write 3 := ⟨mlX7_write, Or.inl (zv_gt 180 (by decide +kernel) rfl), imX7_write, seX7_write⟩
theorem cvX7_67 : zv_CV RX7 67 mX7_writeByCall 4 := ⟨mlX7_writeByCall, Or.inl (zv_gt 184 (by decide +kernel) rfl), imX7_writeByCall, seX7_writeByCall⟩
theorem cvX7_75 : zv_CV RX7 75 mX7_isMember 1 := ⟨mlX7_isMember, Or.inl (zv_gt 188 (by decide +kernel) rfl), imX7_isMember, seX7_isMember⟩
theorem cvX7_85 : zv_CV RX7 85 mX7_isCircle 1 := ⟨mlX7_isCircle, Or.inl (zv_gt 192 (by decide +kernel) rfl), imX7_isCircle, seX7_isCircle⟩
theorem cvX7_225 : zv_CV RX7 225 mX7_mayAnswer 2 := ⟨mlX7_mayAnswer, Or.inl (zv_gt 196 (by decide +kernel) rfl), imX7_mayAnswer, seX7_mayAnswer⟩
theorem cvX7_71 : zv_CV RX7 71 mX7_isLetter 1 := ⟨mlX7_isLetter, Or.inl (zv_gt 200 (by decide +kernel) rfl), imX7_isLetter, seX7_isLetter⟩
theorem cvX7_256 : zv_CV RX7 256 mX2_isGivenBy 1 := ⟨mlX2_isGivenBy, Or.inl (zv_gt 204 (by decide +kernel) rfl), imX2_isGivenBy, seX2_isGivenBy⟩
theorem csX2_50 : zv_CS RX2 50 mX7_hasBit 2 := ⟨mlX7_hasBit, Or.inr ⟨RX7, zv_nt 208 (by decide +kernel) rfl⟩, smX7_hasBit⟩
theorem cvX7_228 : zv_CV RX7 228 mX3_nextSerial 1 := ⟨mlX3_nextSerial, Or.inl (zv_gt 209 (by decide +kernel) rfl), imX3_nextSerial, seX3_nextSerial⟩
theorem cvX7_231 : zv_CV RX7 231 mX7_clockNow 1 := ⟨mlX7_clockNow, Or.inl (zv_gt 213 (by decide +kernel) rfl), imX7_clockNow, seX7_clockNow⟩
theorem ciX7_259 : zv_CI RX7 259 mX1_init 0 := ⟨mlX1_init, rfl, rfl, Or.inr ⟨RX7, zv_nt 219 (by decide +kernel) rfl⟩, imX1_init⟩
theorem cvX7_260 : zv_CV RX7 260 mX1_addRow 3 := ⟨mlX1_addRow, Or.inl (zv_gt 233 (by decide +kernel) rfl), imX1_addRow, seX1_addRow⟩
theorem ciX7_235 : zv_CI RX7 235 mX2_init 7 := ⟨mlX2_init, rfl, rfl, Or.inl (zv_gt 244 (by decide +kernel) rfl), imX2_init⟩
theorem ciX2_11 : zv_CI RX2 11 mX4_init 0 := ⟨mlX4_init, rfl, rfl, Or.inr ⟨RX7, zv_nt 249 (by decide +kernel) rfl⟩, imX4_init⟩
theorem cvX7_242 : zv_CV RX7 242 mX1_sameCounts 2 := ⟨mlX1_sameCounts, Or.inl (zv_gt 307 (by decide +kernel) rfl), imX1_sameCounts, seX1_sameCounts⟩
theorem csX1_30 : zv_CS RX1 30 mX1_sameInRow 3 := ⟨mlX1_sameInRow, Or.inl (zv_gt 311 (by decide +kernel) rfl), smX1_sameInRow⟩
theorem csX1_34 : zv_CS RX1 34 mX7_hasBit 2 := ⟨mlX7_hasBit, Or.inr ⟨RX7, zv_nt 314 (by decide +kernel) rfl⟩, smX7_hasBit⟩
theorem cvX7_246 : zv_CV RX7 246 mX7_send 1 := ⟨mlX7_send, Or.inl (zv_gt 315 (by decide +kernel) rfl), imX7_send, seX7_send⟩
theorem cvX7_267 : zv_CV RX7 267 mX4_addAll 1 := ⟨mlX4_addAll, Or.inl (zv_gt 319 (by decide +kernel) rfl), imX4_addAll, seX4_addAll⟩
theorem cvX7_271 : zv_CV RX7 271 mX4_add 1 := ⟨mlX4_add, Or.inl (zv_gt 323 (by decide +kernel) rfl), imX4_add, seX4_add⟩
theorem cvX7_275 : zv_CV RX7 275 mX3_hold 1 := ⟨mlX3_hold, Or.inl (zv_gt 327 (by decide +kernel) rfl), imX3_hold, seX3_hold⟩
theorem cvX3_58 : zv_CV RX3 58 mX3_takeSlot 1 := ⟨mlX3_takeSlot, Or.inl (zv_gt 331 (by decide +kernel) rfl), imX3_takeSlot, seX3_takeSlot⟩
theorem cvX7_250 : zv_CV RX7 250 mX7_giveAll 1 := ⟨mlX7_giveAll, Or.inl (zv_gt 335 (by decide +kernel) rfl), imX7_giveAll, seX7_giveAll⟩
theorem cvX7_284 : zv_CV RX7 284 mX7_canGive 2 := ⟨mlX7_canGive, Or.inl (zv_gt 339 (by decide +kernel) rfl), imX7_canGive, seX7_canGive⟩
theorem cvX7_158 : zv_CV RX7 158 mX7_firstLack 2 := ⟨mlX7_firstLack, Or.inl (zv_gt 343 (by decide +kernel) rfl), imX7_firstLack, seX7_firstLack⟩
theorem cvX7_304 : zv_CV RX7 304 mX1_rowAt 1 := ⟨mlX1_rowAt, Or.inl (zv_gt 347 (by decide +kernel) rfl), imX1_rowAt, seX1_rowAt⟩
theorem cvX7_308 : zv_CV RX7 308 mX7_firstLackIn 3 := ⟨mlX7_firstLackIn, Or.inl (zv_gt 351 (by decide +kernel) rfl), imX7_firstLackIn, seX7_firstLackIn⟩
theorem cvX7_165 : zv_CV RX7 165 mX2_needed 2 := ⟨mlX2_needed, Or.inl (zv_gt 355 (by decide +kernel) rfl), imX2_needed, seX2_needed⟩
theorem cvX7_298 : zv_CV RX7 298 mX7_lacksOrder 2 := ⟨mlX7_lacksOrder, Or.inl (zv_gt 359 (by decide +kernel) rfl), imX7_lacksOrder, seX7_lacksOrder⟩
theorem cvX7_301 : zv_CV RX7 301 mX7_lacksLowerPlace 2 := ⟨mlX7_lacksLowerPlace, Or.inl (zv_gt 363 (by decide +kernel) rfl), imX7_lacksLowerPlace, seX7_lacksLowerPlace⟩
theorem cvX7_288 : zv_CV RX7 288 mX3_release 1 := ⟨mlX3_release, Or.inl (zv_gt 367 (by decide +kernel) rfl), imX3_release, seX3_release⟩
theorem cvX3_62 : zv_CV RX3 62 mX3_dropHeld 1 := ⟨mlX3_dropHeld, Or.inl (zv_gt 371 (by decide +kernel) rfl), imX3_dropHeld, seX3_dropHeld⟩
theorem cvX3_65 : zv_CV RX3 65 mX3_leaveSlot 1 := ⟨mlX3_leaveSlot, Or.inl (zv_gt 375 (by decide +kernel) rfl), imX3_leaveSlot, seX3_leaveSlot⟩
theorem cvX3_83 : zv_CV RX3 83 mX4_addAll 1 := ⟨mlX4_addAll, Or.inl (zv_gt 379 (by decide +kernel) rfl), imX4_addAll, seX4_addAll⟩
theorem cvX3_87 : zv_CV RX3 87 mX4_add 1 := ⟨mlX4_add, Or.inl (zv_gt 380 (by decide +kernel) rfl), imX4_add, seX4_add⟩
theorem cvX7_294 : zv_CV RX7 294 mX7_writeOrderIfDue 2 := ⟨mlX7_writeOrderIfDue, Or.inl (zv_gt 381 (by decide +kernel) rfl), imX7_writeOrderIfDue, seX7_writeOrderIfDue⟩
theorem cvL_28 : zv_CV RL 28 mX7_reply 3 := ⟨mlX7_reply, Or.inl (zv_gt 385 (by decide +kernel) rfl), imX7_reply, seX7_reply⟩
theorem cvL_32 : zv_CV RL 32 mX7_seal 3 := ⟨mlX7_seal, Or.inl (zv_gt 389 (by decide +kernel) rfl), imX7_seal, seX7_seal⟩
theorem cvL_36 : zv_CV RL 36 mX7_deliver 2 := ⟨mlX7_deliver, Or.inl (zv_gt 393 (by decide +kernel) rfl), imX7_deliver, seX7_deliver⟩
theorem cvX7_78 : zv_CV RX7 78 mX2_isOnLineTo 1 := ⟨mlX2_isOnLineTo, Or.inl (zv_gt 397 (by decide +kernel) rfl), imX2_isOnLineTo, seX2_isOnLineTo⟩
theorem cvX7_81 : zv_CV RX7 81 mX7_bring 2 := ⟨mlX7_bring, Or.inl (zv_gt 401 (by decide +kernel) rfl), imX7_bring, seX7_bring⟩
theorem cvL_41 : zv_CV RL 41 mX7_deliverAll 2 := ⟨mlX7_deliverAll, Or.inl (zv_gt 405 (by decide +kernel) rfl), imX7_deliverAll, seX7_deliverAll⟩
theorem cvX7_88 : zv_CV RX7 88 mX7_nextOnLine 2 := ⟨mlX7_nextOnLine, Or.inl (zv_gt 409 (by decide +kernel) rfl), imX7_nextOnLine, seX7_nextOnLine⟩
theorem cvL_45 : zv_CV RL 45 mX7_count 1 := ⟨mlX7_count, Or.inl (zv_gt 413 (by decide +kernel) rfl), imX7_count, seX7_count⟩
theorem cvX7_98 : zv_CV RX7 98 mX6_begunCount 0 := ⟨mlX6_begunCount, Or.inl (zv_gt 417 (by decide +kernel) rfl), imX6_begunCount, seX6_begunCount⟩
theorem cvL_49 : zv_CV RL 49 mX7_told 2 := ⟨mlX7_told, Or.inl (zv_gt 421 (by decide +kernel) rfl), imX7_told, seX7_told⟩
theorem cvL_53 : zv_CV RL 53 mX7_circleTold 2 := ⟨mlX7_circleTold, Or.inl (zv_gt 425 (by decide +kernel) rfl), imX7_circleTold, seX7_circleTold⟩
theorem cvX7_141 : zv_CV RX7 141 mX7_isCalm 1 := ⟨mlX7_isCalm, Or.inl (zv_gt 429 (by decide +kernel) rfl), imX7_isCalm, seX7_isCalm⟩
theorem cvL_57 : zv_CV RL 57 mX7_state 2 := ⟨mlX7_state, Or.inl (zv_gt 433 (by decide +kernel) rfl), imX7_state, seX7_state⟩
theorem cvX7_144 : zv_CV RX7 144 mX7_standing 2 := ⟨mlX7_standing, Or.inl (zv_gt 437 (by decide +kernel) rfl), imX7_standing, seX7_standing⟩
theorem cvL_61 : zv_CV RL 61 mX7_given 3 := ⟨mlX7_given, Or.inl (zv_gt 441 (by decide +kernel) rfl), imX7_given, seX7_given⟩
theorem cvL_65 : zv_CV RL 65 mX7_read 2 := ⟨mlX7_read, Or.inl (zv_gt 445 (by decide +kernel) rfl), imX7_read, seX7_read⟩
theorem cvL_69 : zv_CV RL 69 mX7_why 3 := ⟨mlX7_why, Or.inl (zv_gt 449 (by decide +kernel) rfl), imX7_why, seX7_why⟩
theorem cvX7_161 : zv_CV RX7 161 mX7_whySealed 3 := ⟨mlX7_whySealed, Or.inl (zv_gt 453 (by decide +kernel) rfl), imX7_whySealed, seX7_whySealed⟩
theorem cvL_73 : zv_CV RL 73 mX7_late 1 := ⟨mlX7_late, Or.inl (zv_gt 457 (by decide +kernel) rfl), imX7_late, seX7_late⟩
theorem cvL_77 : zv_CV RL 77 mX7_behind 2 := ⟨mlX7_behind, Or.inl (zv_gt 461 (by decide +kernel) rfl), imX7_behind, seX7_behind⟩
theorem cvX7_173 : zv_CV RX7 173 mX4_has 1 := ⟨mlX4_has, Or.inl (zv_gt 465 (by decide +kernel) rfl), imX4_has, seX4_has⟩
theorem cvL_81 : zv_CV RL 81 mX7_past 1 := ⟨mlX7_past, Or.inl (zv_gt 469 (by decide +kernel) rfl), imX7_past, seX7_past⟩
theorem cvX7_178 : zv_CV RX7 178 mX4_size 0 := ⟨mlX4_size, Or.inl (zv_gt 473 (by decide +kernel) rfl), imX4_size, seX4_size⟩
theorem csX4_15 : zv_CS RX4 15 mJ13_bitCount_95d88 1 := ⟨mlJ13_bitCount_95d88, Or.inl (zv_gt 477 (by decide +kernel) rfl), smJ13_bitCount_95d88⟩
theorem cvL_85 : zv_CV RL 85 mX7_chain 2 := ⟨mlX7_chain, Or.inl (zv_gt 483 (by decide +kernel) rfl), imX7_chain, seX7_chain⟩
theorem cvX7_181 : zv_CV RX7 181 mX7_longestRowTo 2 := ⟨mlX7_longestRowTo, Or.inl (zv_gt 487 (by decide +kernel) rfl), imX7_longestRowTo, seX7_longestRowTo⟩
theorem cvL_89 : zv_CV RL 89 mX7_act 3 := ⟨mlX7_act, Or.inl (zv_gt 491 (by decide +kernel) rfl), imX7_act, seX7_act⟩
theorem cvX7_184 : zv_CV RX7 184 mX6_restart 0 := ⟨mlX6_restart, Or.inl (zv_gt 495 (by decide +kernel) rfl), imX6_restart, seX6_restart⟩
theorem csX7_187 : zv_CS RX7 187 mX7_perform 6 := ⟨mlX7_perform, Or.inl (zv_gt 499 (by decide +kernel) rfl), smX7_perform⟩
theorem csX7_317 : zv_CS RX7 317 mX7_kindWithBody 2 := ⟨mlX7_kindWithBody, Or.inl (zv_gt 502 (by decide +kernel) rfl), smX7_kindWithBody⟩
theorem cvX7_326 : zv_CV RX7 326 mX6_begin 1 := ⟨mlX6_begin, Or.inl (zv_gt 509 (by decide +kernel) rfl), imX6_begin, seX6_begin⟩
theorem cvL_93 : zv_CV RL 93 mX7_trace 1 := ⟨mlX7_trace, Or.inl (zv_gt 513 (by decide +kernel) rfl), imX7_trace, seX7_trace⟩
theorem cvX7_191 : zv_CV RX7 191 mX6_bodyAt 1 := ⟨mlX6_bodyAt, Or.inl (zv_gt 517 (by decide +kernel) rfl), imX6_bodyAt, seX6_bodyAt⟩
theorem cvL_97 : zv_CV RL 97 mX7_bare 3 := ⟨mlX7_bare, Or.inl (zv_gt 521 (by decide +kernel) rfl), imX7_bare, seX7_bare⟩
theorem csX7_194 : zv_CS RX7 194 mX7_isSlot 1 := ⟨mlX7_isSlot, Or.inl (zv_gt 525 (by decide +kernel) rfl), smX7_isSlot⟩
theorem cvL_101 : zv_CV RL 101 mX7_slot 2 := ⟨mlX7_slot, Or.inl (zv_gt 528 (by decide +kernel) rfl), imX7_slot, seX7_slot⟩
theorem cvL_105 : zv_CV RL 105 mX7_forge 4 := ⟨mlX7_forge, Or.inl (zv_gt 532 (by decide +kernel) rfl), imX7_forge, seX7_forge⟩
theorem cvX7_201 : zv_CV RX7 201 mX7_forgeSerial 2 := ⟨mlX7_forgeSerial, Or.inl (zv_gt 536 (by decide +kernel) rfl), imX7_forgeSerial, seX7_forgeSerial⟩
theorem csX7_329 : zv_CS RX7 329 mJ9_floorMod_7cf53 2 := ⟨mlJ9_floorMod_7cf53, Or.inl (zv_gt 540 (by decide +kernel) rfl), smJ9_floorMod_7cf53⟩
theorem csX7_334 : zv_CS RX7 334 mX7_isKindOrUnder 2 := ⟨mlX7_isKindOrUnder, Or.inl (zv_gt 543 (by decide +kernel) rfl), smX7_isKindOrUnder⟩
theorem cvX7_205 : zv_CV RX7 205 mX7_forgeCount 2 := ⟨mlX7_forgeCount, Or.inl (zv_gt 546 (by decide +kernel) rfl), imX7_forgeCount, seX7_forgeCount⟩
theorem csX7_337 : zv_CS RX7 337 mX7_firstRowOf 1 := ⟨mlX7_firstRowOf, Or.inl (zv_gt 550 (by decide +kernel) rfl), smX7_firstRowOf⟩
theorem cvX7_348 : zv_CV RX7 348 mX1_firstRow 0 := ⟨mlX1_firstRow, Or.inl (zv_gt 553 (by decide +kernel) rfl), imX1_firstRow, seX1_firstRow⟩
theorem cvX7_341 : zv_CV RX7 341 mX7_refuseAsClock 1 := ⟨mlX7_refuseAsClock, Or.inl (zv_gt 557 (by decide +kernel) rfl), imX7_refuseAsClock, seX7_refuseAsClock⟩
theorem cvX7_208 : zv_CV RX7 208 mX7_forgeRowSum 2 := ⟨mlX7_forgeRowSum, Or.inl (zv_gt 561 (by decide +kernel) rfl), imX7_forgeRowSum, seX7_forgeRowSum⟩
theorem csX7_344 : zv_CS RX7 344 mX7_sum 3 := ⟨mlX7_sum, Or.inl (zv_gt 565 (by decide +kernel) rfl), smX7_sum⟩
theorem cvX7_211 : zv_CV RX7 211 mX7_forgeCopy 2 := ⟨mlX7_forgeCopy, Or.inl (zv_gt 568 (by decide +kernel) rfl), imX7_forgeCopy, seX7_forgeCopy⟩
theorem cvX7_214 : zv_CV RX7 214 mX7_forgeStore 1 := ⟨mlX7_forgeStore, Or.inl (zv_gt 572 (by decide +kernel) rfl), imX7_forgeStore, seX7_forgeStore⟩
theorem cvL_110 : zv_CV RL 110 mX7_status 0 := ⟨mlX7_status, Or.inl (zv_gt 576 (by decide +kernel) rfl), imX7_status, seX7_status⟩
theorem ciL_12 : zv_CI RL 12 mX8_init 0 := ⟨mlX8_init, rfl, rfl, Or.inl (zv_gt 582 (by decide +kernel) rfl), imX8_init⟩
theorem cvL_17 : zv_CV RL 17 mX8_member 0 := ⟨mlX8_member, Or.inl (zv_gt 673 (by decide +kernel) rfl), imX8_member, seX8_member⟩
theorem cvX8_103 : zv_CV RX8 103 mX8_refused 1 := ⟨mlX8_refused, Or.inl (zv_gt 677 (by decide +kernel) rfl), imX8_refused, seX8_refused⟩
theorem cvX8_106 : zv_CV RX8 106 mX8_done 1 := ⟨mlX8_done, Or.inl (zv_gt 681 (by decide +kernel) rfl), imX8_done, seX8_done⟩
theorem cvL_22 : zv_CV RL 22 mX8_circle 1 := ⟨mlX8_circle, Or.inl (zv_gt 685 (by decide +kernel) rfl), imX8_circle, seX8_circle⟩
theorem cvL_27 : zv_CV RL 27 mX8_write 3 := ⟨mlX8_write, Or.inl (zv_gt 689 (by decide +kernel) rfl), imX8_write, seX8_write⟩
theorem cvX8_138 : zv_CV RX8 138 mX8_call 5 := ⟨mlX8_call, Or.inl (zv_gt 693 (by decide +kernel) rfl), imX8_call, seX8_call⟩
theorem cvX8_113 : zv_CV RX8 113 mX8_isMember 1 := ⟨mlX8_isMember, Or.inl (zv_gt 697 (by decide +kernel) rfl), imX8_isMember, seX8_isMember⟩
theorem csX8_82 : zv_CS RX8 82 mX8_in 3 := ⟨mlX8_in, Or.inl (zv_gt 701 (by decide +kernel) rfl), smX8_in⟩
theorem cvX8_117 : zv_CV RX8 117 mX8_isCircle 1 := ⟨mlX8_isCircle, Or.inl (zv_gt 704 (by decide +kernel) rfl), imX8_isCircle, seX8_isCircle⟩
theorem cvX8_92 : zv_CV RX8 92 mX8_isIn 2 := ⟨mlX8_isIn, Or.inl (zv_gt 708 (by decide +kernel) rfl), imX8_isIn, seX8_isIn⟩
theorem cvX8_123 : zv_CV RX8 123 mX8_made 4 := ⟨mlX8_made, Or.inl (zv_gt 712 (by decide +kernel) rfl), imX8_made, seX8_made⟩
theorem cvX8_127 : zv_CV RX8 127 mX8_counts 3 := ⟨mlX8_counts, Or.inl (zv_gt 716 (by decide +kernel) rfl), imX8_counts, seX8_counts⟩
theorem cvX8_131 : zv_CV RX8 131 mX8_goes 1 := ⟨mlX8_goes, Or.inl (zv_gt 720 (by decide +kernel) rfl), imX8_goes, seX8_goes⟩
theorem cvX8_109 : zv_CV RX8 109 mX8_holds 2 := ⟨mlX8_holds, Or.inl (zv_gt 724 (by decide +kernel) rfl), imX8_holds, seX8_holds⟩
theorem cvX8_135 : zv_CV RX8 135 mX8_gives 1 := ⟨mlX8_gives, Or.inl (zv_gt 728 (by decide +kernel) rfl), imX8_gives, seX8_gives⟩
theorem cvX8_164 : zv_CV RX8 164 mX8_next 1 := ⟨mlX8_next, Or.inl (zv_gt 732 (by decide +kernel) rfl), imX8_next, seX8_next⟩
theorem cvX8_161 : zv_CV RX8 161 mX8_canGive 2 := ⟨mlX8_canGive, Or.inl (zv_gt 736 (by decide +kernel) rfl), imX8_canGive, seX8_canGive⟩
theorem cvX8_151 : zv_CV RX8 151 mX8_lacking 2 := ⟨mlX8_lacking, Or.inl (zv_gt 740 (by decide +kernel) rfl), imX8_lacking, seX8_lacking⟩
theorem cvX8_145 : zv_CV RX8 145 mX8_lacks 4 := ⟨mlX8_lacks, Or.inl (zv_gt 744 (by decide +kernel) rfl), imX8_lacks, seX8_lacks⟩
theorem cvX8_148 : zv_CV RX8 148 mX8_eldest 1 := ⟨mlX8_eldest, Or.inl (zv_gt 748 (by decide +kernel) rfl), imX8_eldest, seX8_eldest⟩
theorem cvX8_155 : zv_CV RX8 155 mX8_hasOrder 2 := ⟨mlX8_hasOrder, Or.inl (zv_gt 752 (by decide +kernel) rfl), imX8_hasOrder, seX8_hasOrder⟩
theorem cvX8_158 : zv_CV RX8 158 mX8_hasLower 2 := ⟨mlX8_hasLower, Or.inl (zv_gt 756 (by decide +kernel) rfl), imX8_hasLower, seX8_hasLower⟩
theorem cvX8_167 : zv_CV RX8 167 mX8_give 2 := ⟨mlX8_give, Or.inl (zv_gt 760 (by decide +kernel) rfl), imX8_give, seX8_give⟩
theorem cvL_31 : zv_CV RL 31 mX8_reply 3 := ⟨mlX8_reply, Or.inl (zv_gt 764 (by decide +kernel) rfl), imX8_reply, seX8_reply⟩
theorem cvX8_142 : zv_CV RX8 142 mX8_isLetter 1 := ⟨mlX8_isLetter, Or.inl (zv_gt 768 (by decide +kernel) rfl), imX8_isLetter, seX8_isLetter⟩
theorem cvL_35 : zv_CV RL 35 mX8_seal 3 := ⟨mlX8_seal, Or.inl (zv_gt 772 (by decide +kernel) rfl), imX8_seal, seX8_seal⟩
theorem cvL_40 : zv_CV RL 40 mX8_deliver 2 := ⟨mlX8_deliver, Or.inl (zv_gt 776 (by decide +kernel) rfl), imX8_deliver, seX8_deliver⟩
theorem cvL_44 : zv_CV RL 44 mX8_deliverAll 2 := ⟨mlX8_deliverAll, Or.inl (zv_gt 780 (by decide +kernel) rfl), imX8_deliverAll, seX8_deliverAll⟩
theorem cvX8_173 : zv_CV RX8 173 mX8_lined 2 := ⟨mlX8_lined, Or.inl (zv_gt 784 (by decide +kernel) rfl), imX8_lined, seX8_lined⟩
theorem cvX8_170 : zv_CV RX8 170 mX8_lineOf 1 := ⟨mlX8_lineOf, Or.inl (zv_gt 788 (by decide +kernel) rfl), imX8_lineOf, seX8_lineOf⟩
theorem cvL_48 : zv_CV RL 48 mX8_count 1 := ⟨mlX8_count, Or.inl (zv_gt 792 (by decide +kernel) rfl), imX8_count, seX8_count⟩
theorem cvL_52 : zv_CV RL 52 mX8_told 2 := ⟨mlX8_told, Or.inl (zv_gt 796 (by decide +kernel) rfl), imX8_told, seX8_told⟩
theorem cvX8_179 : zv_CV RX8 179 mX8_countsOf 1 := ⟨mlX8_countsOf, Or.inl (zv_gt 800 (by decide +kernel) rfl), imX8_countsOf, seX8_countsOf⟩
theorem cvL_56 : zv_CV RL 56 mX8_circleTold 2 := ⟨mlX8_circleTold, Or.inl (zv_gt 804 (by decide +kernel) rfl), imX8_circleTold, seX8_circleTold⟩
theorem cvX8_182 : zv_CV RX8 182 mX8_isCalm 1 := ⟨mlX8_isCalm, Or.inl (zv_gt 808 (by decide +kernel) rfl), imX8_isCalm, seX8_isCalm⟩
theorem cvL_60 : zv_CV RL 60 mX8_state 2 := ⟨mlX8_state, Or.inl (zv_gt 812 (by decide +kernel) rfl), imX8_state, seX8_state⟩
theorem cvL_64 : zv_CV RL 64 mX8_given 3 := ⟨mlX8_given, Or.inl (zv_gt 816 (by decide +kernel) rfl), imX8_given, seX8_given⟩
theorem cvL_68 : zv_CV RL 68 mX8_read 2 := ⟨mlX8_read, Or.inl (zv_gt 820 (by decide +kernel) rfl), imX8_read, seX8_read⟩
theorem cvL_72 : zv_CV RL 72 mX8_why 3 := ⟨mlX8_why, Or.inl (zv_gt 824 (by decide +kernel) rfl), imX8_why, seX8_why⟩
theorem cvL_76 : zv_CV RL 76 mX8_late 1 := ⟨mlX8_late, Or.inl (zv_gt 828 (by decide +kernel) rfl), imX8_late, seX8_late⟩
theorem cvL_80 : zv_CV RL 80 mX8_behind 2 := ⟨mlX8_behind, Or.inl (zv_gt 832 (by decide +kernel) rfl), imX8_behind, seX8_behind⟩
theorem cvL_84 : zv_CV RL 84 mX8_past 1 := ⟨mlX8_past, Or.inl (zv_gt 836 (by decide +kernel) rfl), imX8_past, seX8_past⟩
theorem cvL_88 : zv_CV RL 88 mX8_chain 2 := ⟨mlX8_chain, Or.inl (zv_gt 840 (by decide +kernel) rfl), imX8_chain, seX8_chain⟩
theorem cvL_92 : zv_CV RL 92 mX8_act 3 := ⟨mlX8_act, Or.inl (zv_gt 844 (by decide +kernel) rfl), imX8_act, seX8_act⟩
theorem cvX8_197 : zv_CV RX8 197 mX8_age 2 := ⟨mlX8_age, Or.inl (zv_gt 848 (by decide +kernel) rfl), imX8_age, seX8_age⟩
theorem cvX8_188 : zv_CV RX8 188 mX8_noteAge 2 := ⟨mlX8_noteAge, Or.inl (zv_gt 852 (by decide +kernel) rfl), imX8_noteAge, seX8_noteAge⟩
theorem cvX8_185 : zv_CV RX8 185 mX8_ran 1 := ⟨mlX8_ran, Or.inl (zv_gt 856 (by decide +kernel) rfl), imX8_ran, seX8_ran⟩
theorem cvX8_191 : zv_CV RX8 191 mX8_orderAge 2 := ⟨mlX8_orderAge, Or.inl (zv_gt 860 (by decide +kernel) rfl), imX8_orderAge, seX8_orderAge⟩
theorem cvX8_200 : zv_CV RX8 200 mX8_bear 2 := ⟨mlX8_bear, Or.inl (zv_gt 864 (by decide +kernel) rfl), imX8_bear, seX8_bear⟩
theorem cvX8_194 : zv_CV RX8 194 mX8_noteBear 2 := ⟨mlX8_noteBear, Or.inl (zv_gt 868 (by decide +kernel) rfl), imX8_noteBear, seX8_noteBear⟩
theorem cvX8_206 : zv_CV RX8 206 mX8_giveOf 2 := ⟨mlX8_giveOf, Or.inl (zv_gt 872 (by decide +kernel) rfl), imX8_giveOf, seX8_giveOf⟩
theorem cvX8_203 : zv_CV RX8 203 mX8_noteGive 2 := ⟨mlX8_noteGive, Or.inl (zv_gt 876 (by decide +kernel) rfl), imX8_noteGive, seX8_noteGive⟩
theorem cvX8_212 : zv_CV RX8 212 mX8_waitOf 2 := ⟨mlX8_waitOf, Or.inl (zv_gt 880 (by decide +kernel) rfl), imX8_waitOf, seX8_waitOf⟩
theorem cvX8_209 : zv_CV RX8 209 mX8_noteWait 2 := ⟨mlX8_noteWait, Or.inl (zv_gt 884 (by decide +kernel) rfl), imX8_noteWait, seX8_noteWait⟩
theorem cvL_96 : zv_CV RL 96 mX8_trace 1 := ⟨mlX8_trace, Or.inl (zv_gt 888 (by decide +kernel) rfl), imX8_trace, seX8_trace⟩
theorem cvL_100 : zv_CV RL 100 mX8_bare 3 := ⟨mlX8_bare, Or.inl (zv_gt 892 (by decide +kernel) rfl), imX8_bare, seX8_bare⟩
theorem cvL_104 : zv_CV RL 104 mX8_slot 2 := ⟨mlX8_slot, Or.inl (zv_gt 896 (by decide +kernel) rfl), imX8_slot, seX8_slot⟩
theorem cvL_109 : zv_CV RL 109 mX8_forge 4 := ⟨mlX8_forge, Or.inl (zv_gt 900 (by decide +kernel) rfl), imX8_forge, seX8_forge⟩
theorem cvX8_215 : zv_CV RX8 215 mX8_letterTaken 3 := ⟨mlX8_letterTaken, Or.inl (zv_gt 904 (by decide +kernel) rfl), imX8_letterTaken, seX8_letterTaken⟩
theorem csX8_222 : zv_CS RX8 222 mX8_isOf 2 := ⟨mlX8_isOf, Or.inl (zv_gt 908 (by decide +kernel) rfl), smX8_isOf⟩
theorem csX8_96 : zv_CS RX8 96 mX8_above 1 := ⟨mlX8_above, Or.inl (zv_gt 911 (by decide +kernel) rfl), smX8_above⟩
theorem cvX8_219 : zv_CV RX8 219 mX8_clockTaken 3 := ⟨mlX8_clockTaken, Or.inl (zv_gt 914 (by decide +kernel) rfl), imX8_clockTaken, seX8_clockTaken⟩
theorem cvX8_225 : zv_CV RX8 225 mX8_firstRow 1 := ⟨mlX8_firstRow, Or.inl (zv_gt 918 (by decide +kernel) rfl), imX8_firstRow, seX8_firstRow⟩
theorem cvX8_228 : zv_CV RX8 228 mX8_sumOf 4 := ⟨mlX8_sumOf, Or.inl (zv_gt 922 (by decide +kernel) rfl), imX8_sumOf, seX8_sumOf⟩
theorem cvL_113 : zv_CV RL 113 mX8_status 0 := ⟨mlX8_status, Or.inl (zv_gt 926 (by decide +kernel) rfl), imX8_status, seX8_status⟩
theorem iniL : Cond.initialized RL ∈ zv_gw := zv_gt 0 (by decide +kernel) rfl
theorem iniX7 : Cond.initialized RX7 ∈ zv_gw := zv_gt 1 (by decide +kernel) rfl
theorem iniX6 : Cond.initialized RX6 ∈ zv_gw := zv_gt 2 (by decide +kernel) rfl
theorem iniX8 : Cond.initialized RX8 ∈ zv_gw := zv_gt 3 (by decide +kernel) rfl
theorem iniX3 : Cond.initialized RX3 ∈ zv_gw := zv_gt 4 (by decide +kernel) rfl
theorem iniX4 : Cond.initialized RX4 ∈ zv_gw := zv_gt 5 (by decide +kernel) rfl
theorem iniJ6 : Cond.initialized RJ6 ∈ zv_gw := zv_gt 6 (by decide +kernel) rfl
theorem iniX0 : Cond.initialized RX0 ∈ zv_gw := zv_gt 7 (by decide +kernel) rfl
theorem iniX1 : Cond.initialized RX1 ∈ zv_gw := zv_gt 8 (by decide +kernel) rfl
theorem iniX2 : Cond.initialized RX2 ∈ zv_gw := zv_gt 9 (by decide +kernel) rfl
theorem iniJ13 : Cond.initialized RJ13 ∈ zv_gw := zv_gt 10 (by decide +kernel) rfl
theorem iniJ9 : Cond.initialized RJ9 ∈ zv_gw := zv_gt 11 (by decide +kernel) rfl
theorem clL_7 : Cond.classLink RL 7 RX7 ∈ zv_gw := zv_gt 12 (by decide +kernel) rfl
theorem insX7 : Cond.instantiable RX7 10 ∈ zv_gw := zv_gt 13 (by decide +kernel) rfl
theorem oiX7_1 : Cond.methodLink RX7 1 objectInit ∈ zv_gw := zv_gt 17 (by decide +kernel) rfl
theorem clX7_9 : Cond.classLink RX7 9 RX3 ∈ zv_gw := zv_gt 20 (by decide +kernel) rfl
theorem clX7_15 : Cond.classLink RX7 15 RX0 ∈ zv_gw := zv_gt 22 (by decide +kernel) rfl
theorem clX7_21 : Cond.classLink RX7 21 RX2 ∈ zv_gw := zv_gt 24 (by decide +kernel) rfl
theorem clX7_31 : Cond.classLink RX7 31 RX6 ∈ zv_gw := zv_gt 26 (by decide +kernel) rfl
theorem insX6 : Cond.instantiable RX6 2 ∈ zv_gw := zv_gt 27 (by decide +kernel) rfl
theorem oiX6_3 : Cond.methodLink RX6 3 objectInit ∈ zv_gw := zv_gt 31 (by decide +kernel) rfl
theorem ac_int : Cond.arrayClass .int ∈ zv_gw := zv_gt 39 (by decide +kernel) rfl
theorem insX3 : Cond.instantiable RX3 10 ∈ zv_gw := zv_gt 79 (by decide +kernel) rfl
theorem oiX3_3 : Cond.methodLink RX3 3 objectInit ∈ zv_gw := zv_gt 83 (by decide +kernel) rfl
theorem clX3_9 : Cond.classLink RX3 9 "[[I" ∈ zv_gw := zv_gt 84 (by decide +kernel) rfl
theorem clX3_23 : Cond.classLink RX3 23 RX1 ∈ zv_gw := zv_gt 86 (by decide +kernel) rfl
theorem clX3_32 : Cond.classLink RX3 32 RX2 ∈ zv_gw := zv_gt 88 (by decide +kernel) rfl
theorem clX3_38 : Cond.classLink RX3 38 RX5 ∈ zv_gw := zv_gt 89 (by decide +kernel) rfl
theorem clX3_44 : Cond.classLink RX3 44 RX4 ∈ zv_gw := zv_gt 91 (by decide +kernel) rfl
theorem insX4 : Cond.instantiable RX4 1 ∈ zv_gw := zv_gt 92 (by decide +kernel) rfl
theorem oiX4_3 : Cond.methodLink RX4 3 objectInit ∈ zv_gw := zv_gt 96 (by decide +kernel) rfl
theorem ac_long : Cond.arrayClass .long ∈ zv_gw := zv_gt 101 (by decide +kernel) rfl
theorem kcJ6_265 : Cond.constant RJ6 265 1431655765 ∈ zv_gw := zv_gt 153 (by decide +kernel) rfl
theorem kcJ6_266 : Cond.constant RJ6 266 858993459 ∈ zv_gw := zv_gt 154 (by decide +kernel) rfl
theorem kcJ6_267 : Cond.constant RJ6 267 252645135 ∈ zv_gw := zv_gt 155 (by decide +kernel) rfl
theorem insX0 : Cond.instantiable RX0 3 ∈ zv_gw := zv_gt 156 (by decide +kernel) rfl
theorem oiX0_1 : Cond.methodLink RX0 1 objectInit ∈ zv_gw := zv_gt 166 (by decide +kernel) rfl
theorem clX7_125 : Cond.classLink RX7 125 RX1 ∈ zv_gw := zv_gt 217 (by decide +kernel) rfl
theorem insX1 : Cond.instantiable RX1 2 ∈ zv_gw := zv_gt 218 (by decide +kernel) rfl
theorem oiX1_3 : Cond.methodLink RX1 3 objectInit ∈ zv_gw := zv_gt 222 (by decide +kernel) rfl
theorem clX1_9 : Cond.classLink RX1 9 "[I" ∈ zv_gw := zv_gt 223 (by decide +kernel) rfl
theorem ca_242 : Cond.castable "[I" RJx8e188 ∈ zv_nw := zv_nt 242 (by decide +kernel) rfl
theorem insX2 : Cond.instantiable RX2 13 ∈ zv_gw := zv_gt 243 (by decide +kernel) rfl
theorem oiX2_3 : Cond.methodLink RX2 3 objectInit ∈ zv_gw := zv_gt 247 (by decide +kernel) rfl
theorem clX2_9 : Cond.classLink RX2 9 RX4 ∈ zv_gw := zv_gt 248 (by decide +kernel) rfl
theorem kcJ13_314 : Cond.constantLong RJ13 314 6148914691236517205 ∈ zv_gw := zv_gt 480 (by decide +kernel) rfl
theorem kcJ13_316 : Cond.constantLong RJ13 316 3689348814741910323 ∈ zv_gw := zv_gt 481 (by decide +kernel) rfl
theorem kcJ13_318 : Cond.constantLong RJ13 318 1085102592571150095 ∈ zv_gw := zv_gt 482 (by decide +kernel) rfl
theorem clL_10 : Cond.classLink RL 10 RX8 ∈ zv_gw := zv_gt 580 (by decide +kernel) rfl
theorem insX8 : Cond.instantiable RX8 28 ∈ zv_gw := zv_gt 581 (by decide +kernel) rfl
theorem oiX8_1 : Cond.methodLink RX8 1 objectInit ∈ zv_gw := zv_gt 585 (by decide +kernel) rfl
theorem kcX8_64 : Cond.constant RX8 64 40000 ∈ zv_gw := zv_gt 586 (by decide +kernel) rfl
theorem ac_boolean : Cond.arrayClass .boolean ∈ zv_gw := zv_gt 672 (by decide +kernel) rfl
theorem ca_930 : Cond.castable RX2 RX2 ∈ zv_nw := zv_nt 930 (by decide +kernel) rfl
theorem ca_931 : Cond.castable RX1 RX1 ∈ zv_nw := zv_nt 931 (by decide +kernel) rfl
theorem ca_932 : Cond.castable RX1 RX5 ∈ zv_nw := zv_nt 932 (by decide +kernel) rfl
theorem ca_933 : Cond.castable RX2 RX5 ∈ zv_nw := zv_nt 933 (by decide +kernel) rfl
