/-! WHAT HOLDS AT THE LAW'S ENTRY -/
theorem lw_mt {w : Cond} (i : Nat) (h : tables_1[i]? = some w) : w ∈ lw_tbl := List.mem_append_right _ (List.mem_of_getElem? h)
theorem lw_bodm : ∀ j : Fin 24, Cond.eq (.elem (.static RX7 "BODIES" "[I") (.int (Int32.ofNat j.1))) (.int (zv_bod j.1)) ∈ flatC (Jvm.Cond.and given_1 narrow_1) := by decide +kernel
theorem lw_kabm : ∀ j : Fin 6, Cond.eq (.elem (.static RX7 "KIND_ABOVE" "[I") (.int (Int32.ofNat j.1))) (.int (zv_kab j.1)) ∈ flatC (Jvm.Cond.and given_1 narrow_1) := by decide +kernel
theorem lw_aP {s : State} {B : Array Value} {ty : FieldType} (h : (Cond.arrayClass ty).before B s = true) : ∃ cA : ClassId, ArrOfT s cA ty ∧ s.vm.findClass ("[" ++ ty.toString) = some cA := by
  obtain ⟨cA, kA, comp, h1, h2, h3⟩ := Cond.arrayClass_spec h
  exact ⟨cA, fun n z => ⟨fun k h => (by cases h), kA, h2, comp, h3⟩, h1⟩
theorem lw_aO {s : State} {B : Array Value} {C : String} (h : (Cond.arrayOver (.object C)).before B s = true) : ∃ cA : ClassId, ArrOfT s cA (.object C) ∧ va_RA s cA (.object C) := by
  obtain ⟨comp, cA, kA, h1, -, h3, h4, h5⟩ := Cond.arrayOver_spec h
  exact ⟨cA, fun n z => ⟨fun k h => (by cases h), kA, h3, comp, h4⟩, kA, comp, h3, h4, h1, h5⟩
theorem lw_aA {s : State} {B : Array Value} (h : (Cond.arrayOver (.array .int)).before B s = true) : ∃ cA : ClassId, ArrOfT s cA (.array .int) ∧ va_RA s cA (.array .int) := by
  obtain ⟨comp, cA, kA, h1, -, h3, h4, h5⟩ := arrayOverA_spec h
  exact ⟨cA, fun n z => ⟨fun k h => (by cases h), kA, h3, comp, h4⟩, h5⟩
theorem lw_E {s : State} {b L : Nat} {xs : Nat → Int32} (hts : ∀ w ∈ lw_tbl, w.before #[Value.ref b] s = true) (hX : va_X b L xs s s.heap) (hbl : b < s.heap.size) (hgv : (Jvm.Cond.and given_1 narrow_1).before #[Value.ref b] s = true) : ∃ E : zv_E, E.1 = s.heap.size ∧ E.2.2.2.1 0 = b ∧ E.2.2.2.2.1 = L ∧ zv_T E s := by
  have hgw : ∀ w ∈ zv_gw, w.before #[Value.ref b] s = true := fun w hw => hts w (List.mem_filter.mp hw).1
  have hf := flat_of_before _ hgv
  have hA : ∀ a : Nat, a < s.heap.size → ¬ (fun q : Nat => s.heap.size ≤ q) a := fun a h q => absurd q (Nat.not_le.mpr h)
  obtain ⟨c0, i0, k0⟩ := u_known (C := RX0) (T := TX0) (N := 3) (n := 3) hgw inX0 (hgw _ insX0)
  obtain ⟨c1, i1, k1⟩ := u_known (C := RX1) (T := TX1) (N := 2) (n := 2) hgw inX1 (hgw _ insX1)
  obtain ⟨c2, i2, k2⟩ := u_known (C := RX2) (T := TX2) (N := 13) (n := 13) hgw inX2 (hgw _ insX2)
  obtain ⟨c3, i3, k3⟩ := u_known (C := RX3) (T := TX3) (N := 10) (n := 10) hgw inX3 (hgw _ insX3)
  obtain ⟨c4, i4, k4⟩ := u_known (C := RX4) (T := TX4) (N := 1) (n := 1) hgw inX4 (hgw _ insX4)
  obtain ⟨c5, i5, k5⟩ := u_known (C := RX6) (T := TX6) (N := 2) (n := 2) hgw inX6 (hgw _ insX6)
  obtain ⟨c6, i6, k6⟩ := u_known (C := RX7) (T := TX7) (N := 10) (n := 10) hgw inX7 (hgw _ insX7)
  obtain ⟨c7, i7, k7⟩ := u_known (C := RX8) (T := TX8) (N := 28) (n := 28) hgw inX8 (hgw _ insX8)
  obtain ⟨a0, p0, r0⟩ := lw_aP (hgw _ ac_int)
  obtain ⟨a1, p1, r1⟩ := lw_aP (hgw _ ac_long)
  obtain ⟨a2, p2, r2⟩ := lw_aP (hgw _ ac_boolean)
  have w3 : (Cond.arrayOver (.array .int)).before #[Value.ref b] s = true := hts _ (lw_mt 85 (by decide +kernel))
  have w4 : (Cond.arrayOver (.object RX3)).before #[Value.ref b] s = true := hts _ (lw_mt 21 (by decide +kernel))
  have w5 : (Cond.arrayOver (.object RX0)).before #[Value.ref b] s = true := hts _ (lw_mt 23 (by decide +kernel))
  have w6 : (Cond.arrayOver (.object RX2)).before #[Value.ref b] s = true := hts _ (lw_mt 25 (by decide +kernel))
  have w7 : (Cond.arrayOver (.object RX1)).before #[Value.ref b] s = true := hts _ (lw_mt 87 (by decide +kernel))
  have w8 : (Cond.arrayOver (.object RX5)).before #[Value.ref b] s = true := hts _ (lw_mt 90 (by decide +kernel))
  obtain ⟨a3, p3, r3⟩ := lw_aA w3
  obtain ⟨a4, p4, r4⟩ := lw_aO w4
  obtain ⟨a5, p5, r5⟩ := lw_aO w5
  obtain ⟨a6, p6, r6⟩ := lw_aO w6
  obtain ⟨a7, p7, r7⟩ := lw_aO w7
  obtain ⟨a8, p8, r8⟩ := lw_aO w8
  obtain ⟨tB, eB, hB⟩ := va_Tof (tm := .static RX7 "BODIES" "[I") (ty := .int) (N := 24) (f := fun j => .int (zv_bod j)) (A := fun q : Nat => s.heap.size ≤ q) (by decide) (hf _ (by decide +kernel)) (va_eqt (hf _ (by decide +kernel))) (fun j hj => va_eqt (hf _ (lw_bodm ⟨j, hj⟩))) hA
  obtain ⟨tK, eK, hK⟩ := va_Tof (tm := .static RX7 "KIND_ABOVE" "[I") (ty := .int) (N := 6) (f := fun j => .int (zv_kab j)) (A := fun q : Nat => s.heap.size ≤ q) (by decide) (hf _ (by decide +kernel)) (va_eqt (hf _ (by decide +kernel))) (fun j hj => va_eqt (hf _ (lw_kabm ⟨j, hj⟩))) hA
  have zB := va_Zref (A := fun q : Nat => s.heap.size ≤ q) (hts (.laysStatic RX7 "BODIES" "[I") (lw_mt 506 (by decide +kernel))) (hgw _ iniX7) eB hA
  have zK := va_Zref (A := fun q : Nat => s.heap.size ≤ q) (hts (.laysStatic RX7 "KIND_ABOVE" "[I") (lw_mt 508 (by decide +kernel))) (hgw _ iniX7) eK hA
  obtain ⟨scr, x1, x2, x3, x4, x5⟩ := hX
  refine ⟨(s.heap.size, (fun k => match k with | 0 => c0 | 1 => c1 | 2 => c2 | 3 => c3 | 4 => c4 | 5 => c5 | 6 => c6 | _ => c7, fun k => match k with | 0 => i0 | 1 => i1 | 2 => i2 | 3 => i3 | 4 => i4 | 5 => i5 | 6 => i6 | _ => i7), fun k => match k with | 0 => a0 | 1 => a1 | 2 => a2 | 3 => a3 | 4 => a4 | 5 => a5 | 6 => a6 | 7 => a7 | _ => a8, fun t => match t with | 0 => b | 1 => tB | _ => tK, L, xs), rfl, rfl, rfl, ⟨?_, ?_⟩, ?_, ?_, w3, ?_, zB, zK, ⟨scr, x1, x2, x3, Nat.le_of_eq x4.symm, by rw [x4], x5, fun q => absurd q (Nat.not_le.mpr hbl)⟩, hB, hK, Nat.le_refl _⟩
  · intro k q hq
    match k, hq with
    | 0, hq => cases hq; exact k0
    | 1, hq => cases hq; exact k1
    | 2, hq => cases hq; exact k2
    | 3, hq => cases hq; exact k3
    | 4, hq => cases hq; exact k4
    | 5, hq => cases hq; exact k5
    | 6, hq => cases hq; exact k6
    | 7, hq => cases hq; exact k7
    | k + 8, hq => simp [zv_cl] at hq
  · intro k q hq
    match k, hq with
    | 0, hq => cases hq; exact ⟨p0, r0⟩
    | 1, hq => cases hq; exact ⟨p1, r1⟩
    | 2, hq => cases hq; exact ⟨p2, r2⟩
    | 3, hq => cases hq; exact ⟨p3, r3⟩
    | 4, hq => cases hq; exact ⟨p4, r4⟩
    | 5, hq => cases hq; exact ⟨p5, r5⟩
    | 6, hq => cases hq; exact ⟨p6, r6⟩
    | 7, hq => cases hq; exact ⟨p7, r7⟩
    | 8, hq => cases hq; exact ⟨p8, r8⟩
    | k + 9, hq => simp [zv_tys] at hq
  · intro w hw
    exact va_Nw.of (zv_nwo (zv_nw_is hw)) (hts w (List.mem_append_right _ (List.mem_filter.mp hw).1))
  · intro C hC
    simp only [zv_ao, List.mem_cons, List.not_mem_nil, or_false] at hC
    rcases hC with rfl | rfl | rfl | rfl | rfl
    · exact va_AO.of w4
    · exact va_AO.of w5
    · exact va_AO.of w6
    · exact va_AO.of w7
    · exact va_AO.of w8
  · intro q hq
    simp only [zv_nc, List.mem_cons, List.not_mem_nil, or_false] at hq
    rcases hq with rfl | rfl
    · exact va_Nc.of (hf (Cond.not (.castable RX1 RX2)) (by decide +kernel))
    · exact va_Nc.of (hf (Cond.not (.castable RX2 RX1)) (by decide +kernel))
