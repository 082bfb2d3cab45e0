/-! THE MODEL'S METHODS: words -/
def rm_b (b : Bool) : Int32 := if b = true then 1 else 0
theorem rm_nb (b : Bool) : narrow .boolean (.int (rm_b b)) = .int (rm_b b) := by cases b <;> rfl
theorem rm_b_z (b : Bool) : rm_b b = 0 ↔ b = false := by cases b <;> simp [rm_b]
/-- 0 ≤ x < n -/
def rm_lt (x : Int32) (n : Nat) : Bool := decide (0 ≤ x.toInt ∧ x.toInt < n)
theorem rm_lt_t {x : Int32} {n : Nat} (h : rm_lt x n = true) (hn : n < 2 ^ 31) : ∃ j, j < n ∧ x = nI j := by
  simp only [rm_lt, decide_eq_true_eq] at h
  refine ⟨x.toInt.toNat, by omega, Int32.toInt_inj.mp ?_⟩
  rw [nI_toInt (by omega)]
  omega
theorem rm_lt_n {j n : Nat} (hj : j < 2 ^ 31) : rm_lt (nI j) n = decide (j < n) := by
  simp only [rm_lt, nI_toInt hj]
  congr 1
  exact propext ⟨fun h => by omega, fun h => by omega⟩
theorem zv_cat_i (l : List Int32) : ∀ w ∈ l.map Value.int, w.category = 1 := by
  intro w hw
  obtain ⟨x, -, rfl⟩ := List.mem_map.mp hw
  rfl
/-- answers x, leaves the rows -/
def rm_p (x : Int32) (a : zv_I) : Option Value → zv_I → Prop := fun v b => v = some (.int x) ∧ a = b
section MB
variable {M : zv_M} {d pc : Nat} {lv st : List Value} {a : zv_I} {Q : Option Value → zv_I → Prop}
theorem rm_ifB_eq {b : Bool} {off : Int} {tgt : Nat} (hd : decode M.2.1 pc = .ok (.ifCond .eq off, 3)) (ht : (pc : Int) + off = (tgt : Int)) (kt : b = false → rm_V M d tgt lv st a Q) (kf : b = true → rm_V M d (pc + 3) lv st a Q) : rm_V M d pc lv (.int (rm_b b) :: st) a Q :=
  rm_if_eq hd ht (fun h => kt ((rm_b_z b).mp h)) (fun h => kf (by cases b; exact absurd rfl h; rfl))
theorem rm_ifB_ne {b : Bool} {off : Int} {tgt : Nat} (hd : decode M.2.1 pc = .ok (.ifCond .ne off, 3)) (ht : (pc : Int) + off = (tgt : Int)) (kt : b = true → rm_V M d tgt lv st a Q) (kf : b = false → rm_V M d (pc + 3) lv st a Q) : rm_V M d pc lv (.int (rm_b b) :: st) a Q :=
  rm_if_ne hd ht (fun h => kt (by cases b; exact absurd rfl h; rfl)) (fun h => kf ((rm_b_z b).mp h))
end MB
