theorem msk_k : ∀ k : Fin 9, ((-1 : Int32) <<< (nI k.1 &&& 31)).toBitVec = BitVec.allOnes 32 <<< k.1 := by decide +kernel
theorem msk_lt {x : Int32} {k : Nat} (hk : k ≤ 8) (h : x &&& ((-1 : Int32) <<< (nI k &&& 31)) = 0) : ∃ n, n < 2 ^ k ∧ x = nI n := by
  have h1 : x.toBitVec &&& (BitVec.allOnes 32 <<< k) = 0#32 := by
    rw [← msk_k ⟨k, by omega⟩, ← Int32.toBitVec_and, h]
    rfl
  have h2 : x.toBitVec.toNat < 2 ^ k := by
    apply Nat.lt_pow_two_of_testBit
    intro i hi
    by_cases q : i < 32
    · have h3 : (x.toBitVec &&& (BitVec.allOnes 32 <<< k)).getLsbD i = (0#32).getLsbD i := by rw [h1]
      rw [BitVec.getLsbD_and, BitVec.getLsbD_shiftLeft, BitVec.getLsbD_allOnes, BitVec.getLsbD_zero, decide_eq_true q, decide_eq_false (show ¬ i < k by omega), decide_eq_true (show i - k < 32 by omega)] at h3
      have h4 : x.toBitVec.getLsbD i = false := by
        cases hb : x.toBitVec.getLsbD i with
        | false => rfl
        | true => rw [hb] at h3; cases h3
      exact h4
    · exact Nat.testBit_lt_two_pow (Nat.lt_of_lt_of_le x.toBitVec.isLt (Nat.pow_le_pow_right (by omega) (by omega)))
  refine ⟨x.toBitVec.toNat, h2, Int32.toBitVec_inj.mp ?_⟩
  show x.toBitVec = BitVec.ofNat 32 x.toBitVec.toNat
  simp
theorem cib_i : ∀ k : Fin 9, ∀ n : Fin 256, n.1 < 2 ^ k.1 → (rm_cib (nI n.1) k.1 = false ↔ nI 2 ≤ cbc (nI n.1)) := by decide +kernel
theorem msk_z : ∀ k : Fin 9, ∀ n : Fin 256, n.1 < 2 ^ k.1 → nI n.1 &&& ((-1 : Int32) <<< (nI k.1 &&& 31)) = 0 := by decide +kernel
