/-! SEARCHES: the first place from k on, n places long -/
def rm_fst (p : Nat → Bool) : Nat → Nat → Option Nat
  | 0, _ => none
  | n + 1, k => if p k = true then some k else rm_fst p n (k + 1)
def rm_o : Option Nat → Int32
  | none => -1
  | some j => nI j
theorem rm_fst_t {p : Nat → Bool} {n k : Nat} (h : p k = true) : rm_fst p (n + 1) k = some k := if_pos h
theorem rm_fst_f {p : Nat → Bool} {n k : Nat} (h : p k = false) : rm_fst p (n + 1) k = rm_fst p n (k + 1) := if_neg (by rw [h]; decide)
theorem rm_fst_some {p : Nat → Bool} : ∀ {n k j : Nat}, rm_fst p n k = some j → k ≤ j ∧ j < k + n ∧ p j = true ∧ ∀ i, k ≤ i → i < j → p i = false
  | 0, k, j, h => by cases h
  | n + 1, k, j, h => by
    cases hp : p k with
    | true =>
      rw [rm_fst_t hp] at h
      cases h
      exact ⟨Nat.le_refl _, by omega, hp, fun i h1 h2 => by omega⟩
    | false =>
      rw [rm_fst_f hp] at h
      obtain ⟨h1, h2, h3, h4⟩ := rm_fst_some h
      refine ⟨by omega, by omega, h3, fun i g1 g2 => ?_⟩
      by_cases e : i = k
      · rw [e]; exact hp
      · exact h4 i (by omega) g2
theorem rm_fst_none {p : Nat → Bool} : ∀ {n k : Nat}, rm_fst p n k = none ↔ ∀ i, k ≤ i → i < k + n → p i = false
  | 0, k => ⟨fun _ i h1 h2 => by omega, fun _ => rfl⟩
  | n + 1, k => by
    cases hp : p k with
    | true =>
      rw [rm_fst_t hp]
      exact ⟨fun h => (by cases h), fun h => (by rw [h k (Nat.le_refl _) (by omega)] at hp; cases hp)⟩
    | false =>
      rw [rm_fst_f hp, rm_fst_none]
      refine ⟨fun h i h1 h2 => ?_, fun h i h1 h2 => h i (by omega) (by omega)⟩
      by_cases e : i = k
      · rw [e]; exact hp
      · exact h i (by omega) (by omega)
theorem rm_fst_is {p : Nat → Bool} {n k j : Nat} (h1 : k ≤ j) (h2 : j < k + n) (h3 : p j = true) (h4 : ∀ i, k ≤ i → i < j → p i = false) : rm_fst p n k = some j := by
  cases h : rm_fst p n k with
  | none => rw [rm_fst_none.mp h j h1 h2] at h3; cases h3
  | some i =>
    obtain ⟨g1, g2, g3, g4⟩ := rm_fst_some h
    rcases Nat.lt_trichotomy i j with e | e | e
    · rw [h4 i g1 e] at g3; cases g3
    · rw [e]
    · rw [g4 j h1 e] at h3; cases h3
theorem rm_o_neg (o : Option Nat) (h : ∀ j, o = some j → j < 2 ^ 31) : rm_o o = -1 ↔ o = none := by
  cases o with
  | none => exact ⟨fun _ => rfl, fun _ => rfl⟩
  | some j =>
    refine ⟨fun q => ?_, fun q => by cases q⟩
    have h1 : nI j = -1 := q
    have h2 := congrArg Int32.toInt h1
    rw [nI_toInt (h j rfl)] at h2
    have h3 : (-1 : Int32).toInt = -1 := by decide
    omega
theorem rm_ni1 {j : Nat} (h : j < 2 ^ 31) : ¬ nI j = (-1 : Int32) := by
  intro q
  have h2 := congrArg Int32.toInt q
  rw [nI_toInt h] at h2
  have h3 : (-1 : Int32).toInt = -1 := by decide
  omega
