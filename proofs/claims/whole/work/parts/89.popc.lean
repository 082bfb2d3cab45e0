/-! NUMBERS BY THEIR DIGITS of k bits -/
def zp_d (k : Nat) : Nat → (Nat → Nat) → Nat
  | 0, _ => 0
  | n + 1, f => f 0 + 2 ^ k * zp_d k n (fun i => f (i + 1))
theorem zp_s (k n : Nat) (f : Nat → Nat) : zp_d k (n + 1) f = f 0 + 2 ^ k * zp_d k n (fun i => f (i + 1)) := rfl
theorem zp_and {k a b c d : Nat} (ha : a < 2 ^ k) (hc : c < 2 ^ k) : (a + 2 ^ k * b) &&& (c + 2 ^ k * d) = (a &&& c) + 2 ^ k * (b &&& d) := by
  have h1 : ((a + 2 ^ k * b) &&& (c + 2 ^ k * d)) % 2 ^ k = a &&& c := by
    rw [Nat.and_mod_two_pow, Nat.add_mul_mod_self_left, Nat.add_mul_mod_self_left, Nat.mod_eq_of_lt ha, Nat.mod_eq_of_lt hc]
  have h2 : ((a + 2 ^ k * b) &&& (c + 2 ^ k * d)) / 2 ^ k = b &&& d := by
    rw [Nat.and_div_two_pow, Nat.add_mul_div_left _ _ (Nat.two_pow_pos k), Nat.add_mul_div_left _ _ (Nat.two_pow_pos k), Nat.div_eq_of_lt ha, Nat.div_eq_of_lt hc, Nat.zero_add, Nat.zero_add]
  have h3 := Nat.mod_add_div ((a + 2 ^ k * b) &&& (c + 2 ^ k * d)) (2 ^ k)
  rw [h1, h2] at h3
  exact h3.symm
theorem zp_add (k : Nat) : ∀ (n : Nat) (f g : Nat → Nat), zp_d k n f + zp_d k n g = zp_d k n (fun i => f i + g i)
  | 0, _, _ => rfl
  | n + 1, f, g => by
    rw [zp_s, zp_s, zp_s, ← zp_add k n (fun i => f (i + 1)) (fun i => g (i + 1)), Nat.mul_add]
    omega
theorem zp_sub (k n : Nat) (f g : Nat → Nat) (h : ∀ i, g i ≤ f i) : zp_d k n f - zp_d k n g = zp_d k n (fun i => f i - g i) := by
  have h1 := zp_add k n (fun i => f i - g i) g
  rw [show (fun i => f i - g i + g i) = f from funext fun i => Nat.sub_add_cancel (h i)] at h1
  omega
theorem zp_lt (k : Nat) : ∀ (n : Nat) (f : Nat → Nat), (∀ i, f i < 2 ^ k) → zp_d k n f < 2 ^ (k * n)
  | 0, _, _ => by rw [Nat.mul_zero]; exact Nat.one_pos
  | n + 1, f, h => by
    have h1 := zp_lt k n (fun i => f (i + 1)) (fun i => h (i + 1))
    rw [zp_s, Nat.mul_add, Nat.mul_one, Nat.add_comm (k * n) k, Nat.pow_add]
    have h2 : 2 ^ k * (zp_d k n (fun i => f (i + 1)) + 1) ≤ 2 ^ k * 2 ^ (k * n) := Nat.mul_le_mul_left _ h1
    rw [Nat.mul_add] at h2
    have := h 0
    omega
theorem zp_snoc (k : Nat) : ∀ (n : Nat) (f : Nat → Nat), f n = 0 → zp_d k (n + 1) f = zp_d k n f
  | 0, f, h => by rw [zp_s, h]; rfl
  | n + 1, f, h => by rw [zp_s, zp_snoc k n (fun i => f (i + 1)) h, zp_s]
theorem zp_shr {k n : Nat} {f : Nat → Nat} (h : f 0 < 2 ^ k) (hz : f (n + 1) = 0) : zp_d k (n + 1) f / 2 ^ k = zp_d k (n + 1) (fun i => f (i + 1)) := by
  rw [zp_s, Nat.add_mul_div_left _ _ (Nat.two_pow_pos k), Nat.div_eq_of_lt h, Nat.zero_add, zp_snoc k n (fun i => f (i + 1)) hz]
/-- two digits as one -/
theorem zp_two (k : Nat) : ∀ (n : Nat) (f : Nat → Nat), zp_d k (2 * n) f = zp_d (k + k) n (fun i => f (2 * i) + 2 ^ k * f (2 * i + 1))
  | 0, _ => rfl
  | n + 1, f => by
    rw [show 2 * (n + 1) = 2 * n + 1 + 1 by omega, zp_s, zp_s, zp_two k n (fun i => f (i + 1 + 1)), zp_s, Nat.mul_add, ← Nat.mul_assoc, ← Nat.pow_add]
    rw [show (fun i => f (2 * (i + 1)) + 2 ^ k * f (2 * (i + 1) + 1)) = (fun i => f (2 * i + 1 + 1) + 2 ^ k * f (2 * i + 1 + 1 + 1)) from funext fun i => by rw [show 2 * (i + 1) = 2 * i + 1 + 1 by omega]]
    exact (Nat.add_assoc _ _ _).symm
/-- the even digits -/
theorem zp_ev (k : Nat) : ∀ (n : Nat) (f : Nat → Nat), (∀ i, f i < 2 ^ k) → zp_d k (2 * n) f &&& zp_d (k + k) n (fun _ => 2 ^ k - 1) = zp_d (k + k) n (fun i => f (2 * i))
  | 0, _, _ => Nat.and_zero _
  | n + 1, f, h => by
    have p := Nat.two_pow_pos k
    have h1 := zp_ev k n (fun i => f (i + 1 + 1)) (fun i => h (i + 1 + 1))
    have h2 : f 0 + 2 ^ k * f (0 + 1) < 2 ^ (k + k) := by
      have h3 : 2 ^ k * (f (0 + 1) + 1) ≤ 2 ^ k * 2 ^ k := Nat.mul_le_mul_left _ (h (0 + 1))
      rw [Nat.mul_add] at h3
      rw [Nat.pow_add]
      have := h 0
      omega
    have h4 : 2 ^ k - 1 < 2 ^ (k + k) := by
      have : 2 ^ k ≤ 2 ^ (k + k) := Nat.pow_le_pow_right (by omega) (by omega)
      omega
    rw [show 2 * (n + 1) = 2 * n + 1 + 1 by omega, zp_s k (2 * n + 1), zp_s k (2 * n), Nat.mul_add, ← Nat.add_assoc, ← Nat.mul_assoc, ← Nat.pow_add, zp_s (k + k) n (fun _ => 2 ^ k - 1), zp_and h2 h4, h1, Nat.and_two_pow_sub_one_eq_mod, Nat.add_mul_mod_self_left, Nat.mod_eq_of_lt (h 0), zp_s]
    rw [show (fun i => f (2 * (i + 1))) = (fun i => f (2 * i + 1 + 1)) from funext fun i => by rw [show 2 * (i + 1) = 2 * i + 1 + 1 by omega]]
theorem zp_bits : ∀ (n x : Nat), zp_d 1 n (fun i => (x.testBit i).toNat) = x % 2 ^ n
  | 0, x => by rw [Nat.pow_zero, Nat.mod_one]; rfl
  | n + 1, x => by
    have h := zp_bits n (x / 2)
    rw [zp_s]
    have e : (fun i => (x.testBit (i + 1)).toNat) = (fun i => ((x / 2).testBit i).toNat) := funext fun i => by rw [Nat.testBit_add_one]
    have h1 := Nat.mod_mul (a := 2) (b := 2 ^ n) (x := x)
    rw [e, h, Nat.testBit_zero, show 2 ^ (n + 1) = 2 * 2 ^ n from by rw [Nat.pow_succ, Nat.mul_comm], h1, Nat.pow_one]
    have h2 : (decide (x % 2 = 1)).toNat = x % 2 := by
      rcases Nat.mod_two_eq_zero_or_one x with q | q <;> rw [q] <;> rfl
    rw [h2]
/-- the count of the bits below n -/
def zp_c (b : Nat → Nat) : Nat → Nat
  | 0 => 0
  | n + 1 => zp_c b n + b n
theorem zp_mask1 : zp_d (1 + 1) 32 (fun _ => 2 ^ 1 - 1) = 6148914691236517205 := by decide +kernel
theorem zp_mask2 : zp_d (2 + 2) 16 (fun _ => 2 ^ 2 - 1) = 3689348814741910323 := by decide +kernel
theorem zp_mask4 : zp_d (4 + 4) 8 (fun _ => 2 ^ 4 - 1) = 1085102592571150095 := by decide +kernel
/-- Long.bitCount over Nat -/
def zp_n1 (x : Nat) : Nat := x - (x / 2 ^ 1 &&& 6148914691236517205)
def zp_n2 (x : Nat) : Nat := (x &&& 3689348814741910323) + (x / 2 ^ 2 &&& 3689348814741910323)
def zp_n3 (x : Nat) : Nat := (x + x / 2 ^ 4) &&& 1085102592571150095
def zp_n4 (x : Nat) : Nat := x + x / 2 ^ 8
def zp_n5 (x : Nat) : Nat := x + x / 2 ^ 16
def zp_n6 (x : Nat) : Nat := x + x / 2 ^ 32
theorem zp_n1_is {b : Nat → Nat} (hb : ∀ i, b i < 2) (hz : ∀ i, 64 ≤ i → b i = 0) : zp_n1 (zp_d 1 64 b) = zp_d 2 32 (fun i => b (2 * i) + b (2 * i + 1)) := by
  unfold zp_n1
  have h1 : zp_d 1 64 b / 2 ^ 1 = zp_d 1 (2 * 32) (fun i => b (i + 1)) := zp_shr (k := 1) (n := 63) (hb 0) (hz 64 (by omega))
  rw [h1, ← zp_mask1, zp_ev 1 32 (fun i => b (i + 1)) (fun i => hb _), show zp_d 1 64 b = zp_d (1 + 1) 32 (fun i => b (2 * i) + 2 ^ 1 * b (2 * i + 1)) from zp_two 1 32 b, zp_sub (1 + 1) 32 _ _ (fun i => by omega)]
  show zp_d 2 32 _ = _
  congr 1
  funext i
  omega
theorem zp_n2_is {b : Nat → Nat} (hb : ∀ i, b i < 4) (hz : ∀ i, 32 ≤ i → b i = 0) : zp_n2 (zp_d 2 32 b) = zp_d 4 16 (fun i => b (2 * i) + b (2 * i + 1)) := by
  unfold zp_n2
  have h1 : zp_d 2 32 b / 2 ^ 2 = zp_d 2 (2 * 16) (fun i => b (i + 1)) := zp_shr (k := 2) (n := 31) (hb 0) (hz 32 (by omega))
  rw [h1, ← zp_mask2, zp_ev 2 16 (fun i => b (i + 1)) (fun i => hb _), show zp_d 2 32 b &&& zp_d (2 + 2) 16 (fun _ => 2 ^ 2 - 1) = _ from zp_ev 2 16 b (fun i => hb _), zp_add]
theorem zp_n3_is {b : Nat → Nat} (hb : ∀ i, b i < 8) (hz : ∀ i, 16 ≤ i → b i = 0) : zp_n3 (zp_d 4 16 b) = zp_d 8 8 (fun i => b (2 * i) + b (2 * i + 1)) := by
  unfold zp_n3
  have h1 : zp_d 4 16 b / 2 ^ 4 = zp_d 4 16 (fun i => b (i + 1)) := zp_shr (k := 4) (n := 15) (by have := hb 0; omega) (hz 16 (by omega))
  rw [h1, zp_add, ← zp_mask4]
  exact zp_ev 4 8 (fun i => b i + b (i + 1)) (fun i => by have := hb i; have := hb (i + 1); omega)
theorem zp_n4_is {b : Nat → Nat} (hb : ∀ i, b i < 256) (hz : ∀ i, 8 ≤ i → b i = 0) : zp_n4 (zp_d 8 8 b) = zp_d 8 8 (fun i => b i + b (i + 1)) := by
  unfold zp_n4
  rw [show zp_d 8 8 b / 2 ^ 8 = zp_d 8 8 (fun i => b (i + 1)) from zp_shr (k := 8) (n := 7) (hb 0) (hz 8 (by omega)), zp_add]
theorem zp_sh2 {b : Nat → Nat} (hb : ∀ i, b i < 256) (hz : ∀ i, 8 ≤ i → b i = 0) : zp_d 8 8 b / 2 ^ 16 = zp_d 8 8 (fun i => b (i + 2)) := by
  rw [show (2 : Nat) ^ 16 = 2 ^ 8 * 2 ^ 8 by decide, ← Nat.div_div_eq_div_mul, show zp_d 8 8 b / 2 ^ 8 = zp_d 8 8 (fun i => b (i + 1)) from zp_shr (k := 8) (n := 7) (hb 0) (hz 8 (by omega))]
  exact zp_shr (k := 8) (n := 7) (f := fun i => b (i + 1)) (hb 1) (hz 9 (by omega))
theorem zp_n5_is {b : Nat → Nat} (hb : ∀ i, b i < 256) (hz : ∀ i, 8 ≤ i → b i = 0) : zp_n5 (zp_d 8 8 b) = zp_d 8 8 (fun i => b i + b (i + 2)) := by
  unfold zp_n5
  rw [zp_sh2 hb hz, zp_add]
theorem zp_n6_is {b : Nat → Nat} (hb : ∀ i, b i < 256) (hz : ∀ i, 8 ≤ i → b i = 0) : zp_n6 (zp_d 8 8 b) = zp_d 8 8 (fun i => b i + b (i + 4)) := by
  unfold zp_n6
  rw [show (2 : Nat) ^ 32 = 2 ^ 16 * 2 ^ 16 by decide, ← Nat.div_div_eq_div_mul, zp_sh2 hb hz, zp_sh2 (b := fun i => b (i + 2)) (fun i => hb _) (fun i hi => hz _ (by omega)), zp_add]
/-- all steps: what each answers fits, and the last one's low digit is the count -/
theorem zp_all {x : Nat} (hx : x < 2 ^ 64) : (x / 2 ^ 1 &&& 6148914691236517205) ≤ x ∧ zp_n2 (zp_n1 x) < 2 ^ 64 ∧ zp_n1 x < 2 ^ 64 ∧ zp_n2 (zp_n1 x) + zp_n2 (zp_n1 x) / 2 ^ 4 < 2 ^ 64 ∧ zp_n4 (zp_n3 (zp_n2 (zp_n1 x))) < 2 ^ 64 ∧ zp_n5 (zp_n4 (zp_n3 (zp_n2 (zp_n1 x)))) < 2 ^ 64 ∧ zp_n6 (zp_n5 (zp_n4 (zp_n3 (zp_n2 (zp_n1 x))))) < 2 ^ 64 ∧ zp_n6 (zp_n5 (zp_n4 (zp_n3 (zp_n2 (zp_n1 x))))) % 128 = zp_c (fun i => (x.testBit i).toNat) 64 ∧ zp_c (fun i => (x.testBit i).toNat) 64 ≤ 64 := by
  have hX : zp_d 1 64 (fun i => (x.testBit i).toNat) = x := by rw [zp_bits, Nat.mod_eq_of_lt hx]
  generalize hB : (fun i => (x.testBit i).toNat) = b at hX ⊢
  have hb : ∀ i, b i < 2 := fun i => by rw [← hB]; show (x.testBit i).toNat < 2; cases x.testBit i <;> decide
  have hz : ∀ i, 64 ≤ i → b i = 0 := fun i hi => by
    rw [← hB]
    show (x.testBit i).toNat = 0
    rw [Nat.testBit_lt_two_pow (Nat.lt_of_lt_of_le hx (Nat.pow_le_pow_right (by omega) hi))]
    rfl
  clear hB
  subst hX
  have h0 : zp_d 1 64 b / 2 ^ 1 &&& 6148914691236517205 ≤ zp_d 1 64 b := Nat.le_trans Nat.and_le_left (Nat.div_le_self _ _)
  have e1 := zp_n1_is hb hz
  generalize hc : (fun i => b (2 * i) + b (2 * i + 1)) = c at e1
  have c1 : ∀ i, c i < 4 := fun i => by rw [← hc]; have := hb (2 * i); have := hb (2 * i + 1); show _ + _ < _; omega
  have c2 : ∀ i, 32 ≤ i → c i = 0 := fun i hi => by rw [← hc]; show _ + _ = _; rw [hz _ (by omega), hz _ (by omega)]
  have c1' : ∀ i, c i < 3 := fun i => by rw [← hc]; have := hb (2 * i); have := hb (2 * i + 1); show _ + _ < _; omega
  have e2 := zp_n2_is c1 c2
  generalize hd : (fun i => c (2 * i) + c (2 * i + 1)) = d at e2
  have d1 : ∀ i, d i < 5 := fun i => by rw [← hd]; have := c1' (2 * i); have := c1' (2 * i + 1); show _ + _ < _; omega
  have d2 : ∀ i, 16 ≤ i → d i = 0 := fun i hi => by rw [← hd]; show _ + _ = _; rw [c2 _ (by omega), c2 _ (by omega)]
  have e3 := zp_n3_is (b := d) (fun i => by have := d1 i; omega) d2
  have s3 : zp_d 4 16 d / 2 ^ 4 = zp_d 4 16 (fun i => d (i + 1)) := zp_shr (k := 4) (n := 15) (by have := d1 0; omega) (d2 16 (by omega))
  generalize he : (fun i => d (2 * i) + d (2 * i + 1)) = e at e3
  have f1 : ∀ i, e i < 9 := fun i => by rw [← he]; have := d1 (2 * i); have := d1 (2 * i + 1); show _ + _ < _; omega
  have f2 : ∀ i, 8 ≤ i → e i = 0 := fun i hi => by rw [← he]; show _ + _ = _; rw [d2 _ (by omega), d2 _ (by omega)]
  have e4 := zp_n4_is (b := e) (fun i => by have := f1 i; omega) f2
  have e5 := zp_n5_is (b := fun i => e i + e (i + 1)) (fun i => by have := f1 i; have := f1 (i + 1); show _ + _ < _; omega) (fun i hi => by show _ + _ = _; rw [f2 _ (by omega), f2 _ (by omega)])
  have e6 := zp_n6_is (b := fun i => (e i + e (i + 1)) + (e (i + 2) + e (i + 2 + 1))) (fun i => by have := f1 i; have := f1 (i + 1); have := f1 (i + 2); have := f1 (i + 2 + 1); show _ + _ < _; omega) (fun i hi => by show _ + _ = _; rw [f2 i (by omega), f2 (i + 1) (by omega), f2 (i + 2) (by omega), f2 (i + 2 + 1) (by omega)])
  rw [e1, e2, e3, e4, e5, e6, s3, zp_add]
  have hcnt : zp_c b 64 = e 0 + e 1 + e 2 + e 3 + e 4 + e 5 + e 6 + e 7 := by
    rw [← he, ← hd, ← hc]
    simp only [zp_c, Nat.reduceMul, Nat.reduceAdd]
    omega
  refine ⟨h0, zp_lt 4 16 d (fun i => by have := d1 i; omega), zp_lt 2 32 c c1, zp_lt 4 16 _ (fun i => by have := d1 i; have := d1 (i + 1); show _ + _ < _; omega), zp_lt 8 8 _ (fun i => by have := f1 i; have := f1 (i + 1); show _ + _ < _; omega), zp_lt 8 8 _ (fun i => by have := f1 i; have := f1 (i + 1); have := f1 (i + 2); have := f1 (i + 2 + 1); show _ + _ < _; omega), zp_lt 8 8 _ (fun i => ?_), ?_, ?_⟩
  · have := f1 i; have := f1 (i + 1); have := f1 (i + 2); have := f1 (i + 2 + 1); have := f1 (i + 4); have := f1 (i + 4 + 1); have := f1 (i + 4 + 2); have := f1 (i + 4 + 2 + 1)
    show _ + _ < _
    omega
  · rw [zp_s, hcnt]
    have := f1 0; have := f1 1; have := f1 2; have := f1 3; have := f1 4; have := f1 5; have := f1 6; have := f1 7
    show (e 0 + e 1 + (e 2 + e 3) + (e 4 + e 5 + (e 6 + e 7)) + 2 ^ 8 * _) % 128 = _
    omega
  · have : ∀ n, zp_c b n ≤ n := fun n => by
      induction n with
      | zero => exact Nat.le_refl _
      | succ n ih => show zp_c b n + b n ≤ n + 1; have := hb n; omega
    exact this 64
