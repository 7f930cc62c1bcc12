theorem fa_and (a b : Nat) : nI a &&& nI b = nI (a &&& b) := by
  apply Int32.toBitVec_inj.1
  show BitVec.ofNat 32 a &&& BitVec.ofNat 32 b = BitVec.ofNat 32 (a &&& b)
  apply BitVec.eq_of_getLsbD_eq
  intro i hi
  simp [hi]
theorem fa_or (a b : Nat) : nI a ||| nI b = nI (a ||| b) := by
  apply Int32.toBitVec_inj.1
  show BitVec.ofNat 32 a ||| BitVec.ofNat 32 b = BitVec.ofNat 32 (a ||| b)
  apply BitVec.eq_of_getLsbD_eq
  intro i hi
  simp [hi]
def bitsOf (p : Nat → Bool) : Nat → Nat
  | 0 => 0
  | k + 1 => if p k = true then bitsOf p k ||| 2 ^ k else bitsOf p k
theorem bitsOf_lt (p : Nat → Bool) : ∀ k, bitsOf p k < 2 ^ k
  | 0 => Nat.zero_lt_one
  | k + 1 => by
    have h := bitsOf_lt p k
    have h2 : 2 ^ k < 2 ^ (k + 1) := Nat.pow_lt_pow_right (by decide) (by omega)
    show (if p k = true then bitsOf p k ||| 2 ^ k else bitsOf p k) < _
    split
    · exact Nat.or_lt_two_pow (by omega) h2
    · omega
theorem bitsOf_bit (p : Nat → Bool) (m : Nat) : ∀ k, (bitsOf p k).testBit m = (decide (m < k) && p m)
  | 0 => by simp [bitsOf]
  | k + 1 => by
    have ih := bitsOf_bit p m k
    show (if p k = true then bitsOf p k ||| 2 ^ k else bitsOf p k).testBit m = _
    by_cases hmk : m = k
    · subst hmk
      split
      · next h => simp [Nat.testBit_or, Nat.testBit_two_pow_self, h]
      · next h => rw [ih]; simp [h]
    · have e : decide (m < k + 1) = decide (m < k) := by
        by_cases h : m < k
        · simp [h]; omega
        · simp [h]; omega
      rw [e]
      split
      · rw [Nat.testBit_or, ih, Nat.testBit_two_pow_of_ne (Ne.symm hmk), Bool.or_false]
      · exact ih
theorem bitsOf_congr {p q : Nat → Bool} : ∀ {k : Nat}, (∀ i, i < k → p i = q i) → bitsOf p k = bitsOf q k
  | 0, _ => rfl
  | k + 1, h => by
    show (if p k = true then bitsOf p k ||| 2 ^ k else bitsOf p k) = (if q k = true then bitsOf q k ||| 2 ^ k else bitsOf q k)
    rw [bitsOf_congr (fun i hi => h i (by omega)), h k (by omega)]
theorem shl1 : ∀ k, k < 31 → (1 : Int32) <<< (nI k &&& 31) = nI (2 ^ k) := by decide +kernel
theorem bit_has : ∀ w, w < 256 → ∀ m, m < 8 → fX5_hasBit (nI w) (nI m) = (if w.testBit m = true then (1 : Int32) else (0 : Int32)) := by decide +kernel
theorem bit_has6 : ∀ w, w < 256 → ∀ m, m < 8 → fX6_has (nI w) (nI m) = (if w.testBit m = true then (1 : Int32) else (0 : Int32)) := by decide +kernel
theorem pow8 {k mi : Nat} (h : k < mi) (h8 : mi ≤ 8) : 2 ^ k < 2 ^ 31 := Nat.pow_lt_pow_right (by decide) (by omega)
theorem lt256 {w mi : Nat} (h : w < 2 ^ mi) (h8 : mi ≤ 8) : w < 256 := by
  have : 2 ^ mi ≤ 2 ^ 8 := Nat.pow_le_pow_right (by decide) h8
  omega
theorem nI0 {w : Nat} (h : w < 2 ^ 31) : nI w = (0 : Int32) ↔ w = 0 := nI_eq (b := 0) h (by decide)
