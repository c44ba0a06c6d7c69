/-! GOOD ONES ARE OF THE PIECES: a test by bits, and one by bounds. -/
theorem ones_hi : ∀ n : Nat, n < 11 → ∀ i : Nat, i < 32 → (2 ^ 32 - 2 ^ n).testBit i = decide (n ≤ i) := by decide +kernel
theorem land_hi {x n : Nat} (hx : x < 2 ^ 32) (hn : n < 11) : x &&& (2 ^ 32 - 2 ^ n) = 0 ↔ x < 2 ^ n := by
  constructor
  · intro h
    refine Classical.byContradiction (fun hc => ?_)
    obtain ⟨i, hi, ht⟩ := Nat.exists_ge_and_testBit_of_ge_two_pow (show 2 ^ n ≤ x by omega)
    have hi32 : i < 32 := by
      refine Classical.byContradiction (fun h32 => ?_)
      have h2 : x < 2 ^ i := Nat.lt_of_lt_of_le hx (Nat.pow_le_pow_right (by decide) (by omega))
      rw [Nat.testBit_lt_two_pow h2] at ht
      exact absurd ht (by decide)
    have e : (x &&& (2 ^ 32 - 2 ^ n)).testBit i = true := by
      rw [Nat.testBit_and, ht, ones_hi n hn i hi32]
      simpa using hi
    rw [h, Nat.zero_testBit] at e
    exact absurd e (by decide)
  · intro h
    refine Nat.eq_of_testBit_eq (fun i => ?_)
    rw [Nat.testBit_and, Nat.zero_testBit]
    by_cases q : n ≤ i
    · rw [Nat.testBit_lt_two_pow (Nat.lt_of_lt_of_le h (Nat.pow_le_pow_right (by decide) q))]
      rfl
    · rw [ones_hi n hn i (by omega)]
      simp [q]
theorem msk_hi : ∀ n : Nat, n < 11 → (Int32.ofInt (tw_xor (pt (n : Int) - 1) (-1))).toBitVec.toNat = 2 ^ 32 - 2 ^ n := by decide +kernel
theorem has_iff {g n : Int} (hn : 0 ≤ n ∧ n ≤ 10) (hg : -2147483648 ≤ g ∧ g ≤ 2147483647) : tw_and g (tw_xor (pt n - 1) (-1)) = 0 ↔ 0 ≤ g ∧ g < pt n := by
  have m := msk_hi n.toNat (by omega)
  rw [show ((n.toNat : Nat) : Int) = n by omega] at m
  have gl : (Int32.ofInt g).toBitVec.toNat = (g % 4294967296).toNat := by
    show (BitVec.ofInt 32 g).toNat = _
    rw [BitVec.toNat_ofInt]
    rfl
  have hlt : (Int32.ofInt g).toBitVec.toNat < 2 ^ 32 := (Int32.ofInt g).toBitVec.isLt
  have key : tw_and g (tw_xor (pt n - 1) (-1)) = 0 ↔ (Int32.ofInt g).toBitVec.toNat &&& (2 ^ 32 - 2 ^ n.toNat) = 0 := by
    unfold tw_and
    rw [← m, ← BitVec.toNat_and]
    constructor
    · intro h
      have h2 : (Int32.ofInt g &&& Int32.ofInt (tw_xor (pt n - 1) (-1))) = 0 := Int32.toInt_inj.mp (h.trans (by decide))
      have h3 := congrArg (fun z : Int32 => z.toBitVec.toNat) h2
      exact h3
    · intro h
      have h2 : (Int32.ofInt g &&& Int32.ofInt (tw_xor (pt n - 1) (-1))).toBitVec = 0#32 := BitVec.eq_of_toNat_eq h
      show (Int32.ofInt g &&& Int32.ofInt (tw_xor (pt n - 1) (-1))).toBitVec.toInt = 0
      rw [h2]
      decide
  rw [key, land_hi hlt (by omega), gl]
  have p1 : (2 ^ n.toNat : Nat) ≤ 1024 := Nat.le_trans (Nat.pow_le_pow_right (by decide) (show n.toNat ≤ 10 by omega)) (by decide)
  unfold pt
  omega
