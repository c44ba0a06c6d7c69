/-! WHICH FALLS would tell a story. -/
def soN (W g : PTG) (h good p q : Int) : Int := if (fallG W g h good h.toNat 0).2.2.2 = p ∧ (((fallG W g h good h.toNat 0).1 < 0 ∧ q = 0) ∨ (0 ≤ (fallG W g h good h.toNat 0).1 ∧ q = (fallG W g h good h.toNat 0).1)) then 1 else 0
theorem soN_of {W g : PTG} {h good p q a b c d x : Int} (e : (a, b, c, d) = fallG W g h good h.toNat 0) (k : (x = 1 ∧ d = p ∧ ((a < 0 ∧ q = 0) ∨ (0 ≤ a ∧ q = a))) ∨ (x = 0 ∧ ¬ (d = p ∧ ((a < 0 ∧ q = 0) ∨ (0 ≤ a ∧ q = a))))) : x = soN W g h good p q := by
  unfold soN
  rw [← e]
  rcases k with ⟨k1, k2⟩ | ⟨k1, k2⟩
  · rw [if_pos k2]; exact k1
  · rw [if_neg k2]; exact k1
def STY (W g : PTG) (good p q : Int) : Nat → Int
  | 0 => 0
  | h + 1 => if soN W g ((h + 1 : Nat) : Int) good p q = 1 then tw_lorL (STY W g good p q h) (tw_lshlL 1 ((h + 1 : Nat) : Int)) else STY W g good p q h
theorem STY_s {W g : PTG} {good p q h : Int} (h1 : 1 ≤ h) : (soN W g h good p q = 1 ∧ STY W g good p q h.toNat = tw_lorL (STY W g good p q (h - 1).toNat) (tw_lshlL 1 h)) ∨ (¬ soN W g h good p q = 1 ∧ STY W g good p q h.toNat = STY W g good p q (h - 1).toNat) := by
  obtain ⟨n, rfl⟩ : ∃ n : Nat, h = ((n + 1 : Nat) : Int) := ⟨(h - 1).toNat, by omega⟩
  rw [show (((n + 1 : Nat) : Int)).toNat = n + 1 by omega, show (((n + 1 : Nat) : Int) - 1).toNat = n by omega]
  simp only [STY]
  split
  · rename_i q; exact Or.inl ⟨q, rfl⟩
  · rename_i q; exact Or.inr ⟨q, rfl⟩
theorem STY_in {W g : PTG} {good p q : Int} : ∀ n : Nat, -9223372036854775808 ≤ STY W g good p q n ∧ STY W g good p q n ≤ 9223372036854775807
  | 0 => by
    show (-9223372036854775808 : Int) ≤ 0 ∧ (0 : Int) ≤ 9223372036854775807
    decide
  | n + 1 => by
    have ih := STY_in (W := W) (g := g) (good := good) (p := p) (q := q) n
    simp only [STY]
    split
    · exact i64_in _
    · exact ih
theorem orL_0 {x : Int} (h : -9223372036854775808 ≤ x ∧ x ≤ 9223372036854775807) : tw_lorL x 0 = x := by
  unfold tw_lorL
  rw [show (Int64.ofInt 0) = 0 from rfl, Int64.or_zero]
  exact w64_eq h.1 h.2
