/-! A FRACTION, as both find it. -/
def eu : Nat → Int → Int → Int
  | 0, x, _ => x
  | k + 1, x, y => if y = 0 then x else eu k y (tw_lremL x y)
theorem eu_0 {k : Nat} {x : Int} : eu k x 0 = x := by
  cases k with
  | zero => rfl
  | succ k => exact if_pos rfl
theorem eu_s {k : Nat} {x y : Int} (h : ¬ y = 0) : eu (k + 1) x y = eu k y (tw_lremL x y) := if_neg h
theorem eu_st : ∀ (n : Nat) (x y : Int), y.natAbs ≤ n → (-9223372036854775808 ≤ x ∧ x ≤ 9223372036854775807) → (-9223372036854775808 ≤ y ∧ y ≤ 9223372036854775807) → ∀ k k' : Nat, y.natAbs ≤ k → y.natAbs ≤ k' → eu k x y = eu k' x y := by
  intro n
  induction n with
  | zero =>
    intro x y hn hx hy k k' h1 h2
    have h0 : y = 0 := by omega
    rw [h0, eu_0, eu_0]
  | succ n ih =>
    intro x y hn hx hy k k' h1 h2
    by_cases h0 : y = 0
    · rw [h0, eu_0, eu_0]
    · obtain ⟨a, rfl⟩ : ∃ a, k = a + 1 := ⟨k - 1, by omega⟩
      obtain ⟨b, rfl⟩ : ∃ b, k' = b + 1 := ⟨k' - 1, by omega⟩
      have hl := lrem_lt hx hy h0
      rw [eu_s h0, eu_s h0]
      exact ih y _ (by omega) hy (lremL_in _ _) a b (by omega) (by omega)
theorem eu_nat {x y : Int} (h : ¬ y = 0) (hx : -9223372036854775808 ≤ x ∧ x ≤ 9223372036854775807) (hy : -9223372036854775808 ≤ y ∧ y ≤ 9223372036854775807) : eu y.natAbs x y = eu (tw_lremL x y).natAbs y (tw_lremL x y) := by
  have hl := lrem_lt hx hy h
  obtain ⟨a, ha⟩ : ∃ a, y.natAbs = a + 1 := ⟨y.natAbs - 1, by omega⟩
  rw [ha, eu_s h]
  exact eu_st _ y _ (Nat.le_refl _) hy (lremL_in _ _) a _ (by omega) (Nat.le_refl _)
theorem eu_nz : ∀ (k : Nat) (x y : Int), ¬ x = 0 → ¬ eu k x y = 0 := by
  intro k
  induction k with
  | zero => exact fun x y h => h
  | succ k ih =>
    intro x y h
    by_cases h0 : y = 0
    · rw [h0, eu_0]; exact h
    · rw [eu_s h0]; exact ih _ _ h0
def euA (a x : Int) : Int := if x = 0 then 0 else tw_ldivL a x
def euB (b x : Int) : Int := if x = 0 then 1 else tw_ldivL b x
def euM (a b x w : Int) : Int := if w = 0 then tw_ldivL a x else tw_ldivL b x
def EYX (h n w : Int) : Int := tw_l2i (if w = 0 then euA h (eu 1000 n h) else euB n (eu 1000 n h))
def EYM (h n w : Int) : Int := tw_l2i (euM h n (eu h.natAbs n h) w)
theorem EY_eq {h n w : Int} (h1 : 0 ≤ h ∧ h ≤ n) (h2 : n ≤ 999) (h0 : ¬ n = 0) : EYX h n w = EYM h n w := by
  have e : eu 1000 n h = eu h.natAbs n h := eu_st _ n h (Nat.le_refl _) (by omega) (by omega) 1000 h.natAbs (by omega) (Nat.le_refl _)
  have z : ¬ eu h.natAbs n h = 0 := eu_nz _ n h h0
  unfold EYX EYM euM euA euB
  rw [e, if_neg z, if_neg z]
