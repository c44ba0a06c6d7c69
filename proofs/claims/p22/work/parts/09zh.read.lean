/-! READING A SHEET: one put behind another, as a function of the hand at the start. C is the row of cells, f the first, g the pieces. -/
def rdG (C : Int → Int) (f : Int) (g : PTG) : Nat → PTG
  | 0 => g
  | i + 1 => pg (rdG C f g i) (C (f + 2 * (i : Int))).toNat (C (f + 2 * (i : Int) + 1))
def rdQ (C : Int → Int) (f : Int) (q : PTG) : Nat → PTG
  | 0 => q
  | i + 1 => pg (rdQ C f q i) (C (f + 2 * (i : Int))).toNat 0
/-- why the i-th isn't put (0: it is) -/
def rdO (W rk : PTG) (C : Int → Int) (f : Int) (g : PTG) (i : Nat) : Int := whyS W (rdG C f g i (C (f + 2 * (i : Int))).toNat) (cnt (rdG C f g i) 40) (rk (C (f + 2 * (i : Int) + 1)).toNat - csz (rdG C f g i) (C (f + 2 * (i : Int) + 1)) 40) (C (f + 2 * (i : Int))) (C (f + 2 * (i : Int) + 1))
/-- its two cells lie on the sheet -/
def rdF (z f : Int) (i : Nat) : Prop := 0 ≤ f + 2 * (i : Int) ∧ f + 2 * (i : Int) + 1 < z
/-- it ended at c: all are put, or the cells end, or one can't be put -/
def RDE (F P : Nat → Prop) (n c r t : Int) : Prop := (0 ≤ c ∧ c ≤ n) ∧ (∀ i : Nat, (i : Int) < c → F i ∧ P i) ∧ ((c = n ∧ r = c ∧ t = 0) ∨ (c < n ∧ ¬ F c.toNat ∧ r = c ∧ t = 2) ∨ (c < n ∧ F c.toNat ∧ ¬ P c.toNat ∧ r = -20 - c))
theorem RDE_same {F P : Nat → Prop} {n c r t c' r' t' : Int} (a : RDE F P n c r t) (b : RDE F P n c' r' t') : c = c' ∧ r = r' ∧ (0 ≤ r → t = t') := by
  obtain ⟨a1, a2, a3⟩ := a
  obtain ⟨b1, b2, b3⟩ := b
  have e : c = c' := by
    rcases Int.lt_trichotomy c c' with h | h | h
    · have z := b2 c.toNat (by omega)
      rcases a3 with ⟨x, _⟩ | ⟨_, x, _⟩ | ⟨_, _, x, _⟩
      · omega
      · exact absurd z.1 x
      · exact absurd z.2 x
    · exact h
    · have z := a2 c'.toNat (by omega)
      rcases b3 with ⟨x, _⟩ | ⟨_, x, _⟩ | ⟨_, _, x, _⟩
      · omega
      · exact absurd z.1 x
      · exact absurd z.2 x
  subst e
  rcases a3 with ⟨x1, x2, x3⟩ | ⟨x1, x2, x3, x4⟩ | ⟨x1, x2, x3, x4⟩ <;> rcases b3 with ⟨y1, y2, y3⟩ | ⟨y1, y2, y3, y4⟩ | ⟨y1, y2, y3, y4⟩ <;> first | (exfalso; omega) | (exfalso; exact absurd x2 y2) | (exfalso; exact absurd y2 x2) | exact ⟨rfl, by omega, fun _ => by omega⟩
