/-! THE BEST RULE one can keep: the last of least risk of those that aren't too much. -/
def TOO (W g : PTG) : Prop := ∃ t : Int, ¬ t = -4 ∧ TMs W g (-4) 1 (W 100 + 1) t
theorem TOO_0 {W g : PTG} (h : TMs W g (-4) 1 (W 100 + 1) (-4)) : ¬ TOO W g := fun ⟨_, a, b⟩ => a (TMs_eq b h)
def BSR (W rk : PTG) : Nat → Int → Int → Prop
  | 0, b, l => b = 0 ∧ l = 0
  | n + 1, b, l => ∃ b' l' : Int, BSR W rk n b' l' ∧ ((TOO W (KPS W rk ((n + 1 : Nat) : Int) 40).1 ∧ b = b' ∧ l = l') ∨
      (¬ TOO W (KPS W rk ((n + 1 : Nat) : Int) 40).1 ∧ (b' = 0 ∨ rsk W (KPS W rk ((n + 1 : Nat) : Int) 40).1 1023 (W 100).toNat ≤ l') ∧ b = ((n + 1 : Nat) : Int) ∧ l = rsk W (KPS W rk ((n + 1 : Nat) : Int) 40).1 1023 (W 100).toNat) ∨
      (¬ TOO W (KPS W rk ((n + 1 : Nat) : Int) 40).1 ∧ ¬ (b' = 0 ∨ rsk W (KPS W rk ((n + 1 : Nat) : Int) 40).1 1023 (W 100).toNat ≤ l') ∧ b = b' ∧ l = l'))
theorem BSR_eq {W rk : PTG} : ∀ {n : Nat} {b l b2 l2 : Int}, BSR W rk n b l → BSR W rk n b2 l2 → b = b2 ∧ l = l2
  | 0, _, _, _, _, h, k => ⟨h.1.trans k.1.symm, h.2.trans k.2.symm⟩
  | n + 1, _, _, _, _, h, k => by
    obtain ⟨b1, l1, h1, h2⟩ := h
    obtain ⟨b3, l3, k1, k2⟩ := k
    obtain ⟨e1, e2⟩ := BSR_eq h1 k1
    subst e1
    subst e2
    rcases h2 with ⟨x1, x2, x3⟩ | ⟨x1, x2, x3, x4⟩ | ⟨x1, x2, x3, x4⟩ <;> rcases k2 with ⟨y1, y2, y3⟩ | ⟨y1, y2, y3, y4⟩ | ⟨y1, y2, y3, y4⟩ <;> first | (exfalso; exact y1 x1) | (exfalso; exact x1 y1) | (exfalso; exact y2 x2) | (exfalso; exact x2 y2) | exact ⟨by omega, by omega⟩
theorem BSR_in {W rk : PTG} : ∀ {n : Nat} {b l : Int}, BSR W rk n b l → 0 ≤ b ∧ b ≤ (n : Int)
  | 0, _, _, h => by have := h.1; omega
  | n + 1, _, _, h => by
    obtain ⟨b1, l1, h1, h2⟩ := h
    have ih := BSR_in h1
    rcases h2 with ⟨_, x, _⟩ | ⟨_, _, x, _⟩ | ⟨_, _, x, _⟩ <;> omega
theorem BSR_s {W rk : PTG} {i b l b' l' x : Int} (H : BSR W rk (i - 1).toNat b l) (h1 : 1 ≤ i) (k : (TOO W (KPS W rk i 40).1 ∧ b' = b ∧ l' = l) ∨ (¬ TOO W (KPS W rk i 40).1 ∧ x = rsk W (KPS W rk i 40).1 1023 (W 100).toNat ∧ (((b = 0 ∨ x ≤ l) ∧ b' = i ∧ l' = x) ∨ (¬ (b = 0 ∨ x ≤ l) ∧ b' = b ∧ l' = l)))) : BSR W rk i.toNat b' l' := by
  obtain ⟨n, rfl⟩ : ∃ n : Nat, i = ((n + 1 : Nat) : Int) := ⟨(i - 1).toNat, by omega⟩
  rw [show (((n + 1 : Nat) : Int) - 1).toNat = n by omega] at H
  rw [show (((n + 1 : Nat) : Int)).toNat = n + 1 by omega]
  refine ⟨b, l, H, ?_⟩
  rcases k with ⟨k1, k2, k3⟩ | ⟨k1, k2, ⟨k3, k4, k5⟩ | ⟨k3, k4, k5⟩⟩
  · exact Or.inl ⟨k1, k2, k3⟩
  · exact Or.inr (Or.inl ⟨k1, by rw [← k2]; exact k3, k4, by rw [k5, k2]⟩)
  · exact Or.inr (Or.inr ⟨k1, by rw [← k2]; exact k3, k4, k5⟩)
