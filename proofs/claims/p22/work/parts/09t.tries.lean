/-! TRIES. -/
theorem tri4 {σ τ : tw_M} {c J p q a b : Nat} {s v : Int} (e : τ = tw_up σ c J v) (hj : (s = 0 ∧ J = p) ∨ (s = 1 ∧ J = q)) (hd : p ≠ q ∧ a ≠ p ∧ a ≠ q ∧ b ≠ p ∧ b ≠ q) : (s = 0 ∧ τ c p = v ∧ σ c J = σ c p ∧ τ c q = σ c q ∧ τ c a = σ c a ∧ τ c b = σ c b) ∨ (s = 1 ∧ τ c q = v ∧ σ c J = σ c q ∧ τ c p = σ c p ∧ τ c a = σ c a ∧ τ c b = σ c b) := by
  obtain ⟨h1, h2, h3, h4, h5⟩ := hd
  rcases hj with ⟨h, hJ⟩ | ⟨h, hJ⟩
  · subst hJ
    exact Or.inl ⟨h, tw_eq1 e, rfl, tw_ne1 e (Or.inr (Ne.symm h1)), tw_ne1 e (Or.inr h2), tw_ne1 e (Or.inr h4)⟩
  · subst hJ
    exact Or.inr ⟨h, tw_eq1 e, rfl, tw_ne1 e (Or.inr h1), tw_ne1 e (Or.inr h3), tw_ne1 e (Or.inr h5)⟩
theorem tri_at {τ : tw_M} {c p q j : Nat} {s : Int} (hj : (s = 0 ∧ j = p) ∨ (s = 1 ∧ j = q)) : (s = 0 ∧ τ c j = τ c p) ∨ (s = 1 ∧ τ c j = τ c q) := by
  rcases hj with ⟨h, rfl⟩ | ⟨h, rfl⟩
  · exact Or.inl ⟨h, rfl⟩
  · exact Or.inr ⟨h, rfl⟩
/-- what was copied, at one place -/
theorem cpy {σ τ : tw_M} {t o : Int} (H : ∀ j : Nat, (j : Int) < 100 → τ 89 (t + (j : Int)).toNat = σ 89 (o + (j : Int)).toNat) {j a b : Nat} (hj : j < 100) (ha : t + (j : Int) = (a : Int)) (hb : o + (j : Int) = (b : Int)) : τ 89 a = σ 89 b := by
  have h := H j (by omega)
  rw [ha, hb] at h
  exact h
