/-! ROWS THAT ARE FILLED. -/
/-- what a row holds, up to a place -/
def Cn (c : Nat) (v : Nat → Int) (τ : tw_M) (n : Int) : Prop := ∀ j : Nat, (j : Int) < n → τ c j = v j
theorem Cn_up {c : Nat} {v : Nat → Int} {τ τ' : tw_M} {p x n : Int} (e : τ' = tw_up τ c p.toNat x) (hp : 0 ≤ p) (H : Cn c v τ p) (hx : x = v p.toNat) (hn : n = p + 1) : Cn c v τ' n := by
  intro j hj
  by_cases q : j = p.toNat
  · subst q
    rw [tw_eq1 e]
    exact hx
  · rw [tw_ne1 e (Or.inr q)]
    exact H j (by omega)
theorem Cn_F {c : Nat} {v : Nat → Int} {τ τ' : tw_M} {n : Int} (h : ∀ j, τ' c j = τ c j) (H : Cn c v τ n) : Cn c v τ' n := by
  intro j hj
  rw [h]
  exact H j hj
theorem Cn_0 {c : Nat} {v : Nat → Int} {τ : tw_M} : Cn c v τ 0 := fun j hj => by exfalso; omega
