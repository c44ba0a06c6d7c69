/-! THE REFERENCE'S TEXT: what its reading keeps. -/
def Wb (c b : Nat) (τ : tw_M) (n : Int) : Prop := ∀ j : Nat, (j : Int) < n → (tw_b b j).1 ≤ τ c j ∧ τ c j ≤ (tw_b b j).2
theorem Wb_up {c b : Nat} {τ τ' : tw_M} {p v n : Int} (e : τ' = tw_up τ c p.toNat v) (hp : 0 ≤ p) (H : Wb c b τ p) (hv : (tw_b b p.toNat).1 ≤ v ∧ v ≤ (tw_b b p.toNat).2) (hn : n = p + 1) : Wb c b τ' n := by
  intro j hj
  by_cases q : j = p.toNat
  · subst q
    rw [tw_eq1 e]
    exact hv
  · rw [tw_ne1 e (Or.inr q)]
    exact H j (by omega)
theorem Wb_put {c b : Nat} {τ τ' : tw_M} {p : Nat} {v n : Int} (e : τ' = tw_up τ c p v) (H : Wb c b τ n) (hv : (tw_b b p).1 ≤ v ∧ v ≤ (tw_b b p).2) : Wb c b τ' n := by
  intro j hj
  by_cases q : j = p
  · subst q
    rw [tw_eq1 e]
    exact hv
  · rw [tw_ne1 e (Or.inr q)]
    exact H j hj
theorem Wb_F {c b : Nat} {τ τ' : tw_M} {n : Int} (h : ∀ j, τ' c j = τ c j) (H : Wb c b τ n) : Wb c b τ' n := by
  intro j hj
  rw [h]
  exact H j hj
/-- the draft is within the bounds -/
def DR (σ : tw_M) : Prop := Wb 94 92 σ 205 ∧ Wb 93 91 σ 9
def DQ (σ : tw_M) : Prop := ¬ σ 88 17 = 0 ∨ DR σ
theorem DR_F {τ τ' : tw_M} (H : DR τ) (h1 : ∀ j, τ' 93 j = τ 93 j) (h2 : ∀ j, τ' 94 j = τ 94 j) : DR τ' := ⟨Wb_F h2 H.1, Wb_F h1 H.2⟩
theorem DQ_F {τ τ' : tw_M} (H : DQ τ) (h1 : ∀ j, τ' 93 j = τ 93 j) (h2 : ∀ j, τ' 94 j = τ 94 j) (hf : ¬ τ' 88 17 = 0 ∨ τ 88 17 = 0) : DQ τ' := by
  rcases hf with hf | hf
  · exact Or.inl hf
  · rcases H with H | H
    · exact absurd hf H
    · exact Or.inr (DR_F H h1 h2)
theorem DQ_dr {τ : tw_M} (H : DQ τ) (h : τ 88 17 = 0) : DR τ := by
  rcases H with H | H
  · exact absurd h H
  · exact H
theorem DQ_put {τ τ' : tw_M} {p : Nat} {v : Int} (H : DQ τ) (e : τ' = tw_up τ 94 p v) (hv : ¬ τ 88 17 = 0 ∨ ((tw_b 92 p).1 ≤ v ∧ v ≤ (tw_b 92 p).2)) : DQ τ' := by
  have f : τ' 88 17 = τ 88 17 := tw_ne1 e (Or.inl (by decide))
  unfold DQ
  rw [f]
  rcases H with H | H
  · exact Or.inl H
  · rcases hv with hv | hv
    · exact Or.inl hv
    · exact Or.inr ⟨Wb_put e H.1 hv, Wb_F (fun j => tw_ne1 e (Or.inl (by decide))) H.2⟩
theorem DQ_put93 {τ τ' : tw_M} {p : Nat} {v : Int} (H : DQ τ) (e : τ' = tw_up τ 93 p v) (hv : ¬ τ 88 17 = 0 ∨ ((tw_b 91 p).1 ≤ v ∧ v ≤ (tw_b 91 p).2)) : DQ τ' := by
  have f : τ' 88 17 = τ 88 17 := tw_ne1 e (Or.inl (by decide))
  unfold DQ
  rw [f]
  rcases H with H | H
  · exact Or.inl H
  · rcases hv with hv | hv
    · exact Or.inl hv
    · exact Or.inr ⟨Wb_F (fun j => tw_ne1 e (Or.inl (by decide))) H.1, Wb_put e H.2 hv⟩
theorem w92 {h k v : Int} (hh : 0 ≤ h) (hk : 0 ≤ k ∧ k ≤ 4) (hv : (k = 0 ∧ 0 ≤ v ∧ v ≤ 9) ∨ (k = 1 ∧ 0 ≤ v ∧ v ≤ 10) ∨ (k = 4 ∧ 0 ≤ v ∧ v ≤ 9) ∨ (0 ≤ v ∧ v ≤ 1)) : (tw_b 92 (5 * h + k).toNat).1 ≤ v ∧ v ≤ (tw_b 92 (5 * h + k).toNat).2 := by
  show (bMW (5 * h + k).toNat).1 ≤ v ∧ v ≤ (bMW (5 * h + k).toNat).2
  have e : (5 * h + k).toNat % 5 = k.toNat := by omega
  unfold bMW
  rw [e]
  split
  · show 0 ≤ v ∧ v ≤ 9
    omega
  · split
    · show 0 ≤ v ∧ v ≤ 10
      omega
    · split
      · show 0 ≤ v ∧ v ≤ 9
        omega
      · show 0 ≤ v ∧ v ≤ 1
        omega
theorem w91 {k v : Int} (hk : 0 ≤ k ∧ k ≤ 8) (hv : (k = 0 ∧ 1 ≤ v ∧ v ≤ 40) ∨ (k = 1 ∧ 1 ≤ v ∧ v ≤ 999) ∨ (k = 2 ∧ 0 ≤ v ∧ v ≤ 99) ∨ (k = 3 ∧ 1 ≤ v ∧ v ≤ 60) ∨ (k = 4 ∧ 0 ≤ v ∧ v ≤ 50) ∨ ((k = 5 ∨ k = 6) ∧ -2147483648 ≤ v ∧ v ≤ 2147483647) ∨ (k = 7 ∧ 0 ≤ v ∧ v ≤ 60) ∨ (k = 8 ∧ 0 ≤ v ∧ v ≤ 9)) :
    (tw_b 91 k.toNat).1 ≤ v ∧ v ≤ (tw_b 91 k.toNat).2 := by
  rcases hv with ⟨rfl, h⟩ | ⟨rfl, h⟩ | ⟨rfl, h⟩ | ⟨rfl, h⟩ | ⟨rfl, h⟩ | ⟨rfl | rfl, h⟩ | ⟨rfl, h⟩ | ⟨rfl, h⟩ <;> exact h
def mMu (f s p : Int) : Int := 2 * (400 - p) + (if f = 0 ∧ s = 1 then 1 else 0)
theorem mMu_lt {f s p f2 s2 p2 : Int} (hf : f = 0) (hs : s = 1) (hp : p ≤ p2) (h4 : p2 ≤ 400) (h : ¬ f2 = 0 ∨ s2 = 0 ∨ p < p2) : (mMu f2 s2 p2).toNat < (mMu f s p).toNat := by
  unfold mMu
  rw [if_pos (show f = 0 ∧ s = 1 from ⟨hf, hs⟩)]
  by_cases a : f2 = 0 ∧ s2 = 1
  · rw [if_pos a]; omega
  · rw [if_neg a]; omega
def mTx (f s p : Int) : Int := 2 * (400 - p) + (if f = 0 ∧ ¬ s = 0 then 1 else 0)
theorem mTx_lt {f s p f2 s2 p2 : Int} (hf : f = 0) (hs : ¬ s = 0) (hp : p ≤ p2) (h4 : p2 ≤ 400) (h : ¬ f2 = 0 ∨ s2 = 0 ∨ p < p2) : (mTx f2 s2 p2).toNat < (mTx f s p).toNat := by
  unfold mTx
  rw [if_pos (show f = 0 ∧ ¬ s = 0 from ⟨hf, hs⟩)]
  by_cases a : f2 = 0 ∧ ¬ s2 = 0
  · rw [if_pos a]; omega
  · rw [if_neg a]; omega
theorem mI_kd {τ : tw_M} (h : ∀ j : Nat, (j < 82 ∨ 92 < j) → j < 100 → τ 89 j = 0) (h0 : τ 90 0 = 0) (h1 : τ 90 1 = 0) (a : τ 89 193 + τ 89 195 ≤ 999) (b : τ 89 293 + τ 89 295 ≤ 999) (ht : τ 91 0 ≤ 81) : mI τ := by
  refine ⟨?_, fun q => absurd h0 q, fun q => absurd h1 q, by rw [h 93 (by omega) (by omega), h 95 (by omega) (by omega)]; decide, a, b⟩
  rw [show mc τ 0 (τ 91 0).toNat = mc τ 0 0 from mc_zero (Nat.zero_le _) (fun f h1 h2 => by rw [h _ (by omega) (by omega)]; exact Int.le_refl _)]
  show (0 : Int) ≤ 10
  decide
