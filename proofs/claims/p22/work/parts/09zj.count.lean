/-! COUNTS. -/
def cz (f : Nat → Int) : Nat → Int
  | 0 => 0
  | n + 1 => cz f n + (if f (n + 1) = 0 then 0 else 1)
theorem cz_congr {f g : Nat → Int} : ∀ {n : Nat}, (∀ j : Nat, 1 ≤ j → j ≤ n → (g j = 0 ↔ f j = 0)) → cz g n = cz f n
  | 0, _ => rfl
  | n + 1, h => by
    simp only [cz]
    rw [cz_congr (n := n) (fun j a b => h j a (by omega))]
    have e := h (n + 1) (by omega) (by omega)
    by_cases q : f (n + 1) = 0
    · rw [if_pos q, if_pos (e.mpr q)]
    · rw [if_neg q, if_neg (fun z => q (e.mp z))]
theorem cz_s {f : Nat → Int} {i : Int} (h : 1 ≤ i) : (f i.toNat = 0 ∧ cz f i.toNat = cz f (i - 1).toNat) ∨ (¬ f i.toNat = 0 ∧ cz f i.toNat = cz f (i - 1).toNat + 1) := by
  obtain ⟨n, e⟩ : ∃ n : Nat, i.toNat = n + 1 := ⟨(i - 1).toNat, by omega⟩
  rw [e, show (i - 1).toNat = n by omega]
  simp only [cz]
  by_cases q : f (n + 1) = 0
  · rw [if_pos q]; exact Or.inl ⟨q, by omega⟩
  · rw [if_neg q]; exact Or.inr ⟨q, rfl⟩
/-- sums as the machine makes them -/
def sm (f : Nat → Int) : Nat → Int
  | 0 => 0
  | n + 1 => tw_w32 (sm f n + f (n + 1))
theorem sm_congr {f g : Nat → Int} : ∀ {n : Nat}, (∀ j : Nat, 1 ≤ j → j ≤ n → g j = f j) → sm g n = sm f n
  | 0, _ => rfl
  | n + 1, h => by
    simp only [sm]
    rw [sm_congr (n := n) (fun j a b => h j a (by omega)), h (n + 1) (by omega) (by omega)]
theorem sm_s {f : Nat → Int} {i : Int} (h : 1 ≤ i) : sm f i.toNat = tw_w32 (sm f (i - 1).toNat + f i.toNat) := by
  obtain ⟨n, e⟩ : ∃ n : Nat, i.toNat = n + 1 := ⟨(i - 1).toNat, by omega⟩
  rw [e, show (i - 1).toNat = n by omega]
  rfl
