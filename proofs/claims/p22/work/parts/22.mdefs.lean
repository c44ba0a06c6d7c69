/-! THE REFERENCE'S NUMBERS: how many pieces stand up to a foot, and what they keep. -/
def mc (σ : tw_M) (b : Int) : Nat → Int
  | 0 => 0
  | h + 1 => mc σ b h + (if 0 < σ 89 (b + ((h + 1 : Nat) : Int)).toNat then 1 else 0)
theorem mc_in (σ : tw_M) (b : Int) : ∀ h : Nat, 0 ≤ mc σ b h ∧ mc σ b h ≤ (h : Int)
  | 0 => by simp [mc]
  | h + 1 => by
    have ih := mc_in σ b h
    unfold mc
    split <;> omega
theorem mc_s {σ : tw_M} {b f : Int} (h1 : 1 ≤ f) : (0 < σ 89 (b + f).toNat ∧ mc σ b f.toNat = mc σ b (f - 1).toNat + 1) ∨ (σ 89 (b + f).toNat ≤ 0 ∧ mc σ b f.toNat = mc σ b (f - 1).toNat) := by
  obtain ⟨n, rfl⟩ : ∃ n : Nat, f = ((n + 1 : Nat) : Int) := ⟨(f - 1).toNat, by omega⟩
  have e1 : (((n + 1 : Nat) : Int)).toNat = n + 1 := by omega
  have e2 : (((n + 1 : Nat) : Int) - 1).toNat = n := by omega
  rw [e1, e2]
  by_cases h : 0 < σ 89 (b + ((n + 1 : Nat) : Int)).toNat
  · exact Or.inl ⟨h, by simp only [mc]; rw [if_pos h]⟩
  · exact Or.inr ⟨by omega, by simp only [mc]; rw [if_neg h]; omega⟩
theorem mc_mono (σ : tw_M) (b : Int) {h k : Nat} (hk : h ≤ k) : mc σ b h ≤ mc σ b k := by
  induction k with
  | zero => rw [show h = 0 by omega]; exact Int.le_refl _
  | succ k ih =>
    by_cases e : h = k + 1
    · rw [e]; exact Int.le_refl _
    · have := ih (by omega)
      simp only [mc]
      split <;> omega
theorem mc_congr {σ τ : tw_M} {b b' : Int} : ∀ {h : Nat}, (∀ f : Int, 1 ≤ f → f ≤ (h : Int) → τ 89 (b' + f).toNat = σ 89 (b + f).toNat) → mc τ b' h = mc σ b h
  | 0, _ => rfl
  | h + 1, H => by
    simp only [mc]
    rw [mc_congr (fun f h1 h2 => H f h1 (by omega)), H ((h + 1 : Nat) : Int) (by omega) (by omega)]
/-- one place changes: the count up to a foot from there on changes by what it was and is -/
theorem mc_upd {σ τ : tw_M} {b p : Int} (h1 : 1 ≤ p) : ∀ {h : Nat}, p ≤ (h : Int) → (∀ f : Int, 1 ≤ f → f ≤ (h : Int) → f ≠ p → τ 89 (b + f).toNat = σ 89 (b + f).toNat) →
    mc τ b h + (if 0 < σ 89 (b + p).toNat then 1 else 0) = mc σ b h + (if 0 < τ 89 (b + p).toNat then 1 else 0)
  | 0, h2, _ => by omega
  | h + 1, h2, H => by
    simp only [mc]
    by_cases e : p = ((h + 1 : Nat) : Int)
    · subst e
      rw [mc_congr (σ := σ) (τ := τ) (b := b) (b' := b) (h := h) (fun f g1 g2 => H f g1 (by omega) (by omega))]
      omega
    · have ih := mc_upd (σ := σ) (τ := τ) (b := b) h1 (h := h) (by omega) (fun f g1 g2 g3 => H f g1 (by omega) g3)
      rw [H ((h + 1 : Nat) : Int) (by omega) (by omega) (Ne.symm e)]
      omega
theorem mw_10 {σ : tw_M} (h : tw_I σ) (j : Nat) : 0 ≤ σ 92 j ∧ σ 92 j ≤ 10 := by
  have h1 : (bMW j).1 ≤ σ 92 j ∧ σ 92 j ≤ (bMW j).2 := h 92 j
  have h2 : 0 ≤ (bMW j).1 ∧ (bMW j).2 ≤ 10 := by
    unfold bMW
    split
    · decide
    · split
      · decide
      · split <;> decide
  omega
theorem st_p {σ : tw_M} (h : tw_I σ) {j : Nat} (hj : j % 100 ≤ 40) : 0 ≤ σ 89 j ∧ σ 89 j ≤ 10 := by
  have h1 : (bST j).1 ≤ σ 89 j ∧ σ 89 j ≤ (bST j).2 := h 89 j
  have e : bST j = (0, 10) := by unfold bST; rw [if_pos hj]
  rw [e] at h1
  exact h1
theorem st_t {σ : tw_M} (h : tw_I σ) {j : Nat} (hj : j % 100 = 93 ∨ j % 100 = 95) : 0 ≤ σ 89 j ∧ σ 89 j ≤ 999 := by
  have h1 : (bST j).1 ≤ σ 89 j ∧ σ 89 j ≤ (bST j).2 := h 89 j
  have e : bST j = (0, 999) := by unfold bST; rw [if_neg (by omega), if_pos hj]
  rw [e] at h1
  exact h1
/-- what may be written -/
theorem st_wp {j : Nat} {v : Int} (hj : j % 100 ≤ 40) (h : 0 ≤ v ∧ v ≤ 10) : (tw_b 89 j).1 ≤ v ∧ v ≤ (tw_b 89 j).2 := by
  have e : tw_b 89 j = (0, 10) := by show bST j = _; unfold bST; rw [if_pos hj]
  rw [e]; exact h
theorem st_wt {j : Nat} {v : Int} (hj : j % 100 = 93 ∨ j % 100 = 95) (h : 0 ≤ v ∧ v ≤ 999) : (tw_b 89 j).1 ≤ v ∧ v ≤ (tw_b 89 j).2 := by
  have e : tw_b 89 j = (0, 999) := by show bST j = _; unfold bST; rw [if_neg (by omega), if_pos hj]
  rw [e]; exact h
theorem st_wd {j : Nat} {v : Int} (hj : 40 < j % 100 ∧ ¬ j % 100 = 93 ∧ ¬ j % 100 = 95) (h : -2147483648 ≤ v ∧ v ≤ 2147483647) : (tw_b 89 j).1 ≤ v ∧ v ≤ (tw_b 89 j).2 := by
  have e : tw_b 89 j = (-2147483648, 2147483647) := by show bST j = _; unfold bST; rw [if_neg (by omega), if_neg (by omega)]
  rw [e]; exact h
theorem st_w0 {j : Nat} : (tw_b 89 j).1 ≤ 0 ∧ (0 : Int) ≤ (tw_b 89 j).2 := by
  show (bST j).1 ≤ 0 ∧ 0 ≤ (bST j).2
  unfold bST
  split
  · decide
  · split <;> decide
theorem st_cong {i j : Nat} (h : i % 100 = j % 100) : tw_b 89 i = tw_b 89 j := by
  show bST i = bST j
  unfold bST
  rw [h]
/-- what the reference keeps: at most ten pieces, in its images too; at most 999 tries -/
def mI (σ : tw_M) : Prop := mc σ 0 (σ 91 0).toNat ≤ 10 ∧ (¬ σ 90 0 = 0 → mc σ 100 (σ 91 0).toNat ≤ 10) ∧ (¬ σ 90 1 = 0 → mc σ 200 (σ 91 0).toNat ≤ 10) ∧
  σ 89 93 + σ 89 95 ≤ 999 ∧ σ 89 193 + σ 89 195 ≤ 999 ∧ σ 89 293 + σ 89 295 ≤ 999
theorem mI_kept {σ τ : tw_M} (h : mI σ) (h1 : ∀ j, j < 300 → τ 89 j = σ 89 j) (h2 : ∀ j, τ 90 j = σ 90 j) (h3 : τ 91 0 = σ 91 0) (hI : tw_I σ) : mI τ := by
  have ft : (1 : Int) ≤ σ 91 0 ∧ σ 91 0 ≤ 40 := hI 91 0
  obtain ⟨a, b, c, d, e, f⟩ := h
  refine ⟨?_, ?_, ?_, by rw [h1 93 (by omega), h1 95 (by omega)]; exact d, by rw [h1 193 (by omega), h1 195 (by omega)]; exact e, by rw [h1 293 (by omega), h1 295 (by omega)]; exact f⟩
  · rw [h3, mc_congr (fun f g1 g2 => h1 _ (by omega))]; exact a
  · rw [h3, h2, mc_congr (fun f g1 g2 => h1 _ (by omega))]; exact b
  · rw [h3, h2, mc_congr (fun f g1 g2 => h1 _ (by omega))]; exact c
theorem and1 {a : Int} : 0 ≤ tw_and a 1 ∧ tw_and a 1 ≤ 1 := by
  have e : Int32.ofInt a &&& Int32.ofInt 1 = nI ((Int32.ofInt a).toBitVec.toNat % 2 ^ 1) := pk_and (Int32.ofInt a) (m := Int32.ofInt 1) 1 (by decide)
  unfold tw_and
  rw [e, nI_toInt (by omega)]
  omega
def mBit (s k : Int) : Int := tw_and (tw_shr s k) 1
def mPop (s : Int) : Nat → Int
  | 0 => 0
  | k + 1 => mPop s k + mBit s k
theorem mPop_s {s k : Int} (hk : 0 ≤ k) : mPop s (k + 1).toNat = mPop s k.toNat + mBit s k := by
  rw [show (k + 1).toNat = k.toNat + 1 by omega]
  show mPop s k.toNat + mBit s (k.toNat : Int) = _
  rw [Int.toNat_of_nonneg hk]
theorem mc_F {P : Nat → Nat → Prop} {σ τ : tw_M} {b : Int} (hI : tw_I σ) (h : tw_F P σ τ) (hn : ∀ f : Int, 1 ≤ f → f ≤ 40 → ¬ P 89 (b + f).toNat) (h0 : ¬ P 91 0) : mc τ b (τ 91 0).toNat = mc σ b (σ 91 0).toNat := by
  have ft : (1 : Int) ≤ σ 91 0 ∧ σ 91 0 ≤ 40 := hI 91 0
  rw [h 91 0 h0]
  exact mc_congr (fun f h1 h2 => h 89 _ (hn f h1 (by omega)))
def p20 (k : Int) : Int := 20 ^ k.toNat
theorem p20_0 : p20 0 = 1 := rfl
theorem p20_s {k : Int} (h : 0 ≤ k) (h2 : k ≤ 9) : 1 ≤ p20 k ∧ p20 k ≤ 512000000000 ∧ p20 (k + 1) = p20 k * 20 := by
  rcases (show k = 0 ∨ k = 1 ∨ k = 2 ∨ k = 3 ∨ k = 4 ∨ k = 5 ∨ k = 6 ∨ k = 7 ∨ k = 8 ∨ k = 9 by omega) with h | h | h | h | h | h | h | h | h | h <;> subst h <;> decide
theorem p20_p {k : Int} : ¬ p20 k = 0 := by
  unfold p20
  have h := Int.pow_pos (n := 20) (m := k.toNat) (by decide)
  omega
def mD (σ : tw_M) (h f : Int) : Int := tw_w32 (2 * (h - f) + tw_div (tw_w32 (σ 91 4 * h)) 100)
/-- nothing is struck below a foot, when the rope holds at d -/
def NSt (σ : tw_M) (d f : Int) : Prop := 0 < d ∧ ∀ g : Int, 1 ≤ g → g < f → ¬ (d ≤ g ∧ σ 92 (5 * g + 2).toNat = 1)
def SI (σ : tw_M) (d x f : Int) : Prop := (x = -4 ∧ NSt σ d f) ∨ (¬ x = -4 ∧ ¬ NSt σ d f)
theorem SI_0 {σ : tw_M} {d x : Int} (h : (d ≤ 0 ∧ x = 0) ∨ (0 < d ∧ x = -4)) : SI σ d x 1 := by
  rcases h with ⟨h1, h2⟩ | ⟨h1, h2⟩
  · exact Or.inr ⟨by omega, fun q => by have := q.1; omega⟩
  · exact Or.inl ⟨h2, h1, fun g g1 g2 => by exfalso; omega⟩
theorem SI_hit {σ : tw_M} {d x' f : Int} (h1 : 1 ≤ f) (hd : d ≤ f) (hw : σ 92 (5 * f + 2).toNat = 1) (e : x' = f) : SI σ d x' (f + 1) :=
  Or.inr ⟨by omega, fun q => q.2 f h1 (by omega) ⟨hd, hw⟩⟩
theorem SI_keep {σ : tw_M} {d x x' f : Int} (H : SI σ d x f) (h1 : 1 ≤ f) (hn : ¬ (d ≤ f ∧ σ 92 (5 * f + 2).toNat = 1)) (e : x' = x) : SI σ d x' (f + 1) := by
  subst e
  rcases H with ⟨a, b, c⟩ | ⟨a, b⟩
  · refine Or.inl ⟨a, b, fun g g1 g2 => ?_⟩
    by_cases q : g = f
    · subst q; exact hn
    · exact c g g1 (by omega)
  · exact Or.inr ⟨a, fun q => b ⟨q.1, fun g g1 g2 => q.2 g g1 (by omega)⟩⟩
theorem NSt_congr {σ τ : tw_M} {d f : Int} (H : ∀ j, τ 92 j = σ 92 j) : NSt τ d f ↔ NSt σ d f := by
  unfold NSt
  simp only [H]
