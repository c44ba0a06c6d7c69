/-! THE WAY DOWN: the least left from each foot. -/
def sN (W : PTG) (h : Int) : Int := if 1 ≤ h ∧ h ≤ W 100 ∧ (h = W 100 ∨ ¬ wL W h = 0 ∨ ¬ wR W h = 0) then 1 else 0
theorem sN_in {W : PTG} {h : Int} : sN W h = 0 ∨ sN W h = 1 := by
  unfold sN
  split
  · exact Or.inr rfl
  · exact Or.inl rfl
def mnD (W : PTG) (T : Nat → Int) (f : Int) : Nat → Int
  | 0 => -1
  | g + 1 => if (((g : Nat) : Int) = 0 ∨ sN W ((g : Nat) : Int) = 1) ∧ 0 ≤ T g ∧ f - ((g : Nat) : Int) ≤ tw_div (W 103) 2 ∧ (mnD W T f g < 0 ∨ T g + (2 - sN W f) < mnD W T f g) then T g + (2 - sN W f) else mnD W T f g
theorem mnD_s {W : PTG} {T : Nat → Int} {f g : Int} (h : 0 ≤ g) : (((g = 0 ∨ sN W g = 1) ∧ 0 ≤ T g.toNat ∧ f - g ≤ tw_div (W 103) 2 ∧ (mnD W T f g.toNat < 0 ∨ T g.toNat + (2 - sN W f) < mnD W T f g.toNat)) ∧ mnD W T f (g + 1).toNat = T g.toNat + (2 - sN W f)) ∨
    (¬ ((g = 0 ∨ sN W g = 1) ∧ 0 ≤ T g.toNat ∧ f - g ≤ tw_div (W 103) 2 ∧ (mnD W T f g.toNat < 0 ∨ T g.toNat + (2 - sN W f) < mnD W T f g.toNat)) ∧ mnD W T f (g + 1).toNat = mnD W T f g.toNat) := by
  obtain ⟨n, rfl⟩ : ∃ n : Nat, g = ((n : Nat) : Int) := ⟨g.toNat, by omega⟩
  rw [show ((n : Nat) : Int).toNat = n by omega, show (((n : Nat) : Int) + 1).toNat = n + 1 by omega]
  simp only [mnD]
  split
  · rename_i q; exact Or.inl ⟨q, rfl⟩
  · rename_i q; exact Or.inr ⟨q, rfl⟩
theorem mnD_congr {W : PTG} {T T' : Nat → Int} {f : Int} : ∀ {g : Nat}, (∀ x : Nat, x < g → T' x = T x) → mnD W T' f g = mnD W T f g
  | 0, _ => rfl
  | g + 1, h => by
    simp only [mnD]
    rw [mnD_congr (g := g) (fun x hx => h x (by omega)), h g (by omega)]
theorem mnD_lo {W : PTG} {T : Nat → Int} {f : Int} : ∀ {g : Nat}, (∀ x : Nat, x < g → tw_div (W 103) 2 < f - ((x : Nat) : Int)) → mnD W T f g = -1
  | 0, _ => rfl
  | g + 1, h => by
    simp only [mnD]
    have := h g (by omega)
    rw [if_neg (fun q => by omega)]
    exact mnD_lo (fun x hx => h x (by omega))
theorem mnD_in {W : PTG} {T : Nat → Int} {f : Int} : ∀ g : Nat, -1 ≤ mnD W T f g
  | 0 => Int.le_refl _
  | g + 1 => by
    have ih := mnD_in (W := W) (T := T) (f := f) g
    have s := sN_in (W := W) (h := f)
    simp only [mnD]
    split
    · omega
    · exact ih
def dnA (W : PTG) : Nat → (Nat → Int)
  | 0 => fun _ => 0
  | n + 1 => fun x => if x = n + 1 then mnD W (dnA W n) ((n + 1 : Nat) : Int) (n + 1) else dnA W n x
def DN (W : PTG) (n : Nat) : Int := dnA W n n
theorem dnA_st {W : PTG} {x : Nat} : ∀ {n : Nat}, x ≤ n → dnA W n x = DN W x
  | 0, h => by rw [show x = 0 by omega]; rfl
  | n + 1, h => by
    by_cases q : x = n + 1
    · rw [q]; rfl
    · show (if x = n + 1 then _ else dnA W n x) = _
      rw [if_neg q]
      exact dnA_st (by omega)
theorem DN_0 {W : PTG} : DN W 0 = 0 := rfl
theorem DN_s {W : PTG} {f : Int} (h : 1 ≤ f) : DN W f.toNat = mnD W (DN W) f f.toNat := by
  obtain ⟨n, rfl⟩ : ∃ n : Nat, f = ((n + 1 : Nat) : Int) := ⟨(f - 1).toNat, by omega⟩
  rw [show ((n + 1 : Nat) : Int).toNat = n + 1 by omega]
  show (if n + 1 = n + 1 then mnD W (dnA W n) ((n + 1 : Nat) : Int) (n + 1) else _) = _
  rw [if_pos rfl]
  exact (mnD_congr (fun x hx => (dnA_st (by omega)).symm)).symm
theorem DN_in {W : PTG} {n : Nat} : -1 ≤ DN W n := by
  by_cases q : n = 0
  · rw [q, DN_0]; decide
  · have e := DN_s (W := W) (f := ((n : Nat) : Int)) (by omega)
    rw [show ((n : Nat) : Int).toNat = n by omega] at e
    rw [e]
    exact mnD_in _
theorem mnD_hi {W : PTG} {T : Nat → Int} {f : Int} : ∀ {g : Nat}, (∀ x : Nat, x < g → T x ≤ 2 * ((x : Nat) : Int)) → mnD W T f g ≤ 2 * ((g : Nat) : Int)
  | 0, _ => by show (-1 : Int) ≤ 2 * ((0 : Nat) : Int); omega
  | g + 1, h => by
    have ih := mnD_hi (W := W) (T := T) (f := f) (g := g) (fun x hx => h x (by omega))
    have e := h g (by omega)
    have s := sN_in (W := W) (h := f)
    simp only [mnD]
    split
    · omega
    · omega
theorem DN_hi {W : PTG} : ∀ (m n : Nat), n < m → DN W n ≤ 2 * ((n : Nat) : Int)
  | 0, n, h => by omega
  | m + 1, n, h => by
    by_cases q : n = 0
    · rw [q, DN_0]; omega
    · have e := DN_s (W := W) (f := ((n : Nat) : Int)) (by omega)
      rw [show ((n : Nat) : Int).toNat = n by omega] at e
      rw [e]
      exact mnD_hi (fun x hx => DN_hi m x (by omega))
/-- the class's table below f; the reference's -/
def TDX (W : PTG) (h f : Int) (τ : tw_M) : Prop := ∀ g : Int, 0 ≤ g → g < f → (g = 0 ∨ sN W g = 1 ∨ g = h → τ 73 g.toNat = DN W g.toNat) ∧ (¬ (g = 0 ∨ sN W g = 1 ∨ g = h) → τ 73 g.toNat = -1)
def TDM (W : PTG) (h : Int) (τ : tw_M) : Prop := ∀ g : Int, 0 ≤ g → g < h → (DN W g.toNat < 0 → τ 101 g.toNat = -4) ∧ (0 ≤ DN W g.toNat → τ 101 g.toNat = DN W g.toNat)
def DAN (W : PTG) (h r : Int) : Prop := (DN W h.toNat < 0 ∧ r = -4) ∨ (0 ≤ DN W h.toNat ∧ r = DN W h.toNat)
