/-! PIECES BY FEET: what stands at each, how many up to one; a row of pieces that is of such. -/
abbrev PTG : Type := Nat → Int
def pg (D : PTG) (i : Nat) (v : Int) : PTG := fun n => if n = i then v else D n
def cnt (g : Nat → Int) : Nat → Int
  | 0 => 0
  | h + 1 => cnt g h + (if 0 < g (h + 1) then 1 else 0)
theorem cnt_in (g : Nat → Int) : ∀ h : Nat, 0 ≤ cnt g h ∧ cnt g h ≤ (h : Int)
  | 0 => by simp [cnt]
  | h + 1 => by
    have ih := cnt_in g h
    unfold cnt
    split <;> omega
theorem cnt_mono (g : Nat → Int) {h k : Nat} (hk : h ≤ k) : cnt g h ≤ cnt g k := by
  induction k with
  | zero => rw [show h = 0 by omega]; exact Int.le_refl _
  | succ k ih =>
    by_cases e : h = k + 1
    · rw [e]; exact Int.le_refl _
    · have := ih (by omega)
      simp only [cnt]
      split <;> omega
theorem cnt_congr {g g' : Nat → Int} : ∀ {h : Nat}, (∀ f : Nat, 1 ≤ f → f ≤ h → g' f = g f) → cnt g' h = cnt g h
  | 0, _ => rfl
  | h + 1, H => by
    simp only [cnt]
    rw [cnt_congr (fun f h1 h2 => H f h1 (by omega)), H (h + 1) (by omega) (by omega)]
theorem cnt_zero {g : Nat → Int} : ∀ {n m : Nat}, m ≤ n → (∀ f : Nat, m < f → f ≤ n → g f ≤ 0) → cnt g n = cnt g m
  | 0, m, h, _ => by rw [show m = 0 by omega]
  | n + 1, m, h, H => by
    by_cases e : m = n + 1
    · rw [e]
    · rw [← cnt_zero (n := n) (m := m) (by omega) (fun f g1 g2 => H f g1 (by omega))]
      have q := H (n + 1) (by omega) (by omega)
      simp only [cnt]
      rw [if_neg (by omega)]
      omega
theorem cnt_s {g : Nat → Int} {f : Nat} (h : 1 ≤ f) : (0 < g f ∧ cnt g f = cnt g (f - 1) + 1) ∨ (g f ≤ 0 ∧ cnt g f = cnt g (f - 1)) := by
  obtain ⟨n, rfl⟩ : ∃ n, f = n + 1 := ⟨f - 1, by omega⟩
  simp only [cnt, Nat.add_sub_cancel]
  split <;> omega
/-- the same, a foot being a number of the machine -/
theorem cnt_si {g : Nat → Int} {f : Int} (h : 1 ≤ f) : (0 < g f.toNat ∧ cnt g f.toNat = cnt g (f - 1).toNat + 1) ∨ (g f.toNat ≤ 0 ∧ cnt g f.toNat = cnt g (f - 1).toNat) := by
  have := cnt_s (g := g) (f := f.toNat) (by omega)
  rw [show (f - 1).toNat = f.toNat - 1 by omega]
  exact this
/-- a row is of these pieces (sizes by feet) and slings -/
def RG (o : Nat) (g q : Nat → Int) (σ : tw_M) : Prop := (0 ≤ σ o 0 ∧ σ o 0 ≤ 10) ∧
  (∀ i : Nat, (i : Int) < σ o 0 → 1 ≤ σ (o + 1) i ∧ σ (o + 1) i ≤ 40 ∧ 1 ≤ σ (o + 2) i ∧ g (σ (o + 1) i).toNat = σ (o + 2) i ∧ q (σ (o + 1) i).toNat = σ (o + 3) i) ∧
  (∀ i j : Nat, i < j → (j : Int) < σ o 0 → σ (o + 1) i < σ (o + 1) j) ∧
  (∀ f : Nat, g f = 0 ∨ (0 < g f ∧ ∃ i : Nat, (i : Int) < σ o 0 ∧ σ (o + 1) i = (f : Int)))
theorem RG_F {σ τ : tw_M} {o : Nat} {g q : Nat → Int} (H : RG o g q σ) (h : ∀ c j, o ≤ c → c < o + 4 → τ c j = σ c j) : RG o g q τ := by
  unfold RG at *
  rw [h o 0 (by omega) (by omega)]
  obtain ⟨a, b, c, d⟩ := H
  refine ⟨a, fun i hi => ?_, fun i j hi hj => ?_, fun f => ?_⟩
  · rw [h (o + 1) i (by omega) (by omega), h (o + 2) i (by omega) (by omega), h (o + 3) i (by omega) (by omega)]
    exact b i hi
  · rw [h (o + 1) i (by omega) (by omega), h (o + 1) j (by omega) (by omega)]
    exact c i j hi hj
  · rcases d f with d | ⟨d1, i, d2, d3⟩
    · exact Or.inl d
    · exact Or.inr ⟨d1, i, d2, by rw [h (o + 1) i (by omega) (by omega)]; exact d3⟩
/-- the same in another row that is alike -/
theorem RG_copy {σ τ : tw_M} {o p : Nat} {g q : Nat → Int} (H : RG p g q σ) (h0 : τ o 0 = σ p 0) (h : ∀ k j : Nat, 1 ≤ k → k < 4 → j < 10 → τ (o + k) j = σ (p + k) j) : RG o g q τ := by
  unfold RG at *
  rw [h0]
  obtain ⟨a, b, c, d⟩ := H
  refine ⟨a, fun i hi => ?_, fun i j hi hj => ?_, fun f => ?_⟩
  · rw [h 1 i (by omega) (by omega) (by omega), h 2 i (by omega) (by omega) (by omega), h 3 i (by omega) (by omega) (by omega)]
    exact b i hi
  · rw [h 1 i (by omega) (by omega) (by omega), h 1 j (by omega) (by omega) (by omega)]
    exact c i j hi hj
  · rcases d f with d | ⟨d1, i, d2, d3⟩
    · exact Or.inl d
    · exact Or.inr ⟨d1, i, d2, by rw [h 1 i (by omega) (by omega) (by omega)]; exact d3⟩
theorem RG_0 {σ : tw_M} {o : Nat} {q : Nat → Int} (h : σ o 0 = 0) : RG o (fun _ => 0) q σ := by
  refine ⟨by omega, fun i hi => by omega, fun i j hi hj => by omega, fun f => Or.inl rfl⟩
section RGS
variable {σ : tw_M} {o : Nat} {g q : Nat → Int}
/-- nothing stands between two neighbours of the row -/
theorem RG_gap (H : RG o g q σ) {a b : Nat} (h1 : ∀ i : Nat, (i : Int) < σ o 0 → ¬ ((a : Int) < σ (o + 1) i ∧ σ (o + 1) i < (b : Int))) : ∀ f : Nat, a < f → f < b → g f = 0 := by
  intro f f1 f2
  rcases H.2.2.2 f with d | ⟨d1, i, d2, d3⟩
  · exact d
  · exact absurd ⟨by omega, by omega⟩ (h1 i d2)
theorem RG_inj (H : RG o g q σ) {i j : Nat} (hi : (i : Int) < σ o 0) (hj : (j : Int) < σ o 0) (e : σ (o + 1) i ≤ σ (o + 1) j) : i ≤ j := by
  rcases Nat.lt_or_ge j i with h | h
  · have := H.2.2.1 j i h hi
    omega
  · exact h
theorem RG_mono (H : RG o g q σ) {i j : Nat} (hj : (j : Int) < σ o 0) (h : i ≤ j) : σ (o + 1) i ≤ σ (o + 1) j := by
  rcases Nat.lt_or_ge i j with h2 | h2
  · have := H.2.2.1 i j h2 hj
    omega
  · rw [show i = j by omega]
    exact Int.le_refl _
/-- the i-th of the row is the i-th by feet -/
theorem RG_cnt (H : RG o g q σ) : ∀ i : Nat, (i : Int) < σ o 0 → cnt g (σ (o + 1) i).toNat = (i : Int) + 1
  | 0, hi => by
    obtain ⟨b1, b2, b3, b4, b5⟩ := H.2.1 0 hi
    have z : cnt g ((σ (o + 1) 0).toNat - 1) = cnt g 0 := cnt_zero (by omega) (fun f f1 f2 => by
      rw [RG_gap H (a := 0) (b := (σ (o + 1) 0).toNat) (fun i h q => by
        have := RG_mono H h (Nat.zero_le i)
        omega) f f1 (by omega)]
      exact Int.le_refl _)
    have s := cnt_s (g := g) (f := (σ (o + 1) 0).toNat) (by omega)
    have z0 : cnt g 0 = 0 := rfl
    omega
  | i + 1, hi => by
    have ih := RG_cnt H i (by omega)
    have c1 := H.2.2.1 i (i + 1) (by omega) hi
    obtain ⟨b1, b2, b3, b4, b5⟩ := H.2.1 (i + 1) hi
    obtain ⟨e1, e2, e3, e4, e5⟩ := H.2.1 i (by omega)
    have z : cnt g ((σ (o + 1) (i + 1)).toNat - 1) = cnt g (σ (o + 1) i).toNat := cnt_zero (by omega) (fun f f1 f2 => by
      rw [RG_gap H (a := (σ (o + 1) i).toNat) (b := (σ (o + 1) (i + 1)).toNat) (fun j h q => by
        have u1 := RG_inj H (i := j) (j := i + 1) h hi (by omega)
        have u2 := RG_inj H (i := i) (j := j) (by omega) h (by omega)
        rcases (show j = i ∨ j = i + 1 by omega) with u | u <;> subst u <;> omega) f f1 (by omega)]
      exact Int.le_refl _)
    have s := cnt_s (g := g) (f := (σ (o + 1) (i + 1)).toNat) (by omega)
    omega
theorem RG_le (H : RG o g q σ) {i h : Nat} (hi : (i : Int) < σ o 0) : σ (o + 1) i ≤ (h : Int) ↔ (i : Int) < cnt g h := by
  have c := RG_cnt H i hi
  obtain ⟨b1, b2, b3, b4, b5⟩ := H.2.1 i hi
  constructor
  · intro e
    have m := cnt_mono g (h := (σ (o + 1) i).toNat) (k := h) (by omega)
    omega
  · intro e
    rcases (show (h : Int) < σ (o + 1) i ∨ σ (o + 1) i ≤ (h : Int) by omega) with u | u
    · have m := cnt_mono g (h := h) (k := (σ (o + 1) i).toNat - 1) (by omega)
      have s := cnt_s (g := g) (f := (σ (o + 1) i).toNat) (by omega)
      omega
    · exact u
/-- up to a foot there are at most those of the row -/
theorem RG_n (H : RG o g q σ) (h : Nat) : cnt g h ≤ σ o 0 := by
  induction h with
  | zero => have := H.1; show (0 : Int) ≤ _; omega
  | succ h ih =>
    have s := cnt_s (g := g) (f := h + 1) (by omega)
    rcases s with ⟨s1, s2⟩ | ⟨s1, s2⟩
    · rcases H.2.2.2 (h + 1) with d | ⟨d1, i, d2, d3⟩
      · omega
      · have c := RG_cnt H i d2
        rw [d3] at c
        have e : ((h + 1 : Nat) : Int).toNat = h + 1 := by omega
        rw [e] at c
        omega
    · rw [s2]; exact ih
theorem RG_all (H : RG o g q σ) {h : Nat} (h40 : ∀ i : Nat, (i : Int) < σ o 0 → σ (o + 1) i ≤ (h : Int)) : cnt g h = σ o 0 := by
  have n := RG_n H h
  by_cases z : σ o 0 = 0
  · have := (cnt_in g h).1; omega
  · have a := H.1
    have e : (((σ o 0 - 1).toNat : Nat) : Int) < σ o 0 := by omega
    have c := (RG_le H (h := h) e).mp (h40 _ e)
    omega
theorem RG_all40 (H : RG o g q σ) : cnt g 40 = σ o 0 := RG_all H (fun i hi => (H.2.1 i hi).2.1)
/-- what stands at a foot, by its number -/
theorem RG_at (H : RG o g q σ) {f : Nat} (h : 0 < g f) : 1 ≤ cnt g f ∧ cnt g f ≤ σ o 0 ∧ σ (o + 1) (cnt g f - 1).toNat = (f : Int) ∧ σ (o + 2) (cnt g f - 1).toNat = g f ∧ σ (o + 3) (cnt g f - 1).toNat = q f := by
  rcases H.2.2.2 f with d | ⟨d1, i, d2, d3⟩
  · omega
  · have c := RG_cnt H i d2
    obtain ⟨b1, b2, b3, b4, b5⟩ := H.2.1 i d2
    rw [d3] at c b4 b5
    rw [show ((f : Nat) : Int).toNat = f by omega] at c b4 b5
    rw [show (cnt g f - 1).toNat = i by omega]
    exact ⟨by omega, by omega, d3, b4.symm, b5.symm⟩
theorem RG_nn (H : RG o g q σ) (f : Nat) : 0 ≤ g f := by
  rcases H.2.2.2 f with d | ⟨d1, _⟩ <;> omega
theorem RG_z (H : RG o g q σ) {f : Nat} (h : f = 0 ∨ 40 < f) : g f = 0 := by
  rcases H.2.2.2 f with d | ⟨d1, i, d2, d3⟩
  · exact d
  · have := H.2.1 i d2
    omega
/-- what was looked for at a foot -/
theorem RG_look (H : RG o g q σ) {h r : Int} (hr : (0 ≤ r ∧ r < σ o 0 ∧ σ (o + 1) r.toNat = h) ∨ (r = -4 ∧ ∀ k : Nat, (k : Int) < σ o 0 → ¬ σ (o + 1) k = h)) (hh : 0 ≤ h) : (0 < g h.toNat ∧ 0 ≤ r ∧ r = cnt g h.toNat - 1) ∨ (g h.toNat = 0 ∧ r = -4) := by
  rcases hr with ⟨a, b, c⟩ | ⟨a, b⟩
  · have e : ((r.toNat : Nat) : Int) < σ o 0 := by omega
    have k := RG_cnt H r.toNat e
    obtain ⟨b1, b2, b3, b4, b5⟩ := H.2.1 r.toNat e
    rw [c] at k b4
    exact Or.inl ⟨by omega, a, by omega⟩
  · rcases H.2.2.2 h.toNat with d | ⟨d1, i, d2, d3⟩
    · exact Or.inr ⟨d, a⟩
    · exact absurd (show σ (o + 1) i = h by omega) (b i d2)
end RGS
