/-! WHAT STANDS BETWEEN THE CALLS. -/
def SHK (c : Nat) (τ : tw_M) : Prop := τ (80 + 2 * c) 1 = 1 → τ (80 + 2 * c) 2 = τ 104 c ∧ ∀ j : Nat, j < 40 → τ (81 + 2 * c) j = τ 106 (40 * c + j)
def IMG (u : Nat) (b : Int) (τ : tw_M) : Prop := ¬ τ u 6 = 0 → HR (τ 3) u b τ ∧ τ u 4 = τ 89 (b + 97).toNat ∧ τ u 5 = τ 89 (b + 98).toNat
def ST (τ : tw_M) : Prop := wW 1 τ = wM τ ∧ HR (τ 3) 23 0 τ ∧ (τ 23 4 = τ 91 5 ∧ τ 23 5 = τ 91 6) ∧ IMG 31 100 τ ∧ IMG 39 200 τ ∧ (¬ τ 60 6 = 0 → PLN (wM τ) (τ 3) τ) ∧ (∀ c : Nat, c < 4 → SHK c τ) ∧ τ 0 14 = τ 88 38
/-- the places that it speaks of, the planner's aside -/
def STR (c j : Nat) : Prop := (0 < c ∧ c < 10) ∨ (23 ≤ c ∧ c < 29) ∨ (31 ≤ c ∧ c < 37) ∨ (39 ≤ c ∧ c < 45) ∨ (80 ≤ c ∧ c < 88) ∨ (c = 0 ∧ j = 14) ∨ (c = 88 ∧ j = 38) ∨ (c = 89 ∧ j < 300 ∧ (j % 100 < 93 ∨ 96 < j % 100)) ∨ c = 91 ∨ c = 92 ∨ (104 ≤ c ∧ c < 107)
theorem IMG_F {u : Nat} {b : Int} {σ τ : tw_M} (H : IMG u b σ) (h3 : ∀ j, τ 3 j = σ 3 j) (hu : ∀ c j : Nat, u ≤ c → c < u + 6 → τ c j = σ c j) (hb : ∀ j : Int, 1 ≤ j → j < 93 → τ 89 (b + j).toNat = σ 89 (b + j).toNat) (h7 : τ 89 (b + 97).toNat = σ 89 (b + 97).toNat) (h8 : τ 89 (b + 98).toNat = σ 89 (b + 98).toNat) (h91 : τ 91 0 = σ 91 0) : IMG u b τ := by
  intro k
  rw [hu u 6 (by omega) (by omega)] at k
  obtain ⟨a, c, d⟩ := H k
  have e3 : τ 3 = σ 3 := funext h3
  refine ⟨by rw [e3]; exact HR_F a (fun c j x1 x2 => hu c j (by omega) (by omega)) hb h91, ?_, ?_⟩
  · rw [hu u 4 (by omega) (by omega), h7]; exact c
  · rw [hu u 5 (by omega) (by omega), h8]; exact d
/-- nothing of it changes, but perhaps the planner's -/
theorem ST_P {σ τ : tw_M} (H : ST σ) (h : ∀ c j, STR c j → τ c j = σ c j) (hp : (¬ σ 60 6 = 0 → PLN (wM σ) (σ 3) σ) → ¬ τ 60 6 = 0 → PLN (wM σ) (σ 3) τ) : ST τ := by
  obtain ⟨a, b, c, d, e, f, g, i⟩ := H
  have eM : wM τ = wM σ := wM_F (fun j _ _ => h 91 j (by unfold STR; omega)) (fun j => h 92 j (by unfold STR; omega))
  have eW : wW 1 τ = wW 1 σ := wW_F (fun c j x1 x2 => h c j (by unfold STR; omega))
  have e3 : τ 3 = σ 3 := funext (fun j => h 3 j (by unfold STR; omega))
  have h91 : τ 91 0 = σ 91 0 := h 91 0 (by unfold STR; omega)
  refine ⟨by rw [eW, eM]; exact a, by rw [e3]; exact HR_F b (fun c j x1 x2 => h c j (by unfold STR; omega)) (fun j x1 x2 => h 89 _ (by unfold STR; omega)) h91, ?_, ?_, ?_, fun k => by rw [eM, e3]; exact hp f k, fun q hq => ?_, ?_⟩
  · rw [h 23 4 (by unfold STR; omega), h 23 5 (by unfold STR; omega), h 91 5 (by unfold STR; omega), h 91 6 (by unfold STR; omega)]; exact c
  · exact IMG_F d (fun j => h 3 j (by unfold STR; omega)) (fun c j x1 x2 => h c j (by unfold STR; omega)) (fun j x1 x2 => h 89 _ (by unfold STR; omega)) (h 89 _ (by unfold STR; omega)) (h 89 _ (by unfold STR; omega)) h91
  · exact IMG_F e (fun j => h 3 j (by unfold STR; omega)) (fun c j x1 x2 => h c j (by unfold STR; omega)) (fun j x1 x2 => h 89 _ (by unfold STR; omega)) (h 89 _ (by unfold STR; omega)) (h 89 _ (by unfold STR; omega)) h91
  · have gq := g q hq
    unfold SHK at gq ⊢
    rw [h (80 + 2 * q) 1 (by unfold STR; omega), h (80 + 2 * q) 2 (by unfold STR; omega), h 104 q (by unfold STR; omega)]
    intro k
    exact ⟨(gq k).1, fun j hj => by rw [h (81 + 2 * q) j (by unfold STR; omega), h 106 _ (by unfold STR; omega)]; exact (gq k).2 j hj⟩
  · rw [h 0 14 (by unfold STR; omega), h 88 38 (by unfold STR; omega)]; exact i
theorem ST_F {σ τ : tw_M} (H : ST σ) (h : ∀ c j, STR c j ∨ (60 ≤ c ∧ c < 71) → τ c j = σ c j) : ST τ :=
  ST_P H (fun c j q => h c j (Or.inl q)) (fun f k => BST_F (f (by rw [← h 60 6 (Or.inr (by omega))]; exact k)) (fun j => h 60 j (Or.inr (by omega))) (fun c j x1 x2 => h c j (Or.inr (by omega))))
/-- the hand changes, all else stays -/
theorem ST_H {σ τ : tw_M} (H : ST σ) (hH : HR (τ 3) 23 0 τ) (h : ∀ c j, (STR c j ∨ (60 ≤ c ∧ c < 71)) → ¬ (24 ≤ c ∧ c < 29) → ¬ (c = 89 ∧ j < 100) → τ c j = σ c j) : ST τ := by
  obtain ⟨a, b, c, d, e, f, g, i⟩ := H
  have eM : wM τ = wM σ := wM_F (fun j _ _ => h 91 j (by unfold STR; omega) (by omega) (by omega)) (fun j => h 92 j (by unfold STR; omega) (by omega) (by omega))
  have eW : wW 1 τ = wW 1 σ := wW_F (fun c j x1 x2 => h c j (by unfold STR; omega) (by omega) (by omega))
  have e3 : τ 3 = σ 3 := funext (fun j => h 3 j (by unfold STR; omega) (by omega) (by omega))
  have h91 : τ 91 0 = σ 91 0 := h 91 0 (by unfold STR; omega) (by omega) (by omega)
  have h60 : ∀ j, τ 60 j = σ 60 j := fun j => h 60 j (Or.inr (by omega)) (by omega) (by omega)
  refine ⟨by rw [eW, eM]; exact a, hH, ?_, ?_, ?_, fun k => by rw [eM, e3]; exact BST_F (f (by rw [← h60]; exact k)) h60 (fun c j x1 x2 => h c j (Or.inr (by omega)) (by omega) (by omega)), fun q hq => ?_, ?_⟩
  · rw [h 23 4 (by unfold STR; omega) (by omega) (by omega), h 23 5 (by unfold STR; omega) (by omega) (by omega), h 91 5 (by unfold STR; omega) (by omega) (by omega), h 91 6 (by unfold STR; omega) (by omega) (by omega)]; exact c
  · exact IMG_F d (fun j => h 3 j (by unfold STR; omega) (by omega) (by omega)) (fun c j x1 x2 => h c j (by unfold STR; omega) (by omega) (by omega)) (fun j x1 x2 => h 89 _ (by unfold STR; omega) (by omega) (by omega)) (h 89 _ (by unfold STR; omega) (by omega) (by omega)) (h 89 _ (by unfold STR; omega) (by omega) (by omega)) h91
  · exact IMG_F e (fun j => h 3 j (by unfold STR; omega) (by omega) (by omega)) (fun c j x1 x2 => h c j (by unfold STR; omega) (by omega) (by omega)) (fun j x1 x2 => h 89 _ (by unfold STR; omega) (by omega) (by omega)) (h 89 _ (by unfold STR; omega) (by omega) (by omega)) (h 89 _ (by unfold STR; omega) (by omega) (by omega)) h91
  · have gq := g q hq
    unfold SHK at gq ⊢
    rw [h (80 + 2 * q) 1 (by unfold STR; omega) (by omega) (by omega), h (80 + 2 * q) 2 (by unfold STR; omega) (by omega) (by omega), h 104 q (by unfold STR; omega) (by omega) (by omega)]
    intro k
    exact ⟨(gq k).1, fun j hj => by rw [h (81 + 2 * q) j (by unfold STR; omega) (by omega) (by omega), h 106 _ (by unfold STR; omega) (by omega) (by omega)]; exact (gq k).2 j hj⟩
  · rw [h 0 14 (by unfold STR; omega) (by omega) (by omega), h 88 38 (by unfold STR; omega) (by omega) (by omega)]; exact i
