/-! THE WALLS AT THE START. -/
def WBG (w : Nat) (τ : tw_M) : Prop := Cn (w + 1) (fun j => (tw_first.getD j 0).toInt) τ 9 ∧ Cn (w + 2) (fun _ => 0) τ 11 ∧ Cn (w + 3) (fun _ => 1) τ 41 ∧ Cn (w + 4) (fun _ => 0) τ 41 ∧ Cn (w + 5) (fun _ => 0) τ 41 ∧ Cn (w + 6) (fun _ => 0) τ 41 ∧ Cn (w + 7) (fun _ => 5) τ 41 ∧ Cn (w + 8) (fun _ => 0) τ 41
theorem WBG_F {w : Nat} {σ τ : tw_M} (H : WBG w σ) (h : ∀ c j : Nat, w + 1 ≤ c → c < w + 9 → τ c j = σ c j) : WBG w τ := by
  obtain ⟨a, b, c, d, e, f, g, i⟩ := H
  exact ⟨Cn_F (fun j => h _ j (by omega) (by omega)) a, Cn_F (fun j => h _ j (by omega) (by omega)) b, Cn_F (fun j => h _ j (by omega) (by omega)) c, Cn_F (fun j => h _ j (by omega) (by omega)) d, Cn_F (fun j => h _ j (by omega) (by omega)) e, Cn_F (fun j => h _ j (by omega) (by omega)) f, Cn_F (fun j => h _ j (by omega) (by omega)) g, Cn_F (fun j => h _ j (by omega) (by omega)) i⟩
theorem hiL_zero {L : Nat → Int} : ∀ {h : Nat}, (∀ f : Nat, f < h → L f = 0) → hiL L h = 0
  | 0, _ => rfl
  | h + 1, H => by
    simp only [hiL]
    rw [if_pos (H h (by omega))]
    exact hiL_zero (fun f hf => H f (by omega))
theorem WBG_wW {τ : tw_M} (H : WBG 1 τ) : wW 1 τ = pwB D0 := by
  obtain ⟨a, b, c, d, e, f, g, i⟩ := H
  have key : ∀ σ : tw_M, (∀ c j : Nat, 15 ≤ c → c < 22 → σ c j = τ (c - 13) j) → (∀ c j : Nat, c < 15 → σ c j = 0) → wW 1 τ = pwB D0 := by
    intro σ h h0
    have x19 : ∀ j : Nat, j < 41 → σ 19 j = 0 := fun j hj => (h 19 j (by omega) (by omega)).trans (e j (by omega))
    rw [wW_of (σ := σ) (fun j _ => (h 15 j (by omega) (by omega)).symm) (fun j _ => (h 17 j (by omega) (by omega)).symm) (fun j _ => (h 18 j (by omega) (by omega)).symm) (fun j _ => (h 19 j (by omega) (by omega)).symm) (fun j _ => (h 20 j (by omega) (by omega)).symm) (fun j _ => (h 21 j (by omega) (by omega)).symm) (fun j hj => (i j hj).trans (hiL_zero (fun f hf => x19 f (by omega))).symm)]
    rw [drX_D0 (h0 10 3 (by omega)) (h0 10 4 (by omega)) (fun j hj => (h 15 j (by omega) (by omega)).trans (a j hj)) (fun j hj => (h 16 j (by omega) (by omega)).trans (b j hj)) (fun j hj => (h 17 j (by omega) (by omega)).trans (c j hj)) (fun j hj => (h 18 j (by omega) (by omega)).trans (d j hj)) (fun j hj => x19 j (by omega)) (fun j hj => (h 20 j (by omega) (by omega)).trans (f j hj)) (fun j hj => (h 21 j (by omega) (by omega)).trans (g j hj)) (fun j _ => h0 12 j (by omega)) (fun j _ => h0 13 j (by omega))]
  exact key (fun c j => if 15 ≤ c then τ (c - 13) j else 0) (fun c j h1 _ => if_pos h1) (fun c j h1 => if_neg (by omega))
theorem D0_r {j : Nat} (h : j < 9) : D0 (100 + j) = (tw_first.getD j 0).toInt := by
  unfold D0
  rw [if_pos (by omega), show 100 + j - 100 = j by omega]
theorem D0_k {j : Nat} (h : j < 11) : D0 (200 + j) = 0 := by
  unfold D0
  rw [if_neg (by omega), if_neg (by omega)]
