/-! THE REFERENCE'S PIECES: what putting and taking keep. -/
theorem mI_put {σ τ1 τ2 τ : tw_M} {h s z : Int} (hI : tw_I σ) (H : mI σ) (h1 : 1 ≤ h ∧ h ≤ σ 91 0) (hs : 1 ≤ s ∧ s ≤ 10) (h0 : σ 89 h.toNat = 0) (hn : ¬ mc σ 0 (σ 91 0).toNat = 10)
    (e1 : τ1 = tw_up σ 89 h.toNat s) (e2 : τ2 = tw_up τ1 89 (41 + h).toNat 0) (e3 : τ = tw_up τ2 89 (82 + s).toNat z) : mI τ := by
  have ft : (1 : Int) ≤ σ 91 0 ∧ σ 91 0 ≤ 40 := hI 91 0
  have k : ∀ c j : Nat, (¬ c = 89 ∨ (¬ j = h.toNat ∧ ¬ j = (41 + h).toNat ∧ ¬ j = (82 + s).toNat)) → τ c j = σ c j := by
    intro c j q
    rw [tw_ne1 e3 (by omega), tw_ne1 e2 (by omega), tw_ne1 e1 (by omega)]
  refine mI_mk hI H ?_ (by rw [k 89 93 (by omega), k 89 95 (by omega)]; exact H.2.2.2.1) (fun j h1 h2 => k 89 j (by omega)) (fun j => k 90 j (by omega)) (k 91 0 (by omega))
  have u := mc_upd (σ := σ) (τ := τ) (b := 0) (p := h) h1.1 (h := (σ 91 0).toNat) (by omega) (fun f f1 f2 f3 => k 89 _ (by omega))
  have m := H.1
  rw [show (0 + h).toNat = h.toNat by omega, if_neg (by omega)] at u
  split at u <;> omega
theorem mI_take {σ τ1 τ2 τ : tw_M} {h v z : Int} (hI : tw_I σ) (H : mI σ) (h1 : 1 ≤ h ∧ h ≤ σ 91 0) (hs : 0 ≤ v ∧ v ≤ 10)
    (e1 : τ1 = tw_up σ 89 (82 + v).toNat z) (e2 : τ2 = tw_up τ1 89 h.toNat 0) (e3 : τ = tw_up τ2 89 (41 + h).toNat 0) : mI τ := by
  have ft : (1 : Int) ≤ σ 91 0 ∧ σ 91 0 ≤ 40 := hI 91 0
  have k : ∀ c j : Nat, (¬ c = 89 ∨ (¬ j = h.toNat ∧ ¬ j = (41 + h).toNat ∧ ¬ j = (82 + v).toNat)) → τ c j = σ c j := by
    intro c j q
    rw [tw_ne1 e3 (by omega), tw_ne1 e2 (by omega), tw_ne1 e1 (by omega)]
  refine mI_mk hI H ?_ (by rw [k 89 93 (by omega), k 89 95 (by omega)]; exact H.2.2.2.1) (fun j h1 h2 => k 89 j (by omega)) (fun j => k 90 j (by omega)) (k 91 0 (by omega))
  refine Int.le_trans (mc_le (fun f f1 f2 => ?_)) H.1
  by_cases q : f = h
  · subst q
    right
    rw [show (0 + f).toNat = f.toNat by omega, tw_ne1 e3 (by omega), tw_eq1 e2]
    exact Int.le_refl _
  · exact Or.inl (k 89 _ (by omega))
theorem mI_one {σ τ : tw_M} {h v : Int} (hI : tw_I σ) (H : mI σ) (h1 : 1 ≤ h ∧ h ≤ 40) (e1 : τ = tw_up σ 89 (41 + h).toNat v) : mI τ := by
  have ft : (1 : Int) ≤ σ 91 0 ∧ σ 91 0 ≤ 40 := hI 91 0
  refine mI_mk hI H ?_ (by rw [tw_ne1 e1 (by omega), tw_ne1 e1 (by omega)]; exact H.2.2.2.1) (fun j h1 h2 => tw_ne1 e1 (by omega)) (fun j => tw_ne1 e1 (by omega)) (tw_ne1 e1 (by omega))
  rw [mc_congr (σ := σ) (b := 0) (fun f f1 f2 => tw_ne1 e1 (by omega))]
  exact H.1
theorem mI_restore {σ τ2 τ : tw_M} (hI : tw_I σ) (H : mI σ) (q : ∀ j : Nat, (j : Int) < 100 → τ 89 (0 + (j : Int)).toNat = τ2 89 (300 + (j : Int)).toNat) (c : ∀ j : Nat, (j : Int) < 100 → τ2 89 (300 + (j : Int)).toNat = σ 89 (0 + (j : Int)).toNat)
    (a : ∀ j, 100 ≤ j → j < 300 → τ 89 j = σ 89 j) (b : ∀ j, τ 90 j = σ 90 j) (d : τ 91 0 = σ 91 0) : mI τ := by
  refine mI_kept H (fun j hj => ?_) b d hI
  by_cases k : j < 100
  · have x := (q j (by omega)).trans (c j (by omega))
    rw [show (0 + (j : Int)).toNat = j by omega] at x
    exact x
  · exact a j (by omega) hj
