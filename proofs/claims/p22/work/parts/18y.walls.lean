/-! THE WALLS of both out of one parse. -/
def pwB (S : PTS) : PTS := fun n => if n = 105 ∨ n = 106 then 0 else if 100 ≤ n ∧ n < 109 then S n else if 300 ≤ n ∧ n < 505 then S n
  else if 600 ≤ n ∧ n < 641 then hiL (fun f => S (302 + 5 * f)) (n - 600) else 0
theorem drX_wl {σ : tw_M} {n : Nat} (c : 300 ≤ n ∧ n < 505) : drX σ n = (if (n - 300) % 5 = 0 then σ 17 ((n - 300) / 5) else if (n - 300) % 5 = 1 then σ 18 ((n - 300) / 5) else if (n - 300) % 5 = 2 then σ 19 ((n - 300) / 5) else if (n - 300) % 5 = 3 then σ 20 ((n - 300) / 5) else σ 21 ((n - 300) / 5)) := by
  unfold drX
  rw [if_neg (by omega), if_neg (by omega), if_neg (by omega), if_neg (by omega), if_pos c]
theorem wW_of {σ τ : tw_M} (h2 : Cn 2 (σ 15) τ 9) (h4 : Cn 4 (σ 17) τ 41) (h5 : Cn 5 (σ 18) τ 41) (h6 : Cn 6 (σ 19) τ 41) (h7 : Cn 7 (σ 20) τ 41) (h8 : Cn 8 (σ 21) τ 41) (h9 : Cn 9 (fun i => hiL (σ 19) i) τ 41) : wW 1 τ = pwB (drX σ) := by
  funext n
  unfold wW pwB
  by_cases a : n = 105 ∨ n = 106
  · rw [if_pos a, if_pos a]
  · rw [if_neg a, if_neg a]
    by_cases b : 100 ≤ n ∧ n < 109
    · rw [if_pos b, if_pos b]
      unfold drX
      rw [if_neg (by omega), if_neg (by omega), if_pos b]
      exact h2 _ (by omega)
    · rw [if_neg b, if_neg b]
      by_cases c : 300 ≤ n ∧ n < 505
      · rw [if_pos c, if_pos c]
        have e4 : τ (1 + 3) ((n - 300) / 5) = σ 17 ((n - 300) / 5) := h4 _ (by omega)
        have e5 : τ (1 + 4) ((n - 300) / 5) = σ 18 ((n - 300) / 5) := h5 _ (by omega)
        have e6 : τ (1 + 5) ((n - 300) / 5) = σ 19 ((n - 300) / 5) := h6 _ (by omega)
        have e7 : τ (1 + 6) ((n - 300) / 5) = σ 20 ((n - 300) / 5) := h7 _ (by omega)
        have e8 : τ (1 + 7) ((n - 300) / 5) = σ 21 ((n - 300) / 5) := h8 _ (by omega)
        rw [drX_wl c, e4, e5, e6, e7, e8]
      · rw [if_neg c, if_neg c]
        by_cases d : 600 ≤ n ∧ n < 641
        · rw [if_pos d, if_pos d]
          have e := h9 (n - 600) (by omega)
          show τ 9 (n - 600) = _
          rw [e]
          refine (hiL_congr (fun f hf => ?_)).symm
          show drX σ (302 + 5 * f) = σ 19 f
          unfold drX
          rw [if_neg (by omega), if_neg (by omega), if_neg (by omega), if_neg (by omega), if_pos (by omega), if_neg (by omega), if_neg (by omega), if_pos (by omega), show (302 + 5 * f - 300) / 5 = f by omega]
        · rw [if_neg d, if_neg d]
theorem wM_of {σ τ : tw_M} (h1 : Cn 91 (σ 93) τ 9) (h2 : Cn 92 (σ 94) τ 205) : wM τ = pwB (drM σ) := by
  funext n
  unfold wM pwB
  by_cases a : n = 105 ∨ n = 106
  · rw [if_pos a, if_pos a]
  · rw [if_neg a, if_neg a]
    by_cases b : 100 ≤ n ∧ n < 109
    · rw [if_pos b, if_pos b]
      unfold drM
      rw [if_neg (by omega), if_neg (by omega), if_pos b]
      exact h1 _ (by omega)
    · rw [if_neg b, if_neg b]
      by_cases c : 300 ≤ n ∧ n < 505
      · rw [if_pos c, if_pos c]
        unfold drM
        rw [if_neg (by omega), if_neg (by omega), if_neg b, if_neg (by omega), if_pos c]
        exact h2 _ (by omega)
      · rw [if_neg c, if_neg c]
        by_cases d : 600 ≤ n ∧ n < 641
        · rw [if_pos d, if_pos d]
          refine (hiL_congr (fun f hf => ?_)).symm
          show drM σ (302 + 5 * f) = τ 92 (5 * f + 2)
          unfold drM
          rw [if_neg (by omega), if_neg (by omega), if_neg (by omega), if_neg (by omega), if_pos (by omega), h2 _ (by omega), show 302 + 5 * f - 300 = 5 * f + 2 by omega]
        · rw [if_neg d, if_neg d]
theorem ok_high {p s k v : Int} {D : PTS} {n : Nat} (h : 100 ≤ n) : ok p s k v D n = D n := ok_ge (by omega)
theorem pwB_ok {p s k v : Int} {D : PTS} : pwB (ok p s k v D) = pwB D := by
  funext n
  unfold pwB
  by_cases a : n = 105 ∨ n = 106
  · rw [if_pos a, if_pos a]
  · rw [if_neg a, if_neg a]
    by_cases b : 100 ≤ n ∧ n < 109
    · rw [if_pos b, if_pos b, ok_high (by omega)]
    · rw [if_neg b, if_neg b]
      by_cases c : 300 ≤ n ∧ n < 505
      · rw [if_pos c, if_pos c, ok_high (by omega)]
      · rw [if_neg c, if_neg c]
        by_cases d : 600 ≤ n ∧ n < 641
        · rw [if_pos d, if_pos d]
          exact hiL_congr (fun f hf => ok_high (by omega))
        · rw [if_neg d, if_neg d]
theorem pwB_X {σ : tw_M} {n : Int} {y : PTS × Int} (h : (aX σ, n) = y) (h0 : σ 10 11 = 0) : pwB (drX σ) = pwB y.1 ∧ ∀ j : Nat, 100 ≤ j → drX σ j = y.1 j := by
  rw [← h]
  show _ = pwB (aX σ) ∧ ∀ j : Nat, 100 ≤ j → drX σ j = aX σ j
  rw [aX_ok h0]
  exact ⟨pwB_ok.symm, fun j hj => (ok_high hj).symm⟩
theorem pwB_M {σ : tw_M} {n : Int} {y : PTS × Int} (h : (aM σ, n) = y) (h0 : σ 88 17 = 0) : pwB (drM σ) = pwB y.1 ∧ ∀ j : Nat, 100 ≤ j → drM σ j = y.1 j := by
  rw [← h]
  show _ = pwB (aM σ) ∧ ∀ j : Nat, 100 ≤ j → drM σ j = aM σ j
  rw [aM_ok h0]
  exact ⟨pwB_ok.symm, fun j hj => (ok_high hj).symm⟩
theorem drX_r {σ : tw_M} {j : Nat} (h : j < 9) : drX σ (100 + j) = σ 15 j := by
  unfold drX
  rw [if_neg (by omega), if_neg (by omega), if_pos (by omega), show 100 + j - 100 = j by omega]
theorem drX_k {σ : tw_M} {j : Nat} (h : j < 11) : drX σ (200 + j) = σ 16 j := by
  unfold drX
  rw [if_neg (by omega), if_neg (by omega), if_neg (by omega), if_pos (by omega), show 200 + j - 200 = j by omega]
theorem drM_r {σ : tw_M} {j : Nat} (h : j < 9) : drM σ (100 + j) = σ 93 j := by
  unfold drM
  rw [if_neg (by omega), if_neg (by omega), if_pos (by omega), show 100 + j - 100 = j by omega]
theorem drM_k {σ : tw_M} {j : Nat} (h : j < 11) : drM σ (200 + j) = σ 95 j := by
  unfold drM
  rw [if_neg (by omega), if_neg (by omega), if_neg (by omega), if_pos (by omega), show 200 + j - 200 = j by omega]
