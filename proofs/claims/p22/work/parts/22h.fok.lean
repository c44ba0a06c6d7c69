/-! THE FOOT OF A PIECE, by the reference. -/
theorem FOK_M {σ : tw_M} {k r : Int} (h1 : 1 ≤ r ∧ r ≤ 40) (hg : 0 < σ 89 (0 + r).toNat) (hc : mc σ 0 r.toNat = k + 1) : r = fok (gM 0 σ) k 40 := by
  rw [mc_gM (by omega)] at hc
  have g := gM_at (b := 0) (f := r) (σ := σ) h1
  have e := fok_at (g := gM 0 σ) (k := k) (f := r.toNat) (by rw [g]; exact hg) hc (by omega) 40 (by omega)
  rw [e]
  omega
theorem GM_but {σ τ τ1 : tw_M} {h : Int} (hh : 1 ≤ h ∧ h ≤ 40) (hc : ∀ j : Nat, (j : Int) < 100 → τ 89 (300 + (j : Int)).toNat = σ 89 (0 + (j : Int)).toNat) (e : τ1 = tw_up τ 89 (300 + h).toNat 0) : gM 300 τ1 = pg (gM 0 σ) h.toNat 0 := by
  funext f
  unfold gM
  by_cases z : 1 ≤ f ∧ f ≤ 40
  · rw [if_pos z]
    by_cases q : f = h.toNat
    · rw [q, pg_eq]
      exact tw_eq2 e (by omega)
    · rw [pg_ne q]
      show _ = (if 1 ≤ f ∧ f ≤ 40 then σ 89 (0 + (f : Int)).toNat else 0)
      rw [if_pos z, tw_ne1 e (by omega)]
      exact hc f (by omega)
  · rw [if_neg z]
    by_cases q : f = h.toNat
    · omega
    · rw [pg_ne q]
      show _ = (if 1 ≤ f ∧ f ≤ 40 then σ 89 (0 + (f : Int)).toNat else 0)
      rw [if_neg z]
