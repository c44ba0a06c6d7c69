/-! THE REFERENCE'S FALLS, in the words of both. -/
theorem mc_gM {σ : tw_M} {b : Int} : ∀ {n : Nat}, n ≤ 40 → mc σ b n = cnt (gM b σ) n
  | 0, _ => rfl
  | n + 1, h => by
    have e : gM b σ (n + 1) = σ 89 (b + ((n + 1 : Nat) : Int)).toNat := if_pos ⟨by omega, h⟩
    simp only [mc, cnt]
    rw [mc_gM (n := n) (by omega), e]
theorem mD_S {σ : tw_M} {h f : Int} : mD σ h f = dropS (wM σ) h f := by
  have e : wM σ 104 = σ 91 4 := wM_r (j := 4) (by decide)
  unfold mD dropS
  rw [e]
def mLg (σ : tw_M) : Nat → Int := fun f => σ 92 (5 * f + 2)
theorem mL_at {σ : tw_M} {f : Int} (h : 0 ≤ f) : mLg σ f.toNat = σ 92 (5 * f + 2).toNat := by
  unfold mLg
  rw [show 5 * f.toNat + 2 = (5 * f + 2).toNat by omega]
theorem mw_01 {σ : tw_M} (h : tw_I σ) {j : Nat} (hj : j % 5 = 2 ∨ j % 5 = 3) : 0 ≤ σ 92 j ∧ σ 92 j ≤ 1 := by
  have h1 : (bMW j).1 ≤ σ 92 j ∧ σ 92 j ≤ (bMW j).2 := h 92 j
  have e : bMW j = (0, 1) := by unfold bMW; rw [if_neg (by omega), if_neg (by omega), if_neg (by omega)]
  rw [e] at h1
  exact h1
theorem ST_0 {L : Nat → Int} {s x : Int} (h : (s ≤ 0 ∧ x = 0) ∨ (0 < s ∧ x = -4)) : x = if s ≤ hiL L (1 : Int).toNat then hiL L (1 : Int).toNat else -4 := by
  have e : hiL L (1 : Int).toNat = 0 := by
    show hiL L 1 = 0
    simp only [hiL]
    split <;> rfl
  rw [e]
  split <;> omega
theorem ST_s {L : Nat → Int} {s x x' f : Int} (H : x = if s ≤ hiL L f.toNat then hiL L f.toNat else -4) (h1 : 1 ≤ f) (hb : 0 ≤ L f.toNat ∧ L f.toNat ≤ 1) (hx : (s ≤ f ∧ L f.toNat = 1 ∧ x' = f) ∨ (¬ (s ≤ f ∧ L f.toNat = 1) ∧ x' = x)) : x' = if s ≤ hiL L (f + 1).toNat then hiL L (f + 1).toNat else -4 := by
  have a := hiL_in L f.toNat
  rcases hiL_s (L := L) (h := f) (by omega) with ⟨b1, b2⟩ | ⟨b1, b2⟩
  · rw [b2]
    rcases hx with hx | hx
    · omega
    · rw [hx.2, H]
  · rw [b2]
    by_cases q : s ≤ hiL L f.toNat
    · rw [if_pos q] at H
      split <;> omega
    · rw [if_neg q] at H
      split <;> omega
theorem wM_bd {σ : tw_M} {h : Int} (hh : 1 ≤ h ∧ h ≤ 40) : 0 ≤ wB (wM σ) h ∧ wB (wM σ) h < h := by
  rw [wM_b ⟨by omega, hh.2⟩]
  have a := hiL_in (fun f => σ 92 (5 * f + 2)) h.toNat
  omega
theorem har_bd {W : PTG} {h s : Int} (h0 : 0 ≤ wB W h ∧ wB W h ≤ 40) (hh : 0 ≤ h ∧ h ≤ 40) : -40 ≤ harS W h s ∧ harS W h s ≤ 40 := by
  unfold harS
  split <;> omega
theorem rsk_u0 {W g : PTG} {good h s z p : Int} (h1 : 1 ≤ h) (hl : W 108 < h) (H : s = rsk W g good (h - 1).toNat) (hp : p = wH W h * harF W g h good) (hz : z = s + p) : z = rsk W g good (h + 1 - 1).toNat := by
  have e := rsk_s (W := W) (g := g) (good := good) h1
  rw [if_pos hl] at e
  rw [show h + 1 - 1 = h by omega, e]
  omega
