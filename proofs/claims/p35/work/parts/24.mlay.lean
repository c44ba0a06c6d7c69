/-! THE REFERENCE'S PLANS: which sets of cracks the rack bears, as its own code counts them. -/
/-- the rack's numbers when all pieces up to a foot are back in it -/
def bR (σ : tw_M) : Nat → Nat → Int
  | 0 => fun x => σ 89 (82 + x)
  | h + 1 => fun x => if 0 < σ 89 (h + 1) ∧ x = (σ 89 (h + 1)).toNat then tw_w32 (bR σ h x + 1) else bR σ h x
def mCr (σ : tw_M) (h : Int) : Int := σ 92 (5 * h + 1).toNat
def mBit (s k : Int) : Int := tw_and (tw_shr s k) 1
def lGo (σ : tw_M) (s : Int) : Nat → Int → Int → Int → (Nat → Int) → Int
  | 0, _, _, i, _ => i
  | n + 1, h, k, i, R => if h ≤ σ 91 0 ∧ k < 10 then
      (if 0 < mCr σ h then
        (if i = 0 then lGo σ s n (h + 1) (k + 1) 0 R
         else if mBit s k = 0 then lGo σ s n (h + 1) (k + 1) 1 R
         else if R (mCr σ h).toNat = 0 then lGo σ s n (h + 1) (k + 1) 0 R
         else lGo σ s n (h + 1) (k + 1) 1 (fun x => if x = (mCr σ h).toNat then tw_w32 (R x - 1) else R x))
       else lGo σ s n (h + 1) k i R) else i
def mMask (f : Nat → Int) : Nat → Int := fun x => if x ≤ 10 then f x else 0
def mLay (σ : tw_M) (s : Int) : Int := lGo σ s 41 1 0 1 (mMask (bR σ (σ 91 0).toNat))
def mPop (s : Int) : Nat → Int
  | 0 => 0
  | k + 1 => mPop s k + mBit s k
def nc (σ : tw_M) : Nat → Int
  | 0 => 0
  | h + 1 => nc σ h + (if 0 < mCr σ ((h + 1 : Nat) : Int) then 1 else 0)
theorem nc_in (σ : tw_M) : ∀ h : Nat, 0 ≤ nc σ h ∧ nc σ h ≤ (h : Int)
  | 0 => by simp [nc]
  | h + 1 => by
    have ih := nc_in σ h
    unfold nc
    split <;> omega
theorem nc_s {σ : tw_M} {f : Int} (h1 : 1 ≤ f) : (0 < mCr σ f ∧ nc σ f.toNat = nc σ (f - 1).toNat + 1) ∨ (mCr σ f ≤ 0 ∧ nc σ f.toNat = nc σ (f - 1).toNat) := by
  obtain ⟨n, rfl⟩ : ∃ n : Nat, f = ((n + 1 : Nat) : Int) := ⟨(f - 1).toNat, by omega⟩
  have e1 : (((n + 1 : Nat) : Int)).toNat = n + 1 := by omega
  have e2 : (((n + 1 : Nat) : Int) - 1).toNat = n := by omega
  rw [e1, e2]
  by_cases h : 0 < mCr σ ((n + 1 : Nat) : Int)
  · exact Or.inl ⟨h, by simp only [nc]; rw [if_pos h]⟩
  · exact Or.inr ⟨by omega, by simp only [nc]; rw [if_neg h]; omega⟩
theorem nc_mono (σ : tw_M) {h k : Nat} (hk : h ≤ k) : nc σ h ≤ nc σ k := by
  induction k with
  | zero => rw [show h = 0 by omega]; exact Int.le_refl _
  | succ k ih =>
    by_cases e : h = k + 1
    · rw [e]; exact Int.le_refl _
    · have := ih (by omega)
      simp only [nc]
      split <;> omega
theorem nc_congr {σ τ : tw_M} (H : ∀ j, τ 92 j = σ 92 j) : ∀ h : Nat, nc τ h = nc σ h
  | 0 => rfl
  | h + 1 => by
    have e : mCr τ ((h + 1 : Nat) : Int) = mCr σ ((h + 1 : Nat) : Int) := H _
    simp only [nc, nc_congr H h, e]
theorem bR_congr {σ τ : tw_M} (H : ∀ j, j < 100 → τ 89 j = σ 89 j) : ∀ (h : Nat), h ≤ 40 → ∀ x, x ≤ 10 → bR τ h x = bR σ h x
  | 0, _, x, hx => H _ (by omega)
  | h + 1, hh, x, hx => by
    simp only [bR]
    rw [H (h + 1) (by omega), bR_congr H h (by omega) x hx]
theorem lGo_congr {σ τ : tw_M} (H : ∀ j, τ 92 j = σ 92 j) (H2 : τ 91 0 = σ 91 0) (s : Int) : ∀ (n : Nat) (h k i : Int) (R : Nat → Int), lGo τ s n h k i R = lGo σ s n h k i R
  | 0, _, _, _, _ => rfl
  | n + 1, h, k, i, R => by
    have e : mCr τ h = mCr σ h := H _
    simp only [lGo, e, H2, lGo_congr H H2 s n]
theorem mLay_congr {σ τ : tw_M} (h1 : ∀ j, j < 100 → τ 89 j = σ 89 j) (H : ∀ j, τ 92 j = σ 92 j) (H2 : τ 91 0 = σ 91 0) (ht : σ 91 0 ≤ 40) (s : Int) : mLay τ s = mLay σ s := by
  unfold mLay
  rw [lGo_congr H H2, H2]
  congr 1
  funext x
  unfold mMask
  split
  · exact bR_congr h1 _ (by omega) x (by assumption)
  · rfl
/-- what holds in the midst of 'bares' -/
def BI (σ τ : tw_M) (h : Int) : Prop := (∀ j, τ 92 j = σ 92 j) ∧ τ 91 0 = σ 91 0 ∧ h ≤ σ 91 0 + 1 ∧
  (∀ x : Nat, x ≤ 10 → τ 89 (382 + x) = bR σ (h - 1).toNat x) ∧ (∀ f : Int, 1 ≤ f → f < h → τ 89 (300 + f).toNat = 0) ∧ (∀ f : Int, h ≤ f → f ≤ 40 → τ 89 (300 + f).toNat = σ 89 f.toNat) ∧ (∀ j : Nat, 93 ≤ j → j < 100 → τ 89 (300 + j) = σ 89 j)
theorem BI_start {σ τ : tw_M} (ht : 1 ≤ σ 91 0) (hc : ∀ j : Nat, (j : Int) < 100 → τ 89 (300 + (j : Int)).toNat = σ 89 (0 + (j : Int)).toNat) (h92 : ∀ j, τ 92 j = σ 92 j) (h91 : τ 91 0 = σ 91 0) : BI σ τ 1 := by
  refine ⟨h92, h91, by omega, fun x hx => ?_, fun f h1 h2 => by omega, fun f h1 h2 => ?_, fun j h1 h2 => ?_⟩
  · have e := hc (82 + x) (by omega)
    rw [show (300 + ((82 + x : Nat) : Int)).toNat = 382 + x by omega, show (0 + ((82 + x : Nat) : Int)).toNat = 82 + x by omega] at e
    exact e
  · have e := hc f.toNat (by omega)
    rw [show (300 + (f.toNat : Int)).toNat = (300 + f).toNat by omega, show (0 + (f.toNat : Int)).toNat = f.toNat by omega] at e
    exact e
  · have e := hc j (by omega)
    rw [show (300 + (j : Int)).toNat = 300 + j by omega, show (0 + (j : Int)).toNat = j by omega] at e
    exact e
theorem bR_s {σ : tw_M} {h : Int} (h1 : 1 ≤ h) (x : Nat) : bR σ h.toNat x = if 0 < σ 89 h.toNat ∧ x = (σ 89 h.toNat).toNat then tw_w32 (bR σ (h - 1).toNat x + 1) else bR σ (h - 1).toNat x := by
  obtain ⟨n, rfl⟩ : ∃ n : Nat, h = ((n + 1 : Nat) : Int) := ⟨(h - 1).toNat, by omega⟩
  rw [show (((n + 1 : Nat) : Int)).toNat = n + 1 by omega, show (((n + 1 : Nat) : Int) - 1).toNat = n by omega]
  rfl
theorem BI_none {σ τ τ1 : tw_M} {h : Int} (h1 : 1 ≤ h) (hh : h ≤ σ 91 0) (ht : σ 91 0 ≤ 40) (H : BI σ τ h) (hp : τ 89 (300 + h).toNat ≤ 0) (h0 : 0 ≤ τ 89 (300 + h).toNat)
    (e1 : τ1 = tw_up τ 89 (341 + h).toNat 0) : BI σ τ1 (h + 1) := by
  obtain ⟨a, b, c, d, e, f, g⟩ := H
  have hs := f h (Int.le_refl _) (by omega)
  refine ⟨fun j => by rw [tw_ne1 e1 (by omega)]; exact a j, by rw [tw_ne1 e1 (by omega)]; exact b, by omega, fun x hx => ?_, fun q q1 q2 => ?_, fun q q1 q2 => ?_, fun j q1 q2 => by rw [tw_ne1 e1 (by omega)]; exact g j q1 q2⟩
  · rw [tw_ne1 e1 (by omega), d x hx, show (h + 1 - 1).toNat = h.toNat by omega, bR_s h1, if_neg (by omega)]
  · rw [tw_ne1 e1 (by omega)]
    by_cases k : q = h
    · subst k; omega
    · exact e q q1 (by omega)
  · rw [tw_ne1 e1 (by omega)]; exact f q (by omega) q2
theorem BI_some {σ τ τ1 τ2 τ3 : tw_M} {h : Int} (h1 : 1 ≤ h) (hh : h ≤ σ 91 0) (ht : σ 91 0 ≤ 40) (H : BI σ τ h) (hp : 0 < τ 89 (300 + h).toNat) (h10 : τ 89 (300 + h).toNat ≤ 10)
    (e1 : τ1 = tw_up τ 89 (382 + τ 89 (300 + h).toNat).toNat (tw_w32 (τ 89 (382 + τ 89 (300 + h).toNat).toNat + 1))) (e2 : τ2 = tw_up τ1 89 (300 + h).toNat 0) (e3 : τ3 = tw_up τ2 89 (341 + h).toNat 0) : BI σ τ3 (h + 1) := by
  obtain ⟨a, b, c, d, e, f, g⟩ := H
  have hs := f h (Int.le_refl _) (by omega)
  refine ⟨fun j => by rw [tw_ne1 e3 (by omega), tw_ne1 e2 (by omega), tw_ne1 e1 (by omega)]; exact a j, by rw [tw_ne1 e3 (by omega), tw_ne1 e2 (by omega), tw_ne1 e1 (by omega)]; exact b, by omega, fun x hx => ?_, fun q q1 q2 => ?_, fun q q1 q2 => ?_, fun j q1 q2 => by rw [tw_ne1 e3 (by omega), tw_ne1 e2 (by omega), tw_ne1 e1 (by omega)]; exact g j q1 q2⟩
  · rw [tw_ne1 e3 (by omega), tw_ne1 e2 (by omega), show (h + 1 - 1).toNat = h.toNat by omega, bR_s h1]
    by_cases k : x = (σ 89 h.toNat).toNat
    · rw [if_pos ⟨by omega, k⟩, tw_eq2 e1 (by omega), show (382 + τ 89 (300 + h).toNat).toNat = 382 + x by omega, d x hx]
    · rw [if_neg (fun q => k q.2), tw_ne1 e1 (by omega)]
      exact d x hx
  · rw [tw_ne1 e3 (by omega)]
    by_cases k : q = h
    · subst k; exact tw_eq1 e2
    · rw [tw_ne1 e2 (by omega), tw_ne1 e1 (by omega)]; exact e q q1 (by omega)
  · rw [tw_ne1 e3 (by omega), tw_ne1 e2 (by omega), tw_ne1 e1 (by omega)]; exact f q (by omega) q2
/-- all pieces are back: what 'bares' leaves -/
def BZ (σ τ : tw_M) : Prop := (∀ j, τ 92 j = σ 92 j) ∧ τ 91 0 = σ 91 0 ∧ (∀ x : Nat, x ≤ 10 → τ 89 (382 + x) = bR σ (σ 91 0).toNat x) ∧ (∀ f : Int, 1 ≤ f → f ≤ σ 91 0 → τ 89 (300 + f).toNat = 0) ∧ (∀ j : Nat, 93 ≤ j → j < 100 → τ 89 (300 + j) = σ 89 j)
theorem BI_end {σ τ : tw_M} {h : Int} (H : BI σ τ h) (hh : σ 91 0 < h) : BZ σ τ := by
  obtain ⟨a, b, c, d, e, f, g⟩ := H
  have eh : h - 1 = σ 91 0 := by omega
  rw [eh] at d
  exact ⟨a, b, d, fun q q1 q2 => e q q1 (by omega), g⟩
/-- what holds in the midst of 'lays' -/
def LI (σ τ : tw_M) (s h k i : Int) : Prop := (∀ j, τ 92 j = σ 92 j) ∧ τ 91 0 = σ 91 0 ∧ h ≤ σ 91 0 + 1 ∧ k = nc σ (h - 1).toNat ∧
  lGo σ s (42 - h).toNat h k i (mMask (fun x => τ 89 (382 + x))) = mLay σ s ∧ (∀ f : Int, h ≤ f → f ≤ σ 91 0 → τ 89 (300 + f).toNat = 0) ∧
  mc τ 300 (h - 1).toNat ≤ k ∧ (i = 0 ∨ mc τ 300 (h - 1).toNat = mPop s k.toNat) ∧ (∀ j : Nat, 93 ≤ j → j < 100 → τ 89 (300 + j) = σ 89 j)
theorem LI_start {σ τ : tw_M} {s : Int} (ht : 1 ≤ σ 91 0 ∧ σ 91 0 ≤ 40) (H : BZ σ τ) : LI σ τ s 1 0 1 := by
  obtain ⟨a, b, c, d, e⟩ := H
  refine ⟨a, b, by omega, rfl, ?_, fun f h1 h2 => d f h1 h2, Int.le_refl _, Or.inr rfl, e⟩
  show lGo σ s 41 1 0 1 _ = _
  unfold mLay
  congr 1
  funext x
  unfold mMask
  split
  · exact c x (by assumption)
  · rfl
theorem mPop_s {s k : Int} (hk : 0 ≤ k) : mPop s (k + 1).toNat = mPop s k.toNat + mBit s k := by
  rw [show (k + 1).toNat = k.toNat + 1 by omega]
  show mPop s k.toNat + mBit s (k.toNat : Int) = _
  rw [Int.toNat_of_nonneg hk]
theorem lGo_s {σ : tw_M} {s h k i : Int} {R : Nat → Int} (hh : h ≤ 41) : lGo σ s (42 - h).toNat h k i R = if h ≤ σ 91 0 ∧ k < 10 then
      (if 0 < mCr σ h then
        (if i = 0 then lGo σ s (42 - (h + 1)).toNat (h + 1) (k + 1) 0 R
         else if mBit s k = 0 then lGo σ s (42 - (h + 1)).toNat (h + 1) (k + 1) 1 R
         else if R (mCr σ h).toNat = 0 then lGo σ s (42 - (h + 1)).toNat (h + 1) (k + 1) 0 R
         else lGo σ s (42 - (h + 1)).toNat (h + 1) (k + 1) 1 (fun x => if x = (mCr σ h).toNat then tw_w32 (R x - 1) else R x))
       else lGo σ s (42 - (h + 1)).toNat (h + 1) k i R) else i := by
  rw [show (42 - h).toNat = (42 - (h + 1)).toNat + 1 by omega]
  rfl
section LIS
variable {σ τ : tw_M} {s h k i : Int}
theorem LI_none (h1 : 1 ≤ h) (hh : h ≤ σ 91 0) (ht : σ 91 0 ≤ 40) (hk : k < 10) (H : LI σ τ s h k i) (hc : mCr σ h ≤ 0) : LI σ τ s (h + 1) k i := by
  obtain ⟨a, b, c, d, e, f, g, j, l⟩ := H
  have n1 := nc_s (σ := σ) h1
  have m1 := mc_s (σ := τ) (b := 300) h1
  have z := f h (Int.le_refl _) hh
  rw [lGo_s (by omega), if_pos ⟨hh, hk⟩, if_neg (by omega)] at e
  refine ⟨a, b, by omega, ?_, e, fun q q1 q2 => f q (by omega) q2, ?_, ?_, l⟩
  · rw [show h + 1 - 1 = h by omega]; omega
  · rw [show h + 1 - 1 = h by omega]; omega
  · rw [show h + 1 - 1 = h by omega]; omega
theorem LI_no (h1 : 1 ≤ h) (hh : h ≤ σ 91 0) (ht : σ 91 0 ≤ 40) (hk : 0 ≤ k ∧ k < 10) (H : LI σ τ s h k 0) (hc : 0 < mCr σ h) : LI σ τ s (h + 1) (k + 1) 0 := by
  obtain ⟨a, b, c, d, e, f, g, j, l⟩ := H
  have n1 := nc_s (σ := σ) h1
  have m1 := mc_s (σ := τ) (b := 300) h1
  have z := f h (Int.le_refl _) hh
  rw [lGo_s (by omega), if_pos ⟨hh, hk.2⟩, if_pos hc, if_pos rfl] at e
  refine ⟨a, b, by omega, ?_, e, fun q q1 q2 => f q (by omega) q2, ?_, Or.inl rfl, l⟩
  · rw [show h + 1 - 1 = h by omega]; omega
  · rw [show h + 1 - 1 = h by omega]; omega
theorem LI_skip (h1 : 1 ≤ h) (hh : h ≤ σ 91 0) (ht : σ 91 0 ≤ 40) (hk : 0 ≤ k ∧ k < 10) (hi : i = 1) (H : LI σ τ s h k i) (hc : 0 < mCr σ h) (hb : mBit s k = 0) : LI σ τ s (h + 1) (k + 1) 1 := by
  subst hi
  obtain ⟨a, b, c, d, e, f, g, j, l⟩ := H
  have n1 := nc_s (σ := σ) h1
  have m1 := mc_s (σ := τ) (b := 300) h1
  have z := f h (Int.le_refl _) hh
  have p1 := mPop_s (s := s) hk.1
  rw [lGo_s (by omega), if_pos ⟨hh, hk.2⟩, if_pos hc, if_neg (by decide), if_pos hb] at e
  refine ⟨a, b, by omega, ?_, e, fun q q1 q2 => f q (by omega) q2, ?_, ?_, l⟩
  · rw [show h + 1 - 1 = h by omega]; omega
  · rw [show h + 1 - 1 = h by omega]; omega
  · rw [show h + 1 - 1 = h by omega]; omega
theorem LI_fail (h1 : 1 ≤ h) (hh : h ≤ σ 91 0) (ht : σ 91 0 ≤ 40) (hk : 0 ≤ k ∧ k < 10) (hi : i = 1) (H : LI σ τ s h k i) (hc : 0 < mCr σ h ∧ mCr σ h ≤ 10) (hb : ¬ mBit s k = 0) (hr : τ 89 (382 + mCr σ h).toNat = 0) : LI σ τ s (h + 1) (k + 1) 0 := by
  subst hi
  obtain ⟨a, b, c, d, e, f, g, j, l⟩ := H
  have n1 := nc_s (σ := σ) h1
  have m1 := mc_s (σ := τ) (b := 300) h1
  have z := f h (Int.le_refl _) hh
  have hr2 : mMask (fun x => τ 89 (382 + x)) (mCr σ h).toNat = 0 := by
    unfold mMask
    rw [if_pos (by omega)]
    show τ 89 (382 + (mCr σ h).toNat) = 0
    rw [← hr, show (382 + mCr σ h).toNat = 382 + (mCr σ h).toNat by omega]
  rw [lGo_s (by omega), if_pos ⟨hh, hk.2⟩, if_pos hc.1, if_neg (by decide), if_neg hb, if_pos hr2] at e
  refine ⟨a, b, by omega, ?_, e, fun q q1 q2 => f q (by omega) q2, ?_, Or.inl rfl, l⟩
  · rw [show h + 1 - 1 = h by omega]; omega
  · rw [show h + 1 - 1 = h by omega]; omega
theorem LI_put {τ1 τ2 : tw_M} (h1 : 1 ≤ h) (hh : h ≤ σ 91 0) (ht : σ 91 0 ≤ 40) (hk : 0 ≤ k ∧ k < 10) (hi : i = 1) (H : LI σ τ s h k i) (hc : 0 < mCr σ h ∧ mCr σ h ≤ 10) (hb : mBit s k = 1) (hr : ¬ τ 89 (382 + mCr σ h).toNat = 0)
    (e1 : τ1 = tw_up τ 89 (382 + mCr σ h).toNat (tw_w32 (τ 89 (382 + mCr σ h).toNat - 1))) (e2 : τ2 = tw_up τ1 89 (300 + h).toNat (mCr σ h)) : LI σ τ2 s (h + 1) (k + 1) 1 := by
  subst hi
  obtain ⟨a, b, c, d, e, f, g, j, l⟩ := H
  have n1 := nc_s (σ := σ) h1
  have z := f h (Int.le_refl _) hh
  have p1 := mPop_s (s := s) hk.1
  have hr2 : ¬ mMask (fun x => τ 89 (382 + x)) (mCr σ h).toNat = 0 := by
    unfold mMask
    rw [if_pos (by omega)]
    show ¬ τ 89 (382 + (mCr σ h).toNat) = 0
    rw [show (382 + (mCr σ h).toNat) = (382 + mCr σ h).toNat by omega]
    exact hr
  have m1 : mc τ2 300 h.toNat = mc τ 300 (h - 1).toNat + 1 := by
    have q1 := mc_s (σ := τ2) (b := 300) h1
    have q2 : mc τ2 300 (h - 1).toNat = mc τ 300 (h - 1).toNat := mc_congr (fun q g1 g2 => by rw [tw_ne1 e2 (by omega), tw_ne1 e1 (by omega)])
    have q3 : τ2 89 (300 + h).toNat = mCr σ h := tw_eq1 e2
    omega
  rw [lGo_s (by omega), if_pos ⟨hh, hk.2⟩, if_pos hc.1, if_neg (by decide), if_neg (by omega), if_neg hr2] at e
  refine ⟨fun j => by rw [tw_ne1 e2 (by omega), tw_ne1 e1 (by omega)]; exact a j, by rw [tw_ne1 e2 (by omega), tw_ne1 e1 (by omega)]; exact b, by omega, ?_, ?_, fun q q1 q2 => ?_, ?_, Or.inr ?_, fun j q1 q2 => by rw [tw_ne1 e2 (by omega), tw_ne1 e1 (by omega)]; exact l j q1 q2⟩
  · rw [show h + 1 - 1 = h by omega]; omega
  · rw [← e]
    congr 1
    funext x
    show (if x ≤ 10 then τ2 89 (382 + x) else 0) = (if x = (mCr σ h).toNat then tw_w32 ((if x ≤ 10 then τ 89 (382 + x) else 0) - 1) else (if x ≤ 10 then τ 89 (382 + x) else 0))
    by_cases q : x ≤ 10
    · have e3 : τ2 89 (382 + x) = τ1 89 (382 + x) := tw_ne1 e2 (by omega)
      rw [if_pos q, if_pos q, e3]
      by_cases q2 : x = (mCr σ h).toNat
      · have e4 : (382 + mCr σ h).toNat = 382 + x := by omega
        rw [e4] at e1
        rw [if_pos q2, tw_eq1 e1]
      · rw [if_neg q2]
        exact tw_ne1 e1 (by omega)
    · rw [if_neg q, if_neg q, if_neg (by omega)]
  · rw [tw_ne1 e2 (by omega), tw_ne1 e1 (by omega)]; exact f q (by omega) q2
  · rw [show h + 1 - 1 = h by omega]; omega
  · rw [show h + 1 - 1 = h by omega]; omega
theorem mc_zero {τ : tw_M} {b : Int} : ∀ {n m : Nat}, m ≤ n → (∀ f : Int, (m : Int) < f → f ≤ (n : Int) → τ 89 (b + f).toNat ≤ 0) → mc τ b n = mc τ b m
  | 0, m, h, _ => by rw [show m = 0 by omega]
  | n + 1, m, h, H => by
    by_cases e : m = n + 1
    · rw [e]
    · rw [← mc_zero (n := n) (m := m) (by omega) (fun f g1 g2 => H f g1 (by omega))]
      have q := H ((n + 1 : Nat) : Int) (by omega) (by omega)
      simp only [mc]
      rw [if_neg (by omega)]
      omega
def mK (σ : tw_M) : Int := if nc σ (σ 91 0).toNat ≤ 10 then nc σ (σ 91 0).toNat else 10
/-- what 'lays' leaves -/
def LZ (σ τ : tw_M) (s i : Int) : Prop := (∀ j, τ 92 j = σ 92 j) ∧ τ 91 0 = σ 91 0 ∧ i = mLay σ s ∧ mc τ 300 (σ 91 0).toNat ≤ 10 ∧ (i = 0 ∨ mc τ 300 (σ 91 0).toNat = mPop s (mK σ).toNat) ∧ (∀ j : Nat, 93 ≤ j → j < 100 → τ 89 (300 + j) = σ 89 j)
theorem LI_end (h1 : 1 ≤ h) (ht : 1 ≤ σ 91 0 ∧ σ 91 0 ≤ 40) (hk : 0 ≤ k ∧ k ≤ 10) (H : LI σ τ s h k i) (hx : σ 91 0 < h ∨ 10 ≤ k) : LZ σ τ s i := by
  obtain ⟨a, b, c, d, e, f, g, j, l⟩ := H
  rw [lGo_s (by omega), if_neg (by omega)] at e
  have hz : mc τ 300 (σ 91 0).toNat = mc τ 300 (h - 1).toNat := by
    by_cases q : h = σ 91 0 + 1
    · rw [show h - 1 = σ 91 0 by omega]
    · exact mc_zero (by omega) (fun x g1 g2 => by rw [f x (by omega) (by omega)]; exact Int.le_refl _)
  have hK : mK σ = k := by
    unfold mK
    by_cases q : h = σ 91 0 + 1
    · rw [show h - 1 = σ 91 0 by omega] at d
      rw [← d, if_pos hk.2]
    · have hm := nc_mono σ (show (h - 1).toNat ≤ (σ 91 0).toNat by omega)
      split <;> omega
  exact ⟨a, b, e, by omega, by rw [hz, hK]; exact j, l⟩
end LIS
