/-! THE REFERENCE'S PLANS: which sets of cracks the rack bears, as its own code counts them. -/
/-- the rack's numbers when all pieces up to a foot are back in it -/
def bR (σ : tw_M) : Nat → Nat → Int
  | 0 => fun x => σ 89 (82 + x)
  | h + 1 => fun x => if 0 < σ 89 (h + 1) ∧ x = (σ 89 (h + 1)).toNat then tw_w32 (bR σ h x + 1) else bR σ h x
def mCr (σ : tw_M) (h : Int) : Int := σ 92 (5 * h + 1).toNat
def lGo (σ : tw_M) (s : Int) : Nat → Int → Int → Int → (Nat → Int) → Int
  | 0, _, _, i, _ => i
  | n + 1, h, k, i, R => if h ≤ σ 91 0 ∧ k < 10 then
      (if 0 < mCr σ h then
        (if i = 0 then lGo σ s n (h + 1) (k + 1) 0 R
         else if mBit s k = 0 then lGo σ s n (h + 1) (k + 1) 1 R
         else if R (mCr σ h).toNat = 0 then lGo σ s n (h + 1) (k + 1) 0 R
         else lGo σ s n (h + 1) (k + 1) 1 (fun x => if x = (mCr σ h).toNat then tw_w32 (R x - 1) else R x))
       else lGo σ s n (h + 1) k i R) else i
def mMask (f : Nat → Int) : Nat → Int := fun x => if x ≤ 10 then f x else 0
def mLay (σ : tw_M) (s : Int) : Int := lGo σ s 41 1 0 1 (mMask (bR σ (σ 91 0).toNat))
def nc (σ : tw_M) : Nat → Int
  | 0 => 0
  | h + 1 => nc σ h + (if 0 < mCr σ ((h + 1 : Nat) : Int) then 1 else 0)
theorem nc_in (σ : tw_M) : ∀ h : Nat, 0 ≤ nc σ h ∧ nc σ h ≤ (h : Int)
  | 0 => by simp [nc]
  | h + 1 => by
    have ih := nc_in σ h
    unfold nc
    split <;> omega
theorem nc_s {σ : tw_M} {f : Int} (h1 : 1 ≤ f) : (0 < mCr σ f ∧ nc σ f.toNat = nc σ (f - 1).toNat + 1) ∨ (mCr σ f ≤ 0 ∧ nc σ f.toNat = nc σ (f - 1).toNat) := by
  obtain ⟨n, rfl⟩ : ∃ n : Nat, f = ((n + 1 : Nat) : Int) := ⟨(f - 1).toNat, by omega⟩
  have e1 : (((n + 1 : Nat) : Int)).toNat = n + 1 := by omega
  have e2 : (((n + 1 : Nat) : Int) - 1).toNat = n := by omega
  rw [e1, e2]
  by_cases h : 0 < mCr σ ((n + 1 : Nat) : Int)
  · exact Or.inl ⟨h, by simp only [nc]; rw [if_pos h]⟩
  · exact Or.inr ⟨by omega, by simp only [nc]; rw [if_neg h]; omega⟩
theorem nc_mono (σ : tw_M) {h k : Nat} (hk : h ≤ k) : nc σ h ≤ nc σ k := by
  induction k with
  | zero => rw [show h = 0 by omega]; exact Int.le_refl _
  | succ k ih =>
    by_cases e : h = k + 1
    · rw [e]; exact Int.le_refl _
    · have := ih (by omega)
      simp only [nc]
      split <;> omega
theorem nc_congr {σ τ : tw_M} (H : ∀ j, τ 92 j = σ 92 j) : ∀ h : Nat, nc τ h = nc σ h
  | 0 => rfl
  | h + 1 => by
    have e : mCr τ ((h + 1 : Nat) : Int) = mCr σ ((h + 1 : Nat) : Int) := H _
    simp only [nc, nc_congr H h, e]
theorem bR_congr {σ τ : tw_M} (H : ∀ j, j < 100 → τ 89 j = σ 89 j) : ∀ (h : Nat), h ≤ 40 → ∀ x, x ≤ 10 → bR τ h x = bR σ h x
  | 0, _, x, hx => H _ (by omega)
  | h + 1, hh, x, hx => by
    simp only [bR]
    rw [H (h + 1) (by omega), bR_congr H h (by omega) x hx]
theorem lGo_congr {σ τ : tw_M} (H : ∀ j, τ 92 j = σ 92 j) (H2 : τ 91 0 = σ 91 0) (s : Int) : ∀ (n : Nat) (h k i : Int) (R : Nat → Int), lGo τ s n h k i R = lGo σ s n h k i R
  | 0, _, _, _, _ => rfl
  | n + 1, h, k, i, R => by
    have e : mCr τ h = mCr σ h := H _
    simp only [lGo, e, H2, lGo_congr H H2 s n]
theorem mLay_congr {σ τ : tw_M} (h1 : ∀ j, j < 100 → τ 89 j = σ 89 j) (H : ∀ j, τ 92 j = σ 92 j) (H2 : τ 91 0 = σ 91 0) (ht : σ 91 0 ≤ 40) (s : Int) : mLay τ s = mLay σ s := by
  unfold mLay
  rw [lGo_congr H H2, H2]
  congr 1
  funext x
  unfold mMask
  split
  · exact bR_congr h1 _ (by omega) x (by assumption)
  · rfl
/-- what holds in the midst of 'bares' -/
def BI (σ τ : tw_M) (h : Int) : Prop := (∀ j, τ 92 j = σ 92 j) ∧ τ 91 0 = σ 91 0 ∧ h ≤ σ 91 0 + 1 ∧
  (∀ x : Nat, x ≤ 10 → τ 89 (382 + x) = bR σ (h - 1).toNat x) ∧ (∀ f : Int, 1 ≤ f → f < h → τ 89 (300 + f).toNat = 0) ∧ (∀ f : Int, h ≤ f → f ≤ 40 → τ 89 (300 + f).toNat = σ 89 f.toNat) ∧ (∀ j : Nat, 93 ≤ j → j < 100 → τ 89 (300 + j) = σ 89 j)
theorem BI_start {σ τ : tw_M} (ht : 1 ≤ σ 91 0) (hc : ∀ j : Nat, (j : Int) < 100 → τ 89 (300 + (j : Int)).toNat = σ 89 (0 + (j : Int)).toNat) (h92 : ∀ j, τ 92 j = σ 92 j) (h91 : τ 91 0 = σ 91 0) : BI σ τ 1 := by
  refine ⟨h92, h91, by omega, fun x hx => ?_, fun f h1 h2 => by omega, fun f h1 h2 => ?_, fun j h1 h2 => ?_⟩
  · have e := hc (82 + x) (by omega)
    rw [show (300 + ((82 + x : Nat) : Int)).toNat = 382 + x by omega, show (0 + ((82 + x : Nat) : Int)).toNat = 82 + x by omega] at e
    exact e
  · have e := hc f.toNat (by omega)
    rw [show (300 + (f.toNat : Int)).toNat = (300 + f).toNat by omega, show (0 + (f.toNat : Int)).toNat = f.toNat by omega] at e
    exact e
  · have e := hc j (by omega)
    rw [show (300 + (j : Int)).toNat = 300 + j by omega, show (0 + (j : Int)).toNat = j by omega] at e
    exact e
theorem bR_s {σ : tw_M} {h : Int} (h1 : 1 ≤ h) (x : Nat) : bR σ h.toNat x = if 0 < σ 89 h.toNat ∧ x = (σ 89 h.toNat).toNat then tw_w32 (bR σ (h - 1).toNat x + 1) else bR σ (h - 1).toNat x := by
  obtain ⟨n, rfl⟩ : ∃ n : Nat, h = ((n + 1 : Nat) : Int) := ⟨(h - 1).toNat, by omega⟩
  rw [show (((n + 1 : Nat) : Int)).toNat = n + 1 by omega, show (((n + 1 : Nat) : Int) - 1).toNat = n by omega]
  rfl
theorem BI_none {σ τ : tw_M} {h : Int} (h1 : 1 ≤ h) (hh : h ≤ σ 91 0) (ht : σ 91 0 ≤ 40) (H : BI σ τ h) (hp : τ 89 (300 + h).toNat ≤ 0) (h0 : 0 ≤ τ 89 (300 + h).toNat) : BI σ τ (h + 1) := by
  obtain ⟨a, b, c, d, e, f, g⟩ := H
  have hs := f h (Int.le_refl _) (by omega)
  refine ⟨a, b, by omega, fun x hx => ?_, fun q q1 q2 => ?_, fun q q1 q2 => f q (by omega) q2, g⟩
  · rw [d x hx, show (h + 1 - 1).toNat = h.toNat by omega, bR_s h1, if_neg (by omega)]
  · by_cases k : q = h
    · subst k; omega
    · exact e q q1 (by omega)
theorem BI_some {σ τ τ1 τ2 τ3 : tw_M} {h z : Int} (ez : z = tw_w32 (τ 89 (382 + τ 89 (300 + h).toNat).toNat + 1)) (h1 : 1 ≤ h) (hh : h ≤ σ 91 0) (ht : σ 91 0 ≤ 40) (H : BI σ τ h) (hp : 0 < τ 89 (300 + h).toNat) (h10 : τ 89 (300 + h).toNat ≤ 10)
    (e1 : τ1 = tw_up τ 89 (382 + τ 89 (300 + h).toNat).toNat z) (e2 : τ2 = tw_up τ1 89 (300 + h).toNat 0) (e3 : τ3 = tw_up τ2 89 (341 + h).toNat 0) : BI σ τ3 (h + 1) := by
  subst ez
  obtain ⟨a, b, c, d, e, f, g⟩ := H
  have hs := f h (Int.le_refl _) (by omega)
  refine ⟨fun j => by rw [tw_ne1 e3 (by omega), tw_ne1 e2 (by omega), tw_ne1 e1 (by omega)]; exact a j, by rw [tw_ne1 e3 (by omega), tw_ne1 e2 (by omega), tw_ne1 e1 (by omega)]; exact b, by omega, fun x hx => ?_, fun q q1 q2 => ?_, fun q q1 q2 => ?_, fun j q1 q2 => by rw [tw_ne1 e3 (by omega), tw_ne1 e2 (by omega), tw_ne1 e1 (by omega)]; exact g j q1 q2⟩
  · rw [tw_ne1 e3 (by omega), tw_ne1 e2 (by omega), show (h + 1 - 1).toNat = h.toNat by omega, bR_s h1]
    by_cases k : x = (σ 89 h.toNat).toNat
    · rw [if_pos ⟨by omega, k⟩, tw_eq2 e1 (by omega), show (382 + τ 89 (300 + h).toNat).toNat = 382 + x by omega, d x hx]
    · rw [if_neg (fun q => k q.2), tw_ne1 e1 (by omega)]
      exact d x hx
  · rw [tw_ne1 e3 (by omega)]
    by_cases k : q = h
    · subst k; exact tw_eq1 e2
    · rw [tw_ne1 e2 (by omega), tw_ne1 e1 (by omega)]; exact e q q1 (by omega)
  · rw [tw_ne1 e3 (by omega), tw_ne1 e2 (by omega), tw_ne1 e1 (by omega)]; exact f q (by omega) q2
/-- all pieces are back: what 'bares' leaves -/
def BZ (σ τ : tw_M) : Prop := (∀ j, τ 92 j = σ 92 j) ∧ τ 91 0 = σ 91 0 ∧ (∀ x : Nat, x ≤ 10 → τ 89 (382 + x) = bR σ (σ 91 0).toNat x) ∧ (∀ f : Int, 1 ≤ f → f ≤ σ 91 0 → τ 89 (300 + f).toNat = 0) ∧ (∀ j : Nat, 93 ≤ j → j < 100 → τ 89 (300 + j) = σ 89 j)
theorem BI_end {σ τ : tw_M} {h : Int} (H : BI σ τ h) (hh : σ 91 0 < h) : BZ σ τ := by
  obtain ⟨a, b, c, d, e, f, g⟩ := H
  have eh : h - 1 = σ 91 0 := by omega
  rw [eh] at d
  exact ⟨a, b, d, fun q q1 q2 => e q q1 (by omega), g⟩
/-- what holds in the midst of 'lays' -/
def LI (σ τ : tw_M) (s h k i : Int) : Prop := (∀ j, τ 92 j = σ 92 j) ∧ τ 91 0 = σ 91 0 ∧ h ≤ σ 91 0 + 1 ∧ k = nc σ (h - 1).toNat ∧
  lGo σ s (42 - h).toNat h k i (mMask (fun x => τ 89 (382 + x))) = mLay σ s ∧ (∀ f : Int, h ≤ f → f ≤ σ 91 0 → τ 89 (300 + f).toNat = 0) ∧
  mc τ 300 (h - 1).toNat ≤ k ∧ (i = 0 ∨ mc τ 300 (h - 1).toNat = mPop s k.toNat) ∧ (∀ j : Nat, 93 ≤ j → j < 100 → τ 89 (300 + j) = σ 89 j)
theorem LI_start {σ τ : tw_M} {s : Int} (ht : 1 ≤ σ 91 0 ∧ σ 91 0 ≤ 40) (H : BZ σ τ) : LI σ τ s 1 0 1 := by
  obtain ⟨a, b, c, d, e⟩ := H
  refine ⟨a, b, by omega, rfl, ?_, fun f h1 h2 => d f h1 h2, Int.le_refl _, Or.inr rfl, e⟩
  show lGo σ s 41 1 0 1 _ = _
  unfold mLay
  congr 1
  funext x
  unfold mMask
  split
  · exact c x (by assumption)
  · rfl
theorem lGo_s {σ : tw_M} {s h k i : Int} {R : Nat → Int} (hh : h ≤ 41) : lGo σ s (42 - h).toNat h k i R = if h ≤ σ 91 0 ∧ k < 10 then
      (if 0 < mCr σ h then
        (if i = 0 then lGo σ s (42 - (h + 1)).toNat (h + 1) (k + 1) 0 R
         else if mBit s k = 0 then lGo σ s (42 - (h + 1)).toNat (h + 1) (k + 1) 1 R
         else if R (mCr σ h).toNat = 0 then lGo σ s (42 - (h + 1)).toNat (h + 1) (k + 1) 0 R
         else lGo σ s (42 - (h + 1)).toNat (h + 1) (k + 1) 1 (fun x => if x = (mCr σ h).toNat then tw_w32 (R x - 1) else R x))
       else lGo σ s (42 - (h + 1)).toNat (h + 1) k i R) else i := by
  rw [show (42 - h).toNat = (42 - (h + 1)).toNat + 1 by omega]
  rfl
section LIS
variable {σ τ : tw_M} {s h k i : Int}
theorem LI_none (h1 : 1 ≤ h) (hh : h ≤ σ 91 0) (ht : σ 91 0 ≤ 40) (hk : k < 10) (H : LI σ τ s h k i) (hc : mCr σ h ≤ 0) : LI σ τ s (h + 1) k i := by
  obtain ⟨a, b, c, d, e, f, g, j, l⟩ := H
  have n1 := nc_s (σ := σ) h1
  have m1 := mc_s (σ := τ) (b := 300) h1
  have z := f h (Int.le_refl _) hh
  rw [lGo_s (by omega), if_pos ⟨hh, hk⟩, if_neg (by omega)] at e
  refine ⟨a, b, by omega, ?_, e, fun q q1 q2 => f q (by omega) q2, ?_, ?_, l⟩
  · rw [show h + 1 - 1 = h by omega]; omega
  · rw [show h + 1 - 1 = h by omega]; omega
  · rw [show h + 1 - 1 = h by omega]; omega
theorem LI_no (h1 : 1 ≤ h) (hh : h ≤ σ 91 0) (ht : σ 91 0 ≤ 40) (hk : 0 ≤ k ∧ k < 10) (hi : i = 0) (H : LI σ τ s h k i) (hc : 0 < mCr σ h) : LI σ τ s (h + 1) (k + 1) 0 := by
  subst hi
  obtain ⟨a, b, c, d, e, f, g, j, l⟩ := H
  have n1 := nc_s (σ := σ) h1
  have m1 := mc_s (σ := τ) (b := 300) h1
  have z := f h (Int.le_refl _) hh
  rw [lGo_s (by omega), if_pos ⟨hh, hk.2⟩, if_pos hc, if_pos rfl] at e
  refine ⟨a, b, by omega, ?_, e, fun q q1 q2 => f q (by omega) q2, ?_, Or.inl rfl, l⟩
  · rw [show h + 1 - 1 = h by omega]; omega
  · rw [show h + 1 - 1 = h by omega]; omega
theorem LI_skip (h1 : 1 ≤ h) (hh : h ≤ σ 91 0) (ht : σ 91 0 ≤ 40) (hk : 0 ≤ k ∧ k < 10) (hi : i = 1) (H : LI σ τ s h k i) (hc : 0 < mCr σ h) (hb : mBit s k = 0) : LI σ τ s (h + 1) (k + 1) 1 := by
  subst hi
  obtain ⟨a, b, c, d, e, f, g, j, l⟩ := H
  have n1 := nc_s (σ := σ) h1
  have m1 := mc_s (σ := τ) (b := 300) h1
  have z := f h (Int.le_refl _) hh
  have p1 := mPop_s (s := s) hk.1
  rw [lGo_s (by omega), if_pos ⟨hh, hk.2⟩, if_pos hc, if_neg (by decide), if_pos hb] at e
  refine ⟨a, b, by omega, ?_, e, fun q q1 q2 => f q (by omega) q2, ?_, ?_, l⟩
  · rw [show h + 1 - 1 = h by omega]; omega
  · rw [show h + 1 - 1 = h by omega]; omega
  · rw [show h + 1 - 1 = h by omega]; omega
theorem LI_fail (h1 : 1 ≤ h) (hh : h ≤ σ 91 0) (ht : σ 91 0 ≤ 40) (hk : 0 ≤ k ∧ k < 10) (hi : i = 1) (H : LI σ τ s h k i) (hc : 0 < mCr σ h ∧ mCr σ h ≤ 10) (hb : ¬ mBit s k = 0) (hr : τ 89 (382 + mCr σ h).toNat = 0) : LI σ τ s (h + 1) (k + 1) 0 := by
  subst hi
  obtain ⟨a, b, c, d, e, f, g, j, l⟩ := H
  have n1 := nc_s (σ := σ) h1
  have m1 := mc_s (σ := τ) (b := 300) h1
  have z := f h (Int.le_refl _) hh
  have hr2 : mMask (fun x => τ 89 (382 + x)) (mCr σ h).toNat = 0 := by
    unfold mMask
    rw [if_pos (by omega)]
    show τ 89 (382 + (mCr σ h).toNat) = 0
    rw [← hr, show (382 + mCr σ h).toNat = 382 + (mCr σ h).toNat by omega]
  rw [lGo_s (by omega), if_pos ⟨hh, hk.2⟩, if_pos hc.1, if_neg (by decide), if_neg hb, if_pos hr2] at e
  refine ⟨a, b, by omega, ?_, e, fun q q1 q2 => f q (by omega) q2, ?_, Or.inl rfl, l⟩
  · rw [show h + 1 - 1 = h by omega]; omega
  · rw [show h + 1 - 1 = h by omega]; omega
theorem LI_put {τ1 τ2 : tw_M} (h1 : 1 ≤ h) (hh : h ≤ σ 91 0) (ht : σ 91 0 ≤ 40) (hk : 0 ≤ k ∧ k < 10) (hi : i = 1) (H : LI σ τ s h k i) (hc : 0 < mCr σ h ∧ mCr σ h ≤ 10) (hb : mBit s k = 1) (hr : ¬ τ 89 (382 + mCr σ h).toNat = 0)
    (e1 : τ1 = tw_up τ 89 (382 + mCr σ h).toNat (tw_w32 (τ 89 (382 + mCr σ h).toNat - 1))) (e2 : τ2 = tw_up τ1 89 (300 + h).toNat (mCr σ h)) : LI σ τ2 s (h + 1) (k + 1) 1 := by
  subst hi
  obtain ⟨a, b, c, d, e, f, g, j, l⟩ := H
  have n1 := nc_s (σ := σ) h1
  have z := f h (Int.le_refl _) hh
  have p1 := mPop_s (s := s) hk.1
  have hr2 : ¬ mMask (fun x => τ 89 (382 + x)) (mCr σ h).toNat = 0 := by
    unfold mMask
    rw [if_pos (by omega)]
    show ¬ τ 89 (382 + (mCr σ h).toNat) = 0
    rw [show (382 + (mCr σ h).toNat) = (382 + mCr σ h).toNat by omega]
    exact hr
  have m1 : mc τ2 300 h.toNat = mc τ 300 (h - 1).toNat + 1 := by
    have q1 := mc_s (σ := τ2) (b := 300) h1
    have q2 : mc τ2 300 (h - 1).toNat = mc τ 300 (h - 1).toNat := mc_congr (fun q g1 g2 => by rw [tw_ne1 e2 (by omega), tw_ne1 e1 (by omega)])
    have q3 : τ2 89 (300 + h).toNat = mCr σ h := tw_eq1 e2
    omega
  rw [lGo_s (by omega), if_pos ⟨hh, hk.2⟩, if_pos hc.1, if_neg (by decide), if_neg (by omega), if_neg hr2] at e
  refine ⟨fun j => by rw [tw_ne1 e2 (by omega), tw_ne1 e1 (by omega)]; exact a j, by rw [tw_ne1 e2 (by omega), tw_ne1 e1 (by omega)]; exact b, by omega, ?_, ?_, fun q q1 q2 => ?_, ?_, Or.inr ?_, fun j q1 q2 => by rw [tw_ne1 e2 (by omega), tw_ne1 e1 (by omega)]; exact l j q1 q2⟩
  · rw [show h + 1 - 1 = h by omega]; omega
  · rw [← e]
    congr 1
    funext x
    show (if x ≤ 10 then τ2 89 (382 + x) else 0) = (if x = (mCr σ h).toNat then tw_w32 ((if x ≤ 10 then τ 89 (382 + x) else 0) - 1) else (if x ≤ 10 then τ 89 (382 + x) else 0))
    by_cases q : x ≤ 10
    · have e3 : τ2 89 (382 + x) = τ1 89 (382 + x) := tw_ne1 e2 (by omega)
      rw [if_pos q, if_pos q, e3]
      by_cases q2 : x = (mCr σ h).toNat
      · have e4 : (382 + mCr σ h).toNat = 382 + x := by omega
        rw [e4] at e1
        rw [if_pos q2, tw_eq1 e1]
      · rw [if_neg q2]
        exact tw_ne1 e1 (by omega)
    · rw [if_neg q, if_neg q, if_neg (by omega)]
  · rw [tw_ne1 e2 (by omega), tw_ne1 e1 (by omega)]; exact f q (by omega) q2
  · rw [show h + 1 - 1 = h by omega]; omega
  · rw [show h + 1 - 1 = h by omega]; omega
theorem mc_zero {τ : tw_M} {b : Int} : ∀ {n m : Nat}, m ≤ n → (∀ f : Int, (m : Int) < f → f ≤ (n : Int) → τ 89 (b + f).toNat ≤ 0) → mc τ b n = mc τ b m
  | 0, m, h, _ => by rw [show m = 0 by omega]
  | n + 1, m, h, H => by
    by_cases e : m = n + 1
    · rw [e]
    · rw [← mc_zero (n := n) (m := m) (by omega) (fun f g1 g2 => H f g1 (by omega))]
      have q := H ((n + 1 : Nat) : Int) (by omega) (by omega)
      simp only [mc]
      rw [if_neg (by omega)]
      omega
def mK (σ : tw_M) : Int := if nc σ (σ 91 0).toNat ≤ 10 then nc σ (σ 91 0).toNat else 10
/-- what 'lays' leaves -/
def LZ (σ τ : tw_M) (s i : Int) : Prop := (∀ j, τ 92 j = σ 92 j) ∧ τ 91 0 = σ 91 0 ∧ i = mLay σ s ∧ mc τ 300 (σ 91 0).toNat ≤ 10 ∧ (i = 0 ∨ mc τ 300 (σ 91 0).toNat = mPop s (mK σ).toNat) ∧ (∀ j : Nat, 93 ≤ j → j < 100 → τ 89 (300 + j) = σ 89 j)
theorem LI_end (h1 : 1 ≤ h) (ht : 1 ≤ σ 91 0 ∧ σ 91 0 ≤ 40) (hk : 0 ≤ k ∧ k ≤ 10) (H : LI σ τ s h k i) (hx : σ 91 0 < h ∨ 10 ≤ k) : LZ σ τ s i := by
  obtain ⟨a, b, c, d, e, f, g, j, l⟩ := H
  rw [lGo_s (by omega), if_neg (by omega)] at e
  have hz : mc τ 300 (σ 91 0).toNat = mc τ 300 (h - 1).toNat := by
    by_cases q : h = σ 91 0 + 1
    · rw [show h - 1 = σ 91 0 by omega]
    · exact mc_zero (by omega) (fun x g1 g2 => by rw [f x (by omega) (by omega)]; exact Int.le_refl _)
  have hK : mK σ = k := by
    unfold mK
    by_cases q : h = σ 91 0 + 1
    · rw [show h - 1 = σ 91 0 by omega] at d
      rw [← d, if_pos hk.2]
    · have hm := nc_mono σ (show (h - 1).toNat ≤ (σ 91 0).toNat by omega)
      split <;> omega
  exact ⟨a, b, e, by omega, by rw [hz, hK]; exact j, l⟩
end LIS
def p2 (k : Int) : Int := ((2 ^ k.toNat : Nat) : Int)
theorem p2_nn {k : Int} : 0 ≤ p2 k := Int.natCast_nonneg _
theorem nc_F {P : Nat → Nat → Prop} {σ τ : tw_M} (h : tw_F P σ τ) (hn : ∀ j : Nat, ¬ P 92 j) (h0 : ¬ P 91 0) : nc τ (τ 91 0).toNat = nc σ (σ 91 0).toNat := by rw [h 91 0 h0, nc_congr (fun j => h 92 j (hn j))]
theorem p2_mono {k j : Int} (h : k ≤ j) : p2 k ≤ p2 j := Int.ofNat_le.mpr (Nat.pow_le_pow_right (by decide) (by omega))
theorem shl1 {k : Int} (h : 0 ≤ k ∧ k ≤ 12) : tw_shl 1 k = p2 k ∧ 1 ≤ p2 k ∧ p2 k ≤ 4096 ∧ (k ≤ 10 → p2 k ≤ 1024) := by
  rcases (show k = 0 ∨ k = 1 ∨ k = 2 ∨ k = 3 ∨ k = 4 ∨ k = 5 ∨ k = 6 ∨ k = 7 ∨ k = 8 ∨ k = 9 ∨ k = 10 ∨ k = 11 ∨ k = 12 by omega) with h | h | h | h | h | h | h | h | h | h | h | h | h <;> subst h <;> decide
theorem shr_p2 {s j : Int} (h0 : 0 ≤ s) (hs : s ≤ 2147483647) (hj : 0 ≤ j ∧ j ≤ 12) : tw_shr s j = s / p2 j := by
  have ea : Int32.ofInt s = nI s.toNat := by
    show Int32.ofInt s = Int32.ofInt (s.toNat : Int)
    rw [Int.toNat_of_nonneg h0]
  have key : ∀ c : Nat, (((Int32.ofInt j &&& 31 : Int32)).toBitVec.smod 32).toNat = c → p2 j = ((2 ^ c : Nat) : Int) → tw_shr s j = s / p2 j := by
    intro c hc hp
    unfold tw_shr
    have hlt : s.toNat / 2 ^ c < 2 ^ 31 := Nat.lt_of_le_of_lt (Nat.div_le_self _ _) (by omega)
    rw [ea, pk_shrN (n := s.toNat) (by omega) _ c hc, nI_toInt hlt, hp]
    have e : (s.toNat : Int) = s := Int.toNat_of_nonneg h0
    calc ((s.toNat / 2 ^ c : Nat) : Int) = (s.toNat : Int) / ((2 ^ c : Nat) : Int) := Int.natCast_ediv _ _
      _ = _ := by rw [e]
  rcases (show j = 0 ∨ j = 1 ∨ j = 2 ∨ j = 3 ∨ j = 4 ∨ j = 5 ∨ j = 6 ∨ j = 7 ∨ j = 8 ∨ j = 9 ∨ j = 10 ∨ j = 11 ∨ j = 12 by omega) with h | h | h | h | h | h | h | h | h | h | h | h | h <;> subst h
  · exact key 0 (by decide) rfl
  · exact key 1 (by decide) rfl
  · exact key 2 (by decide) rfl
  · exact key 3 (by decide) rfl
  · exact key 4 (by decide) rfl
  · exact key 5 (by decide) rfl
  · exact key 6 (by decide) rfl
  · exact key 7 (by decide) rfl
  · exact key 8 (by decide) rfl
  · exact key 9 (by decide) rfl
  · exact key 10 (by decide) rfl
  · exact key 11 (by decide) rfl
  · exact key 12 (by decide) rfl
theorem mBit_hi {s k j : Int} (hs : 0 ≤ s) (h2 : s < p2 k) (hj : k ≤ j) (h12 : 0 ≤ j ∧ j ≤ 12) : mBit s j = 0 := by
  have e1 := p2_mono hj
  have e2 := shl1 h12
  unfold mBit
  rw [shr_p2 hs (by omega) h12, Int.ediv_eq_zero_of_lt hs (by omega)]
  decide
theorem mPop_hi {s K : Int} (hs : 0 ≤ s) (h2 : s < p2 K) (hK : 0 ≤ K) : ∀ n : Nat, K ≤ (n : Int) → n ≤ 12 → mPop s n = mPop s K.toNat
  | 0, h, _ => by rw [show K.toNat = 0 by omega]
  | n + 1, h, h12 => by
    by_cases e : K = ((n + 1 : Nat) : Int)
    · rw [e]; rfl
    · have ih := mPop_hi hs h2 hK n (by omega) (by omega)
      have z := mBit_hi (j := (n : Int)) hs h2 (by omega) (by omega)
      show mPop s n + mBit s (n : Int) = _
      omega
theorem shl10 {k : Int} (h : 0 ≤ k ∧ k ≤ 10) : tw_shl 1 k = p2 k ∧ 1 ≤ p2 k ∧ p2 k ≤ 1024 := by
  have := shl1 (k := k) ⟨by omega, by omega⟩
  exact ⟨this.1, this.2.1, this.2.2.2 h.2⟩
/-- what 'findPlan' has found so far -/
def PS (σ : tw_M) (p q : Int) : Prop := p = -4 ∨ (0 ≤ p ∧ p < q ∧ mLay σ p = 1)
theorem PS_new {σ : tw_M} {p s : Int} (h0 : 0 ≤ s) (h1 : mLay σ s = 1) (e : p = s) : PS σ p (s + 1) := by
  subst e
  exact Or.inr ⟨h0, by omega, h1⟩
theorem PS_old {σ : tw_M} {p p' s : Int} (h : PS σ p s) (e : p' = p) : PS σ p' (s + 1) := by
  subst e
  rcases h with h | ⟨a, b, c⟩
  · exact Or.inl h
  · exact Or.inr ⟨a, by omega, c⟩
theorem PS_le {σ : tw_M} {p s t : Int} (h : PS σ p s) (e : s ≤ t) : PS σ p t := by
  rcases h with h | ⟨a, b, c⟩
  · exact Or.inl h
  · exact Or.inr ⟨a, by omega, c⟩
theorem mK_in {σ : tw_M} : 0 ≤ mK σ ∧ mK σ ≤ 10 := by
  have h := nc_in σ (σ 91 0).toNat
  unfold mK
  split <;> omega
theorem mK_congr {σ τ : tw_M} (H : ∀ j, τ 92 j = σ 92 j) (H2 : τ 91 0 = σ 91 0) : mK τ = mK σ := by
  unfold mK
  rw [H2, nc_congr H]
theorem PLAN_foot {σ τ1 τ2 : tw_M} {s r : Int} (hP : PS σ s (p2 (mK σ))) (hs : ¬ s = -4) (hZ : LZ τ1 τ2 s r) (hmk : mK τ1 = mK σ) (hml : mLay τ1 s = mLay σ s) : mc τ2 300 (τ2 91 0).toNat = mPop s 12 := by
  obtain ⟨a, b, c, d, e, f⟩ := hZ
  rcases hP with hP | ⟨p0, p1, p3⟩
  · exact absurd hP hs
  · have hk := mK_in (σ := σ)
    rw [b, mPop_hi p0 p1 hk.1 12 (by omega) (by omega), ← hmk]
    rcases e with e | e
    · omega
    · exact e
theorem mI_adopt {σ τ2 τ : tw_M} (hI : tw_I σ) (h : mI σ) (a : ∀ j, 100 ≤ j → j < 300 → τ 89 j = σ 89 j) (b : ∀ j, τ 90 j = σ 90 j) (c : τ 91 0 = σ 91 0) (c2 : τ2 91 0 = σ 91 0)
    (g : ∀ j : Nat, (j : Int) < 100 → τ 89 (0 + (j : Int)).toNat = τ2 89 (300 + (j : Int)).toNat) (d : mc τ2 300 (τ2 91 0).toNat ≤ 10) (e : ∀ j : Nat, 93 ≤ j → j < 100 → τ2 89 (300 + j) = σ 89 j) : mI τ := by
  have ft : (1 : Int) ≤ σ 91 0 ∧ σ 91 0 ≤ 40 := hI 91 0
  have t : ∀ j : Nat, 93 ≤ j → j < 100 → τ 89 j = σ 89 j := by
    intro j h1 h2
    have := g j (by omega)
    rw [show (0 + (j : Int)).toNat = j by omega, show (300 + (j : Int)).toNat = 300 + j by omega, e j h1 h2] at this
    exact this
  obtain ⟨m1, m2, m3, m4, m5, m6⟩ := h
  refine ⟨?_, ?_, ?_, ?_, ?_, ?_⟩
  · rw [c2] at d
    rw [c, mc_congr (σ := τ2) (b := 300) (fun f h1 h2 => by
      have := g f.toNat (by omega)
      rw [show (0 + (f.toNat : Int)).toNat = (0 + f).toNat by omega, show (300 + (f.toNat : Int)).toNat = (300 + f).toNat by omega] at this
      exact this)]
    exact d
  · rw [c, b, mc_congr (σ := σ) (b := 100) (fun f h1 h2 => a _ (by omega) (by omega))]; exact m2
  · rw [c, b, mc_congr (σ := σ) (b := 200) (fun f h1 h2 => a _ (by omega) (by omega))]; exact m3
  · rw [t 93 (by omega) (by omega), t 95 (by omega) (by omega)]; exact m4
  · rw [a 193 (by omega) (by omega), a 195 (by omega) (by omega)]; exact m5
  · rw [a 293 (by omega) (by omega), a 295 (by omega) (by omega)]; exact m6
