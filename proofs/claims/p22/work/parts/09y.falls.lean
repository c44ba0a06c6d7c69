/-! THE WALL as one row of numbers; FALLS, RISK and EFFORT over it. -/
def hiL (L : Nat → Int) : Nat → Int
  | 0 => 0
  | h + 1 => if L h = 0 then hiL L h else (h : Int)
theorem hiL_in (L : Nat → Int) : ∀ h : Nat, 0 ≤ hiL L h ∧ hiL L h ≤ (h : Int) ∧ (1 ≤ h → hiL L h < (h : Int))
  | 0 => by simp [hiL]
  | h + 1 => by
    have ih := hiL_in L h
    unfold hiL
    split <;> omega
theorem hiL_congr {L L' : Nat → Int} : ∀ {h : Nat}, (∀ f : Nat, f < h → L' f = L f) → hiL L' h = hiL L h
  | 0, _ => rfl
  | h + 1, H => by
    simp only [hiL]
    rw [hiL_congr (fun f h1 => H f (by omega)), H h (by omega)]
theorem hiL_s {L : Nat → Int} {h : Int} (h0 : 0 ≤ h) : (L h.toNat = 0 ∧ hiL L (h + 1).toNat = hiL L h.toNat) ∨ (¬ L h.toNat = 0 ∧ hiL L (h + 1).toNat = h) := by
  rw [show (h + 1).toNat = h.toNat + 1 by omega]
  simp only [hiL]
  split
  · exact Or.inl ⟨by assumption, rfl⟩
  · exact Or.inr ⟨by assumption, by omega⟩
/-- 100 .. the rules (fits and nearly aside), 300 .. the feet by five, 600 .. the highest ledge below each -/
def wH (W : PTG) (h : Int) : Int := W (300 + (5 * h).toNat)
def wC (W : PTG) (h : Int) : Int := W (301 + (5 * h).toNat)
def wL (W : PTG) (h : Int) : Int := W (302 + (5 * h).toNat)
def wR (W : PTG) (h : Int) : Int := W (303 + (5 * h).toNat)
def wS (W : PTG) (h : Int) : Int := W (304 + (5 * h).toNat)
def wB (W : PTG) (h : Int) : Int := W (600 + h.toNat)
def wW (w : Nat) (σ : tw_M) : PTG := fun n => if n = 105 ∨ n = 106 then 0 else if 100 ≤ n ∧ n < 109 then σ (w + 1) (n - 100)
  else if 300 ≤ n ∧ n < 505 then (if (n - 300) % 5 = 0 then σ (w + 3) ((n - 300) / 5) else if (n - 300) % 5 = 1 then σ (w + 4) ((n - 300) / 5) else if (n - 300) % 5 = 2 then σ (w + 5) ((n - 300) / 5) else if (n - 300) % 5 = 3 then σ (w + 6) ((n - 300) / 5) else σ (w + 7) ((n - 300) / 5))
  else if 600 ≤ n ∧ n < 641 then σ (w + 8) (n - 600) else 0
def wM (σ : tw_M) : PTG := fun n => if n = 105 ∨ n = 106 then 0 else if 100 ≤ n ∧ n < 109 then σ 91 (n - 100) else if 300 ≤ n ∧ n < 505 then σ 92 (n - 300)
  else if 600 ≤ n ∧ n < 641 then hiL (fun f => σ 92 (5 * f + 2)) (n - 600) else 0
theorem wW_F {w : Nat} {σ τ : tw_M} (h : ∀ c j, w < c → c < w + 9 → τ c j = σ c j) : wW w τ = wW w σ := by
  funext n
  unfold wW
  rw [h (w + 1) _ (by omega) (by omega), h (w + 3) _ (by omega) (by omega), h (w + 4) _ (by omega) (by omega), h (w + 5) _ (by omega) (by omega), h (w + 6) _ (by omega) (by omega), h (w + 7) _ (by omega) (by omega), h (w + 8) _ (by omega) (by omega)]
theorem wM_F {σ τ : tw_M} (h : ∀ j, ¬ j = 5 → ¬ j = 6 → τ 91 j = σ 91 j) (h2 : ∀ j, τ 92 j = σ 92 j) : wM τ = wM σ := by
  funext n
  unfold wM
  simp only [h2]
  by_cases a : n = 105 ∨ n = 106
  · rw [if_pos a, if_pos a]
  · rw [if_neg a, if_neg a]
    by_cases b : 100 ≤ n ∧ n < 109
    · rw [if_pos b, if_pos b, h _ (by omega) (by omega)]
    · rw [if_neg b, if_neg b]
section WWS
variable {w : Nat} {σ : tw_M}
theorem wW_r {j : Nat} (h : j < 9 ∧ ¬ j = 5 ∧ ¬ j = 6) : wW w σ (100 + j) = σ (w + 1) j := by
  unfold wW
  rw [if_neg (by omega), if_pos (by omega), show 100 + j - 100 = j by omega]
theorem wW_0 {h : Int} (hh : 0 ≤ h ∧ h ≤ 40) : wH (wW w σ) h = σ (w + 3) h.toNat := by
  unfold wH wW
  rw [if_neg (by omega), if_neg (by omega), if_pos (by omega), if_pos (by omega), show (300 + (5 * h).toNat - 300) / 5 = h.toNat by omega]
theorem wW_1 {h : Int} (hh : 0 ≤ h ∧ h ≤ 40) : wC (wW w σ) h = σ (w + 4) h.toNat := by
  unfold wC wW
  rw [if_neg (by omega), if_neg (by omega), if_pos (by omega), if_neg (by omega), if_pos (by omega), show (301 + (5 * h).toNat - 300) / 5 = h.toNat by omega]
theorem wW_2 {h : Int} (hh : 0 ≤ h ∧ h ≤ 40) : wL (wW w σ) h = σ (w + 5) h.toNat := by
  unfold wL wW
  rw [if_neg (by omega), if_neg (by omega), if_pos (by omega), if_neg (by omega), if_neg (by omega), if_pos (by omega), show (302 + (5 * h).toNat - 300) / 5 = h.toNat by omega]
theorem wW_3 {h : Int} (hh : 0 ≤ h ∧ h ≤ 40) : wR (wW w σ) h = σ (w + 6) h.toNat := by
  unfold wR wW
  rw [if_neg (by omega), if_neg (by omega), if_pos (by omega), if_neg (by omega), if_neg (by omega), if_neg (by omega), if_pos (by omega), show (303 + (5 * h).toNat - 300) / 5 = h.toNat by omega]
theorem wW_4 {h : Int} (hh : 0 ≤ h ∧ h ≤ 40) : wS (wW w σ) h = σ (w + 7) h.toNat := by
  unfold wS wW
  rw [if_neg (by omega), if_neg (by omega), if_pos (by omega), if_neg (by omega), if_neg (by omega), if_neg (by omega), if_neg (by omega), show (304 + (5 * h).toNat - 300) / 5 = h.toNat by omega]
theorem wW_b {h : Int} (hh : 0 ≤ h ∧ h ≤ 40) : wB (wW w σ) h = σ (w + 8) h.toNat := by
  unfold wB wW
  rw [if_neg (by omega), if_neg (by omega), if_neg (by omega), if_pos (by omega), show 600 + h.toNat - 600 = h.toNat by omega]
theorem wM_r {j : Nat} (h : j < 9 ∧ ¬ j = 5 ∧ ¬ j = 6) : wM σ (100 + j) = σ 91 j := by
  unfold wM
  rw [if_neg (by omega), if_pos (by omega), show 100 + j - 100 = j by omega]
theorem wM_f {h k : Int} (hh : 0 ≤ h ∧ h ≤ 40) (hk : 0 ≤ k ∧ k ≤ 4) : wM σ (300 + k.toNat + (5 * h).toNat) = σ 92 (5 * h + k).toNat := by
  unfold wM
  rw [if_neg (by omega), if_neg (by omega), if_pos (by omega), show 300 + k.toNat + (5 * h).toNat - 300 = (5 * h + k).toNat by omega]
theorem wM_0 {h : Int} (hh : 0 ≤ h ∧ h ≤ 40) : wH (wM σ) h = σ 92 (5 * h + 0).toNat := wM_f (k := 0) hh (by omega)
theorem wM_1 {h : Int} (hh : 0 ≤ h ∧ h ≤ 40) : wC (wM σ) h = σ 92 (5 * h + 1).toNat := wM_f (k := 1) hh (by omega)
theorem wM_2 {h : Int} (hh : 0 ≤ h ∧ h ≤ 40) : wL (wM σ) h = σ 92 (5 * h + 2).toNat := wM_f (k := 2) hh (by omega)
theorem wM_3 {h : Int} (hh : 0 ≤ h ∧ h ≤ 40) : wR (wM σ) h = σ 92 (5 * h + 3).toNat := wM_f (k := 3) hh (by omega)
theorem wM_4 {h : Int} (hh : 0 ≤ h ∧ h ≤ 40) : wS (wM σ) h = σ 92 (5 * h + 4).toNat := wM_f (k := 4) hh (by omega)
theorem wM_b {h : Int} (hh : 0 ≤ h ∧ h ≤ 40) : wB (wM σ) h = hiL (fun f => σ 92 (5 * f + 2)) h.toNat := by
  unfold wB wM
  rw [if_neg (by omega), if_neg (by omega), if_neg (by omega), if_pos (by omega), show 600 + h.toNat - 600 = h.toNat by omega]
end WWS
def dropS (W : PTG) (h f : Int) : Int := tw_w32 (2 * (h - f) + tw_div (tw_w32 (W 104 * h)) 100)
def pullS (h d : Int) : Int := if h < 1 then 2 else tw_w32 (2 + tw_div (tw_w32 (10 * d)) h)
def strS (W : PTG) (h s : Int) : Int := if s ≤ wB W h then wB W h else -4
def harS (W : PTG) (h s : Int) : Int := if s ≤ wB W h then h - wB W h else 0
def bt (s k : Int) : Int := tw_and (tw_shr s k) 1
abbrev FQ : Type := Int × Int × Int × Int
/-- from f down, those of p having popped: where it is stopped, by which, how hard, which popped -/
def fallG (W g : PTG) (h good : Int) : Nat → Int → FQ
  | 0, p => (0, -4, 0, p)
  | f + 1, p => if 0 < g (f + 1) then
      (if ¬ bt good (cnt g (f + 1) - 1) = 0 ∧ pullS h (dropS W h ((f + 1 : Nat) : Int)) ≤ g (f + 1) + W 107
       then (tw_w32 (h - dropS W h ((f + 1 : Nat) : Int)), cnt g (f + 1) - 1, pullS h (dropS W h ((f + 1 : Nat) : Int)), p)
       else fallG W g h good f (tw_or p (tw_shl 1 (cnt g (f + 1) - 1))))
    else fallG W g h good f p
section FG
variable {W g : PTG} {h good : Int}
theorem fallG_n {f : Nat} {p : Int} (h1 : 1 ≤ f) (hg : g f ≤ 0) : fallG W g h good f p = fallG W g h good (f - 1) p := by
  obtain ⟨n, rfl⟩ : ∃ n, f = n + 1 := ⟨f - 1, by omega⟩
  simp only [fallG, Nat.add_sub_cancel]
  rw [if_neg (by omega)]
theorem fallG_h {f : Nat} {p : Int} (h1 : 1 ≤ f) (hg : 0 < g f) (hb : ¬ bt good (cnt g f - 1) = 0) (hp : pullS h (dropS W h (f : Int)) ≤ g f + W 107) : fallG W g h good f p = (tw_w32 (h - dropS W h (f : Int)), cnt g f - 1, pullS h (dropS W h (f : Int)), p) := by
  obtain ⟨n, rfl⟩ : ∃ n, f = n + 1 := ⟨f - 1, by omega⟩
  simp only [fallG]
  rw [if_pos hg, if_pos ⟨hb, hp⟩]
theorem fallG_p {f : Nat} {p : Int} (h1 : 1 ≤ f) (hg : 0 < g f) (hb : bt good (cnt g f - 1) = 0 ∨ g f + W 107 < pullS h (dropS W h (f : Int))) : fallG W g h good f p = fallG W g h good (f - 1) (tw_or p (tw_shl 1 (cnt g f - 1))) := by
  obtain ⟨n, rfl⟩ : ∃ n, f = n + 1 := ⟨f - 1, by omega⟩
  simp only [fallG, Nat.add_sub_cancel]
  rw [if_pos hg, if_neg (fun q => by rcases hb with hb | hb; exact q.1 hb; omega)]
theorem fallG_skip {a : Nat} {p : Int} : ∀ {b : Nat}, a ≤ b → (∀ f : Nat, a < f → f ≤ b → g f ≤ 0) → fallG W g h good b p = fallG W g h good a p
  | 0, hab, _ => by rw [show a = 0 by omega]
  | b + 1, hab, H => by
    by_cases e : a = b + 1
    · rw [e]
    · rw [fallG_n (by omega) (H (b + 1) (by omega) (by omega))]
      exact fallG_skip (b := b) (by omega) (fun f f1 f2 => H f f1 (by omega))
theorem fallG_congr {g' : PTG} : ∀ {f : Nat} {p : Int}, (∀ x : Nat, 1 ≤ x → x ≤ f → g' x = g x) → fallG W g' h good f p = fallG W g h good f p
  | 0, _, _ => rfl
  | f + 1, p, H => by
    have e := H (f + 1) (by omega) (by omega)
    have c : cnt g' (f + 1) = cnt g (f + 1) := cnt_congr H
    simp only [fallG]
    rw [e, c, fallG_congr (f := f) (p := p) (fun x x1 x2 => H x x1 (by omega)), fallG_congr (f := f) (p := tw_or p (tw_shl 1 (cnt g (f + 1) - 1))) (fun x x1 x2 => H x x1 (by omega))]
/-- good as far as there are pieces -/
theorem fallG_good {good' : Int} : ∀ {f : Nat} {p : Int}, (∀ k : Int, 0 ≤ k → k < cnt g f → (bt good' k = 0 ↔ bt good k = 0)) → fallG W g h good' f p = fallG W g h good f p
  | 0, _, _ => rfl
  | f + 1, p, H => by
    have s := cnt_s (g := g) (f := f + 1) (by omega)
    have n := (cnt_in g f).1
    rw [Nat.add_sub_cancel] at s
    have ih : ∀ p, fallG W g h good' f p = fallG W g h good f p := fun p => fallG_good (fun k k1 k2 => H k k1 (by omega))
    simp only [fallG, ih]
    by_cases q : 0 < g (f + 1)
    · have e := H (cnt g (f + 1) - 1) (by omega) (by omega)
      rw [if_pos q, if_pos q]
      simp only [e]
    · rw [if_neg q, if_neg q]
theorem cnt_none {a b : Nat} (hab : a ≤ b) (e : cnt g b ≤ cnt g a) : ∀ f : Nat, a < f → f ≤ b → g f ≤ 0 := by
  intro f f1 f2
  have s := cnt_s (g := g) (f := f) (by omega)
  have m1 := cnt_mono g (h := a) (k := f - 1) (by omega)
  have m2 := cnt_mono g (h := f) (k := b) f2
  omega
/-- in the midst of a fall, the row looked at from above: k is the next -/
def FI (W g : PTG) (h good k st ho pg po : Int) : Prop :=
  (ho = -4 ∧ st = 0 ∧ pg = 0 ∧ ∃ F : Nat, (F : Int) ≤ h ∧ cnt g F ≤ k + 1 ∧ (cnt g F = k + 1 ∨ (F : Int) = h) ∧ fallG W g h good F po = fallG W g h good h.toNat 0) ∨ (0 ≤ ho ∧ (st, ho, pg, po) = fallG W g h good h.toNat 0)
theorem FI_0 {σ : tw_M} {o : Nat} {q : PTG} (H : RG o g q σ) (hh : 0 ≤ h) : FI W g h good (σ o 0 - 1) 0 (-4) 0 0 :=
  Or.inl ⟨rfl, rfl, rfl, h.toNat, by omega, by have := RG_n H h.toNat; omega, Or.inr (by omega), rfl⟩
theorem FI_above {σ : tw_M} {o : Nat} {q : PTG} {k st ho pg po : Int} (H : RG o g q σ) (hk : 0 ≤ k ∧ k < σ o 0) (I : FI W g h good k st ho pg po) (hl : h < σ (o + 1) k.toNat) (hh : 0 ≤ h) : FI W g h good (k - 1) st ho pg po := by
  rcases I with ⟨a, b, c, F, f1, f2, f3, f4⟩ | I
  · have l := (not_congr (RG_le H (i := k.toNat) (h := h.toNat) (by omega))).mp (by omega)
    have m := cnt_mono g (h := F) (k := h.toNat) (by omega)
    exact Or.inl ⟨a, b, c, F, f1, by omega, Or.inr (by omega), f4⟩
  · exact Or.inr I
theorem FI_here {σ : tw_M} {o : Nat} {q : PTG} {k st ho pg po : Int} (H : RG o g q σ) (hk : 0 ≤ k ∧ k < σ o 0) (I : FI W g h good k st ho pg po) (hn : ho < 0) (hl : σ (o + 1) k.toNat ≤ h) :
    (st = 0 ∧ pg = 0 ∧ ho = -4) ∧ 0 < g (σ (o + 1) k.toNat).toNat ∧ g (σ (o + 1) k.toNat).toNat = σ (o + 2) k.toNat ∧ cnt g (σ (o + 1) k.toNat).toNat - 1 = k ∧ 1 ≤ (σ (o + 1) k.toNat).toNat ∧ fallG W g h good (σ (o + 1) k.toNat).toNat po = fallG W g h good h.toNat 0 := by
  obtain ⟨b1, b2, b3, b4, b5⟩ := H.2.1 k.toNat (by omega)
  rcases I with ⟨a, b, c, F, f1, f2, f3, f4⟩ | I
  · have cn := RG_cnt H k.toNat (by omega)
    have l := (RG_le H (i := k.toNat) (h := h.toNat) (by omega)).mp (by omega)
    have e : cnt g F = k + 1 := by
      rcases f3 with f3 | f3
      · exact f3
      · rw [show F = h.toNat by omega] at f2 ⊢; omega
    have lF := (RG_le H (i := k.toNat) (h := F) (by omega)).mpr (by omega)
    refine ⟨⟨b, c, a⟩, by omega, b4, by omega, by omega, ?_⟩
    rw [← f4]
    exact (fallG_skip (by omega) (cnt_none (by omega) (by omega))).symm
  · omega
theorem FI_hold {σ : tw_M} {o : Nat} {q : PTG} {k st ho pg po u d st' : Int} (H : RG o g q σ) (hk : 0 ≤ k ∧ k < σ o 0) (I : FI W g h good k st ho pg po) (hn : ho < 0) (hl : σ (o + 1) k.toNat ≤ h)
    (hd : d = dropS W h (σ (o + 1) k.toNat)) (hu : u = pullS h d) (hb : ¬ bt good k = 0) (hp : u ≤ σ (o + 2) k.toNat + W 107) (hs : st' = tw_w32 (h - d)) (k' : Int) : FI W g h good k' st' k u po := by
  obtain ⟨a, b1, b2, b3, b4, b5⟩ := FI_here H hk I hn hl
  have hF : ((σ (o + 1) k.toNat).toNat : Int) = σ (o + 1) k.toNat := by omega
  refine Or.inr ⟨hk.1, ?_⟩
  rw [← b5, fallG_h b4 b1 (by rw [b3]; exact hb) (by rw [hF, ← hd, ← hu, b2]; exact hp), hF, ← hd, ← hu, ← hs, b3]
theorem FI_pop {σ : tw_M} {o : Nat} {q : PTG} {k st ho pg po u d po' : Int} (H : RG o g q σ) (hk : 0 ≤ k ∧ k < σ o 0) (I : FI W g h good k st ho pg po) (hn : ho < 0) (hl : σ (o + 1) k.toNat ≤ h)
    (hd : d = dropS W h (σ (o + 1) k.toNat)) (hu : u = pullS h d) (hb : bt good k = 0 ∨ σ (o + 2) k.toNat + W 107 < u) (hs : po' = tw_or po (tw_shl 1 k)) : FI W g h good (k - 1) st ho pg po' := by
  obtain ⟨⟨a1, a2, a3⟩, b1, b2, b3, b4, b5⟩ := FI_here H hk I hn hl
  have hF : ((σ (o + 1) k.toNat).toNat : Int) = σ (o + 1) k.toNat := by omega
  have s := cnt_s (g := g) b4
  refine Or.inl ⟨a3, a1, a2, (σ (o + 1) k.toNat).toNat - 1, by omega, by omega, Or.inl (by omega), ?_⟩
  rw [← b5, fallG_p b4 b1 (by rw [b3, hF, ← hd, ← hu, b2]; exact hb), b3, ← hs]
theorem FI_end {k st ho pg po : Int} (I : FI W g h good k st ho pg po) (hx : k < 0 ∨ 0 ≤ ho) : (st, ho, pg, po) = fallG W g h good h.toNat 0 := by
  rcases I with ⟨a, b, c, F, f1, f2, f3, f4⟩ | I
  · have n := (cnt_in g F).1
    rw [← f4, fallG_skip (a := 0) (by omega) (cnt_none (by omega) (by show cnt g F ≤ 0; omega)), a, b, c]
    rfl
  · exact I.2
end FG
