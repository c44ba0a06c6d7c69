/-! THE REFERENCE'S PLANS, in the words of both. -/
/-- the rack with all pieces back in it; pieces stand up to the top alone; no sling where none stands -/
def MOK (rk : PTG) (σ : tw_M) : Prop := (∀ x : Int, 1 ≤ x → x ≤ 10 → σ 89 (82 + x).toNat + csz (gM 0 σ) x 40 = rk x.toNat ∧ 0 ≤ σ 89 (82 + x).toNat ∧ rk x.toNat ≤ 5) ∧
  (∀ f : Int, σ 91 0 < f → f ≤ 40 → σ 89 f.toNat = 0) ∧ (∀ f : Int, 1 ≤ f → f ≤ 40 → σ 89 f.toNat = 0 → σ 89 (41 + f).toNat = 0)
theorem MOK_F {rk : PTG} {σ τ : tw_M} (H : MOK rk σ) (h : ∀ j, j < 93 → τ 89 j = σ 89 j) (h2 : τ 91 0 = σ 91 0) : MOK rk τ := by
  obtain ⟨a, b, c⟩ := H
  have e : gM 0 τ = gM 0 σ := gM_F (fun f f1 f2 => h _ (by omega))
  refine ⟨fun x x1 x2 => ?_, fun f f1 f2 => ?_, fun f f1 f2 f3 => ?_⟩
  · rw [e, h _ (by omega)]; exact a x x1 x2
  · rw [h _ (by omega)]; exact b f (by rw [← h2]; exact f1) f2
  · rw [h _ (by omega)] at f3 ⊢; exact c f f1 f2 f3
theorem csz_s {g : PTG} {s f : Int} (h : 1 ≤ f) : (g f.toNat = s ∧ csz g s f.toNat = csz g s (f - 1).toNat + 1) ∨ (¬ g f.toNat = s ∧ csz g s f.toNat = csz g s (f - 1).toNat) := by
  obtain ⟨n, rfl⟩ : ∃ n : Nat, f = ((n + 1 : Nat) : Int) := ⟨(f - 1).toNat, by omega⟩
  rw [show (((n + 1 : Nat) : Int)).toNat = n + 1 by omega, show (((n + 1 : Nat) : Int) - 1).toNat = n by omega]
  simp only [csz]
  split <;> omega
theorem csz_up {g : PTG} {s : Int} {a : Nat} : ∀ {b : Nat}, a ≤ b → csz g s a ≤ csz g s b
  | 0, h => by rw [show a = 0 by omega]; exact Int.le_refl _
  | b + 1, h => by
    by_cases e : a = b + 1
    · rw [e]; exact Int.le_refl _
    · have := csz_up (g := g) (s := s) (a := a) (b := b) (by omega)
      simp only [csz]
      split <;> omega
theorem csz_end {g : PTG} {s : Int} {a : Nat} : ∀ {b : Nat}, a ≤ b → (∀ f : Nat, a < f → f ≤ b → ¬ g f = s) → csz g s b = csz g s a
  | 0, h, _ => by rw [show a = 0 by omega]
  | b + 1, h, H => by
    by_cases e : a = b + 1
    · rw [e]
    · have := csz_end (g := g) (s := s) (a := a) (b := b) (by omega) (fun f f1 f2 => H f f1 (by omega))
      simp only [csz]
      rw [if_neg (H (b + 1) (by omega) (by omega)), this]
      omega
/-- in the midst of 'bares' -/
def BJ (rk : PTG) (h : Int) (σ τ : tw_M) : Prop := (∀ x : Int, 1 ≤ x → x ≤ 10 → τ 89 (382 + x).toNat = σ 89 (82 + x).toNat + csz (gM 0 σ) x (h - 1).toNat) ∧
  (∀ f : Int, 1 ≤ f → f < h → τ 89 (300 + f).toNat = 0 ∧ τ 89 (341 + f).toNat = 0) ∧ (∀ f : Int, h ≤ f → f ≤ 40 → τ 89 (300 + f).toNat = σ 89 f.toNat ∧ τ 89 (341 + f).toNat = σ 89 (41 + f).toNat)
section BJS
variable {rk : PTG} {σ τ : tw_M} {h : Int}
theorem BJ_start (hc : ∀ j : Nat, (j : Int) < 100 → τ 89 (300 + (j : Int)).toNat = σ 89 (0 + (j : Int)).toNat) : BJ rk 1 σ τ := by
  refine ⟨fun x x1 x2 => ?_, fun f f1 f2 => by omega, fun f f1 f2 => ⟨?_, ?_⟩⟩
  · have e := hc (82 + x).toNat (by omega)
    rw [show (300 + (((82 + x).toNat : Nat) : Int)).toNat = (382 + x).toNat by omega, show (0 + (((82 + x).toNat : Nat) : Int)).toNat = (82 + x).toNat by omega] at e
    rw [e]
    show _ = _ + csz (gM 0 σ) x 0
    simp [csz]
  · have e := hc f.toNat (by omega)
    rw [show (300 + ((f.toNat : Nat) : Int)).toNat = (300 + f).toNat by omega, show (0 + ((f.toNat : Nat) : Int)).toNat = f.toNat by omega] at e
    exact e
  · have e := hc (41 + f).toNat (by omega)
    rw [show (300 + (((41 + f).toNat : Nat) : Int)).toNat = (341 + f).toNat by omega, show (0 + (((41 + f).toNat : Nat) : Int)).toNat = (41 + f).toNat by omega] at e
    exact e
theorem BJ_none (M : MOK rk σ) (h1 : 1 ≤ h ∧ h ≤ 40) (H : BJ rk h σ τ) (hp : τ 89 (300 + h).toNat = 0) : BJ rk (h + 1) σ τ := by
  obtain ⟨a, b, c⟩ := H
  have ch := c h (Int.le_refl _) h1.2
  refine ⟨fun x x1 x2 => ?_, fun f f1 f2 => ?_, fun f f1 f2 => c f (by omega) f2⟩
  · have e := gM_at (b := 0) (σ := σ) h1
    rw [show (0 + h).toNat = h.toNat by omega] at e
    rcases csz_s (g := gM 0 σ) (s := x) h1.1 with s | s
    · omega
    · rw [show h + 1 - 1 = h by omega, s.2]; exact a x x1 x2
  · by_cases q : f = h
    · subst q
      exact ⟨hp, by rw [ch.2]; exact M.2.2 f f1 h1.2 (by omega)⟩
    · exact b f f1 (by omega)
theorem BJ_some {τ1 τ2 τ3 : tw_M} {z : Int} (M : MOK rk σ) (ez : z = tw_w32 (τ 89 (382 + τ 89 (300 + h).toNat).toNat + 1)) (h1 : 1 ≤ h ∧ h ≤ 40) (H : BJ rk h σ τ) (hp : 0 < τ 89 (300 + h).toNat ∧ τ 89 (300 + h).toNat ≤ 10)
    (e1 : τ1 = tw_up τ 89 (382 + τ 89 (300 + h).toNat).toNat z) (e2 : τ2 = tw_up τ1 89 (300 + h).toNat 0) (e3 : τ3 = tw_up τ2 89 (341 + h).toNat 0) : BJ rk (h + 1) σ τ3 := by
  obtain ⟨a, b, c⟩ := H
  have ch := c h (Int.le_refl _) h1.2
  have e := gM_at (b := 0) (σ := σ) h1
  rw [show (0 + h).toNat = h.toNat by omega] at e
  refine ⟨fun x x1 x2 => ?_, fun f f1 f2 => ?_, fun f f1 f2 => ⟨?_, ?_⟩⟩
  · rw [tw_ne1 e3 (by omega), tw_ne1 e2 (by omega), show h + 1 - 1 = h by omega]
    have ax := a x x1 x2
    rcases csz_s (g := gM 0 σ) (s := x) h1.1 with s | s
    · have mx := M.1 x x1 x2
      have u := csz_up (g := gM 0 σ) (s := x) (show h.toNat ≤ 40 by omega)
      have nn := csz_nn (g := gM 0 σ) (s := x) (h - 1).toNat
      have ex : x = τ 89 (300 + h).toNat := by omega
      rw [tw_eq2 e1 (by omega), ez, ← ex, ax, s.2, w32_eq (by omega) (by omega)]
      omega
    · rw [tw_ne1 e1 (by omega), s.2]
      exact ax
  · by_cases q : f = h
    · subst q
      exact ⟨by rw [tw_ne1 e3 (by omega), tw_eq1 e2], tw_eq1 e3⟩
    · rw [tw_ne1 e3 (by omega), tw_ne1 e2 (by omega), tw_ne1 e1 (by omega), tw_ne1 e3 (by omega), tw_ne1 e2 (by omega), tw_ne1 e1 (by omega)]
      exact b f f1 (by omega)
  · rw [tw_ne1 e3 (by omega), tw_ne1 e2 (by omega), tw_ne1 e1 (by omega)]; exact (c f (by omega) f2).1
  · rw [tw_ne1 e3 (by omega), tw_ne1 e2 (by omega), tw_ne1 e1 (by omega)]; exact (c f (by omega) f2).2
/-- all are back -/
def BJZ (rk : PTG) (τ : tw_M) : Prop := (∀ x : Int, 1 ≤ x → x ≤ 10 → τ 89 (382 + x).toNat = rk x.toNat) ∧ (∀ f : Int, 1 ≤ f → f ≤ 40 → τ 89 (300 + f).toNat = 0 ∧ τ 89 (341 + f).toNat = 0)
theorem BJ_end (M : MOK rk σ) (H : BJ rk h σ τ) (h1 : 1 ≤ h) (hh : h = σ 91 0 + 1) (ht : σ 91 0 ≤ 40) : BJZ rk τ := by
  obtain ⟨a, b, c⟩ := H
  refine ⟨fun x x1 x2 => ?_, fun f f1 f2 => ?_⟩
  · have m := M.1 x x1 x2
    have e : csz (gM 0 σ) x 40 = csz (gM 0 σ) x (h - 1).toNat := csz_end (by omega) (fun f f1 f2 => by
      have e := gM_at (b := 0) (σ := σ) (f := (f : Int)) ⟨by omega, by omega⟩
      rw [show ((f : Nat) : Int).toNat = f by omega, show (0 + (f : Int)).toNat = f by omega] at e
      have z := M.2.1 (f : Int) (by omega) (by omega)
      rw [show ((f : Nat) : Int).toNat = f by omega] at z
      omega)
    have ax := a x x1 x2
    omega
  · by_cases q : f < h
    · exact b f f1 q
    · have cf := c f (by omega) f2
      have z := M.2.1 f (by omega) f2
      exact ⟨by omega, by rw [cf.2]; exact M.2.2 f f1 f2 z⟩
end BJS
/-- in the midst of 'lays' -/
def LJ (W rk : PTG) (s h k i : Int) (τ : tw_M) : Prop := k = cnt (cW W) (h - 1).toNat ∧ (∀ f : Int, 1 ≤ f → f ≤ 40 → τ 89 (341 + f).toNat = 0) ∧ (∀ f : Int, h ≤ f → f ≤ 40 → τ 89 (300 + f).toNat = 0) ∧
  ((i = 1 ∧ (∀ f : Int, 1 ≤ f → f < h → τ 89 (300 + f).toNat = lay W s f.toNat) ∧ ∀ x : Int, 1 ≤ x → x ≤ 10 → τ 89 (382 + x).toNat = rk x.toNat - csz (lay W s) x (h - 1).toNat ∧ 0 ≤ τ 89 (382 + x).toNat) ∨
    (i = 0 ∧ ∃ x : Int, 1 ≤ x ∧ x ≤ 10 ∧ rk x.toNat < csz (lay W s) x (h - 1).toNat))
section LJS
variable {W rk : PTG} {τ : tw_M} {s h k i : Int}
theorem LJ_start (H : BJZ rk τ) (hr : ∀ x : Int, 1 ≤ x → x ≤ 10 → 0 ≤ rk x.toNat) : LJ W rk s 1 0 1 τ := by
  refine ⟨rfl, fun f f1 f2 => (H.2 f f1 f2).2, fun f f1 f2 => (H.2 f (by omega) f2).1, Or.inl ⟨rfl, fun f f1 f2 => by omega, fun x x1 x2 => ?_⟩⟩
  have e := H.1 x x1 x2
  have r := hr x x1 x2
  have z : csz (lay W s) x ((1 : Int) - 1).toNat = 0 := rfl
  omega
theorem lay_at {f : Nat} (k1 : 0 < cW W f ∧ cnt (cW W) f ≤ 10) : (¬ bt s (cnt (cW W) f - 1) = 0 ∧ lay W s f = cW W f) ∨ (bt s (cnt (cW W) f - 1) = 0 ∧ lay W s f = 0) := by
  unfold lay
  by_cases q : bt s (cnt (cW W) f - 1) = 0
  · exact Or.inr ⟨q, if_neg (fun r => r.2.2 q)⟩
  · exact Or.inl ⟨q, if_pos ⟨k1.1, k1.2, q⟩⟩
/-- no piece at this foot -/
theorem LJ_no (h1 : 1 ≤ h ∧ h ≤ 40) (H : LJ W rk s h k i τ) (hl : lay W s h.toNat = 0) {k' : Int} (hk : k' = cnt (cW W) h.toNat) : LJ W rk s (h + 1) k' i τ := by
  obtain ⟨a, b, c, d⟩ := H
  have z : ∀ x : Int, 1 ≤ x → csz (lay W s) x (h + 1 - 1).toNat = csz (lay W s) x (h - 1).toNat := by
    intro x hx
    rw [show h + 1 - 1 = h by omega]
    rcases csz_s (g := lay W s) (s := x) h1.1 with u | u
    · omega
    · exact u.2
  refine ⟨by rw [show h + 1 - 1 = h by omega]; exact hk, b, fun f f1 f2 => c f (by omega) f2, ?_⟩
  rcases d with ⟨d1, d2, d3⟩ | ⟨d1, x, x1, x2, x3⟩
  · refine Or.inl ⟨d1, fun f f1 f2 => ?_, fun x x1 x2 => by rw [z x x1]; exact d3 x x1 x2⟩
    by_cases q : f = h
    · subst q
      rw [hl]; exact c f (Int.le_refl _) h1.2
    · exact d2 f f1 (by omega)
  · exact Or.inr ⟨d1, x, x1, x2, by rw [z x x1]; exact x3⟩
/-- it has failed already -/
theorem LJ_dead (h1 : 1 ≤ h ∧ h ≤ 40) (H : LJ W rk s h k 0 τ) {k' : Int} (hk : k' = cnt (cW W) h.toNat) : LJ W rk s (h + 1) k' 0 τ := by
  obtain ⟨a, b, c, d⟩ := H
  refine ⟨by rw [show h + 1 - 1 = h by omega]; exact hk, b, fun f f1 f2 => c f (by omega) f2, ?_⟩
  rcases d with ⟨d1, _⟩ | ⟨d1, x, x1, x2, x3⟩
  · omega
  · have u := csz_up (g := lay W s) (s := x) (show (h - 1).toNat ≤ (h + 1 - 1).toNat by omega)
    exact Or.inr ⟨rfl, x, x1, x2, by omega⟩
theorem LJ_fail (h1 : 1 ≤ h ∧ h ≤ 40) (H : LJ W rk s h k 1 τ) (hc : 1 ≤ cW W h.toNat ∧ cW W h.toNat ≤ 10) (hl : lay W s h.toNat = cW W h.toNat) (hr : τ 89 (382 + cW W h.toNat).toNat = 0) {k' : Int} (hk : k' = cnt (cW W) h.toNat) : LJ W rk s (h + 1) k' 0 τ := by
  obtain ⟨a, b, c, d⟩ := H
  refine ⟨by rw [show h + 1 - 1 = h by omega]; exact hk, b, fun f f1 f2 => c f (by omega) f2, ?_⟩
  rcases d with ⟨d1, d2, d3⟩ | ⟨d1, _⟩
  · refine Or.inr ⟨rfl, cW W h.toNat, hc.1, hc.2, ?_⟩
    have l := d3 _ hc.1 hc.2
    rw [show h + 1 - 1 = h by omega]
    rcases csz_s (g := lay W s) (s := cW W h.toNat) h1.1 with u | u
    · omega
    · exact absurd hl u.1
  · omega
theorem LJ_put {τ1 τ2 : tw_M} (h1 : 1 ≤ h ∧ h ≤ 40) (H : LJ W rk s h k 1 τ) (hc : 1 ≤ cW W h.toNat ∧ cW W h.toNat ≤ 10) (hl : lay W s h.toNat = cW W h.toNat) (hr : ¬ τ 89 (382 + cW W h.toNat).toNat = 0) (hb : τ 89 (382 + cW W h.toNat).toNat ≤ 2147483647) {k' : Int} (hk : k' = cnt (cW W) h.toNat)
    (e1 : τ1 = tw_up τ 89 (382 + cW W h.toNat).toNat (tw_w32 (τ 89 (382 + cW W h.toNat).toNat - 1))) (e2 : τ2 = tw_up τ1 89 (300 + h).toNat (cW W h.toNat)) : LJ W rk s (h + 1) k' 1 τ2 := by
  obtain ⟨a, b, c, d⟩ := H
  refine ⟨by rw [show h + 1 - 1 = h by omega]; exact hk, fun f f1 f2 => by rw [tw_ne1 e2 (by omega), tw_ne1 e1 (by omega)]; exact b f f1 f2, fun f f1 f2 => by rw [tw_ne1 e2 (by omega), tw_ne1 e1 (by omega)]; exact c f (by omega) f2, ?_⟩
  rcases d with ⟨d1, d2, d3⟩ | ⟨d1, _⟩
  · refine Or.inl ⟨rfl, fun f f1 f2 => ?_, fun x x1 x2 => ?_⟩
    · by_cases q : f = h
      · subst q; rw [tw_eq1 e2]; exact hl.symm
      · rw [tw_ne1 e2 (by omega), tw_ne1 e1 (by omega)]; exact d2 f f1 (by omega)
    · rw [tw_ne1 e2 (by omega), show h + 1 - 1 = h by omega]
      have l := d3 x x1 x2
      rcases csz_s (g := lay W s) (s := x) h1.1 with u | u
      · have ex : x = cW W h.toNat := by omega
        subst ex
        rw [tw_eq1 e1, w32_eq (by omega) (by omega)]
        omega
      · rw [tw_ne1 e1 (by omega)]
        omega
  · omega
/-- what 'lays' leaves, and says -/
def LJZ (W rk : PTG) (s r : Int) (τ : tw_M) : Prop := (r = 1 ∧ gM 300 τ = lay W s ∧ (∀ x : Int, 1 ≤ x → x ≤ 10 → τ 89 (382 + x).toNat = rk x.toNat - csz (lay W s) x 40 ∧ 0 ≤ τ 89 (382 + x).toNat) ∧ ∀ f : Int, 1 ≤ f → f ≤ 40 → τ 89 (341 + f).toNat = 0) ∨
  (r = 0 ∧ ∃ x : Int, 1 ≤ x ∧ x ≤ 10 ∧ rk x.toNat < csz (lay W s) x 40)
theorem LJ_end (hW : 1 ≤ W 100 ∧ W 100 ≤ 40) (h1 : 1 ≤ h) (H : LJ W rk s h k i τ) (hh : h ≤ W 100 + 1) (hx : W 100 < h ∨ 10 ≤ k) : LJZ W rk s i τ := by
  obtain ⟨a, b, c, d⟩ := H
  have z : ∀ f : Nat, h ≤ (f : Int) → lay W s f = 0 := by
    intro f hf
    clear d b c
    unfold lay
    by_cases q : 0 < cW W f
    · have ci := cW_in q
      have m := cnt_s (g := cW W) ci.1
      have m2 := cnt_mono (cW W) (show (h - 1).toNat ≤ f - 1 by omega)
      rw [if_neg (by omega)]
    · rw [if_neg (fun r => q r.1)]
  have e : ∀ x : Int, 1 ≤ x → csz (lay W s) x 40 = csz (lay W s) x (h - 1).toNat := fun x hx => csz_end (by omega) (fun f f1 f2 => by rw [z f (by omega)]; omega)
  rcases d with ⟨d1, d2, d3⟩ | ⟨d1, x, x1, x2, x3⟩
  · refine Or.inl ⟨d1, ?_, fun x x1 x2 => by rw [e x x1]; exact d3 x x1 x2, b⟩
    funext f
    unfold gM
    by_cases q : 1 ≤ f ∧ f ≤ 40
    · rw [if_pos q]
      by_cases u : (f : Int) < h
      · rw [d2 (f : Int) (by omega) u]; congr 1
      · rw [c (f : Int) (by omega) (by omega), z f (by omega)]
    · rw [if_neg q]
      unfold lay
      by_cases u : 0 < cW W f
      · have := cW_in u; omega
      · rw [if_neg (fun r => u r.1)]
  · exact Or.inr ⟨d1, x, x1, x2, by rw [e x x1]; exact x3⟩
end LJS
/-- how many of a set there are -/
theorem NPC_pop {W : PTG} {S : Int} (hS : 0 ≤ S ∧ S < pt (kk W)) : NPC W S = mPop S 12 := by
  have k := kk_in (W := W)
  have key : ∀ f : Nat, cnt (lay W S) f = mPop S (if cnt (cW W) f ≤ 10 then cnt (cW W) f else 10).toNat := by
    intro f
    induction f with
    | zero => rfl
    | succ f ih =>
      have n := (cnt_in (cW W) f).1
      have c := cnt_s (g := cW W) (f := f + 1) (by omega)
      have l := cnt_s (g := lay W S) (f := f + 1) (by omega)
      rw [Nat.add_sub_cancel] at c l
      by_cases q : 0 < cW W (f + 1) ∧ cnt (cW W) (f + 1) ≤ 10
      · have la := lay_at (W := W) (s := S) q
        have p := mPop_s (s := S) (k := cnt (cW W) f) n
        have b : bt S (cnt (cW W) f) = mBit S (cnt (cW W) f) := rfl
        have b1 : 0 ≤ mBit S (cnt (cW W) f) ∧ mBit S (cnt (cW W) f) ≤ 1 := and1
        rw [show cnt (cW W) (f + 1) - 1 = cnt (cW W) f by omega] at la
        rw [if_pos (by omega)] at ih
        rw [if_pos q.2, show cnt (cW W) (f + 1) = cnt (cW W) f + 1 by omega, p, ← ih]
        omega
      · have z : lay W S (f + 1) = 0 := by unfold lay; rw [if_neg (fun r => q ⟨r.1, r.2.1⟩)]
        rcases (show cW W (f + 1) ≤ 0 ∨ 10 < cnt (cW W) (f + 1) by omega) with u | u
        · rw [show cnt (cW W) (f + 1) = cnt (cW W) f by omega, ← ih]; omega
        · rw [if_neg (by omega)]
          by_cases v : cnt (cW W) f ≤ 10
          · rw [if_pos v, show cnt (cW W) f = 10 by omega] at ih
            omega
          · rw [if_neg v] at ih; omega
  have e := key 40
  show cnt (lay W S) 40 = _
  rw [e]
  exact (mPop_hi hS.1 (K := kk W) hS.2 k.1 12 (by omega) (by omega)).symm
/-- what 'findPlan' has found so far -/
def BMS (W rk : PTG) (s p v : Int) : Prop := (p = -4 ∧ ∀ S, 0 ≤ S ∧ S < s → ¬ FEA W rk S) ∨ ((0 ≤ p ∧ p < s) ∧ FEA W rk p ∧ v = RSK W p ∧ ∀ S, 0 ≤ S ∧ S < s → FEA W rk S → BET W p S)
section BMT
variable {W rk : PTG} {s p v : Int}
theorem BMS_0 {v : Int} : BMS W rk 0 (-4) v := Or.inl ⟨rfl, fun S hS => by omega⟩
theorem BMS_no (H : BMS W rk s p v) (h : ¬ FEA W rk s) : BMS W rk (s + 1) p v := by
  have spl : ∀ S : Int, 0 ≤ S ∧ S < s + 1 → (0 ≤ S ∧ S < s) ∨ S = s := fun S hS => by omega
  rcases H with ⟨a, b⟩ | ⟨a, b, c, d⟩
  · refine Or.inl ⟨a, fun S hS => ?_⟩
    rcases spl S hS with q | q
    · exact b S q
    · rw [q]; exact h
  · refine Or.inr ⟨by omega, b, c, fun S hS hf => ?_⟩
    rcases spl S hS with q | q
    · exact d S q hf
    · rw [q] at hf; exact absurd hf h
theorem BMS_yes {x p' v' : Int} (H : BMS W rk s p v) (h : FEA W rk s) (hs : 0 ≤ s ∧ s < pt (kk W)) (hx : x = RSK W s)
    (hn : (p = -4 ∨ x < v ∨ (x = v ∧ mPop s 12 < mPop p 12)) ∧ p' = s ∧ v' = x ∨ ¬ (p = -4 ∨ x < v ∨ (x = v ∧ mPop s 12 < mPop p 12)) ∧ p' = p ∧ v' = v) : BMS W rk (s + 1) p' v' := by
  have spl : ∀ S : Int, 0 ≤ S ∧ S < s + 1 → (0 ≤ S ∧ S < s) ∨ S = s := fun S hS => by omega
  have ns := NPC_pop (W := W) (S := s) hs
  rcases hn with ⟨n1, n2, n3⟩ | ⟨n1, n2, n3⟩
  · rw [n2, n3]
    refine Or.inr ⟨by omega, h, hx, fun S hS hf => ?_⟩
    rcases spl S hS with q | q
    · rcases H with ⟨a, b⟩ | ⟨a, b, c, d⟩
      · exact absurd hf (b S q)
      · have z := d S q hf
        have np := NPC_pop (W := W) (S := p) ⟨a.1, by omega⟩
        unfold BET at z ⊢
        omega
    · rw [q]; exact Or.inr ⟨rfl, Or.inr ⟨rfl, Int.le_refl _⟩⟩
  · rw [n2, n3]
    rcases H with ⟨a, b⟩ | ⟨a, b, c, d⟩
    · exact absurd (Or.inl a) n1
    · refine Or.inr ⟨by omega, b, c, fun S hS hf => ?_⟩
      rcases spl S hS with q | q
      · exact d S q hf
      · have np := NPC_pop (W := W) (S := p) ⟨a.1, by omega⟩
        rw [q]
        unfold BET
        omega
/-- both have found the same -/
theorem PLN_same {σ : tw_M} (H : PLN W rk σ) (M : BMS W rk (pt (kk W)) p v) : (σ 60 10 = 0 ∧ p = -4) ∨ (σ 60 10 = 1 ∧ ¬ p = -4 ∧ σ 60 8 = p ∧ σ 60 11 = v ∧ (0 ≤ p ∧ p < pt (kk W)) ∧ FEA W rk p ∧ v = RSK W p ∧ RG 67 (lay W p) (fun _ => 0) σ) := by
  rcases H with ⟨a1, a2⟩ | ⟨a1, a2, a3, a4, a5, a6⟩
  · rcases M with ⟨b1, b2⟩ | ⟨b1, b2, b3, b4⟩
    · exact Or.inl ⟨a1, b1⟩
    · exact absurd b2 (a2 p b1)
  · rcases M with ⟨b1, b2⟩ | ⟨b1, b2, b3, b4⟩
    · exact absurd a3 (b2 _ a2)
    · have x := a6 p b1 b2
      have y := b4 _ a2 a3
      have e : σ 60 8 = p := by
        unfold BET at x y
        omega
      refine Or.inr ⟨a1, by omega, e, by rw [a4, b3, e], b1, b2, b3, by rw [e] at a5; exact a5⟩
end BMT
theorem cW_M {σ : tw_M} {h : Int} (h1 : 1 ≤ h ∧ h ≤ σ 91 0) (ht : σ 91 0 ≤ 40) : cW (wM σ) h.toNat = mCr σ h := by
  have r0 : wM σ 100 = σ 91 0 := wM_r (j := 0) (by decide)
  have e := wM_1 (σ := σ) (h := h) ⟨by omega, by omega⟩
  unfold cW
  rw [if_pos (by omega), show ((h.toNat : Nat) : Int) = h by omega, e]
  rfl
theorem nc_cnt {σ : tw_M} (ht : σ 91 0 ≤ 40) : ∀ {n : Nat}, (n : Int) ≤ σ 91 0 → nc σ n = cnt (cW (wM σ)) n
  | 0, _ => rfl
  | n + 1, h => by
    have e := cW_M (σ := σ) (h := ((n + 1 : Nat) : Int)) ⟨by omega, h⟩ ht
    rw [show (((n + 1 : Nat) : Int)).toNat = n + 1 by omega] at e
    simp only [nc, cnt]
    rw [nc_cnt ht (n := n) (by omega), e]
theorem mK_kk {σ : tw_M} (ht : 1 ≤ σ 91 0 ∧ σ 91 0 ≤ 40) : mK σ = kk (wM σ) := by
  have r0 : wM σ 100 = σ 91 0 := wM_r (j := 0) (by decide)
  have z := cW_zero (W := wM σ) (by omega) (n := 40) (by omega)
  rw [r0] at z
  unfold mK kk
  rw [nc_cnt ht.2 (by omega), z]
theorem BM_no0 {W rk : PTG} {s p v r : Int} {m : tw_M} (H : BMS W rk s p v) (Y : LJZ W rk s r m) (hr : r = 0) : BMS W rk (s + 1) p v := by
  refine BMS_no H (fun q => ?_)
  rcases Y with ⟨y1, _⟩ | ⟨y1, x, x1, x2, x3⟩
  · omega
  · have := q.1 x x1 x2
    omega
theorem BM_s {W rk : PTG} {s p v r t x p' v' : Int} {m : tw_M} (hW : WOK W) (H : BMS W rk s p v) (Y : LJZ W rk s r m) (hr : ¬ r = 0) (hs : 0 ≤ s ∧ s < pt (kk W)) (ht : TMs W (gM 300 m) (-4) 1 (W 100 + 1) t) (hx : t = -4 → x = rsk W (gM 300 m) 1023 (W 100).toNat)
    (hn : (t = -4 ∧ (p = -4 ∨ x < v ∨ (x = v ∧ mPop s 12 < mPop p 12)) ∧ p' = s ∧ v' = x) ∨ (¬ (t = -4 ∧ (p = -4 ∨ x < v ∨ (x = v ∧ mPop s 12 < mPop p 12))) ∧ p' = p ∧ v' = v)) : BMS W rk (s + 1) p' v' := by
  rcases Y with ⟨y1, y2, y3, y4⟩ | ⟨y1, _⟩
  · rw [y2] at ht hx
    by_cases q : t = -4
    · have f : FEA W rk s := by
        refine ⟨fun z z1 z2 => by have := y3 z z1 z2; omega, fun h h1 h2 => ?_⟩
        rcases ht with ⟨_, t2⟩ | ⟨t1, _⟩
        · exact t2 h h1 (by omega)
        · omega
      have e : x = RSK W s := hx q
      exact BMS_yes H f hs e (by omega)
    · have f : ¬ FEA W rk s := by
        intro f
        rcases ht with ⟨t1, _⟩ | ⟨t1, t2, t3, _⟩
        · exact q t1
        · have := f.2 t t1 (by omega)
          omega
      have e : p' = p ∧ v' = v := by omega
      rw [e.1, e.2]
      exact BMS_no H f
  · exact absurd y1 hr
theorem MOK_of {rk : PTG} {σ : tw_M} (ht : 1 ≤ σ 91 0) (H : MOB rk 0 σ) : MOK rk σ := by
  obtain ⟨a, b, c⟩ := H
  have e : ∀ f : Int, 1 ≤ f → f ≤ 40 → gM 0 σ f.toNat = σ 89 f.toNat := fun f f1 f2 => by
    have g := gM_at (b := 0) (f := f) (σ := σ) ⟨f1, f2⟩
    rw [show (0 + f).toNat = f.toNat by omega] at g
    exact g
  refine ⟨fun x x1 x2 => ?_, fun f f1 f2 => ?_, fun f f1 f2 f3 => ?_⟩
  · have y2 : σ 89 (0 + 82 + x).toNat + csz (gM 0 σ) x 40 = rk x.toNat ∧ 0 ≤ σ 89 (0 + 82 + x).toNat ∧ rk x.toNat ≤ 5 := a x x1 x2
    rw [show (0 + 82 + x).toNat = (82 + x).toNat by omega] at y2
    exact y2
  · rw [← e f (by omega) f2]; exact b f f1 f2
  · rw [← e f f1 f2] at f3
    have q := c f f1 f2 f3
    rw [qM_at ⟨f1, f2⟩, show (0 + 41 + f).toNat = (41 + f).toNat by omega] at q
    exact q
