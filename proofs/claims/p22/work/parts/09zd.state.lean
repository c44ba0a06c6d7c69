/-! WHAT BOTH KEEP: pieces, slings, the rack. -/
def qM (b : Int) (σ : tw_M) : PTG := fun f => if 1 ≤ f ∧ f ≤ 40 then σ 89 (b + 41 + (f : Int)).toNat else 0
theorem qM_at {b f : Int} {σ : tw_M} (h : 1 ≤ f ∧ f ≤ 40) : qM b σ f.toNat = σ 89 (b + 41 + f).toNat := by
  unfold qM
  rw [if_pos (by omega), show ((f.toNat : Nat) : Int) = f by omega]
theorem qM_F {b b' : Int} {σ τ : tw_M} (h : ∀ f : Int, 1 ≤ f → f ≤ 40 → τ 89 (b' + 41 + f).toNat = σ 89 (b + 41 + f).toNat) : qM b' τ = qM b σ := by
  funext f
  unfold qM
  by_cases q : 1 ≤ f ∧ f ≤ 40
  · rw [if_pos q, if_pos q]; exact h _ (by omega) (by omega)
  · rw [if_neg q, if_neg q]
theorem RG_q {o : Nat} {g q q' : PTG} {σ : tw_M} (H : RG o g q σ) (h : ∀ f, 0 < g f → q' f = q f) : RG o g q' σ := by
  obtain ⟨a, b, c, d⟩ := H
  refine ⟨a, fun i hi => ?_, c, d⟩
  obtain ⟨b1, b2, b3, b4, b5⟩ := b i hi
  exact ⟨b1, b2, b3, b4, by rw [h _ (by omega)]; exact b5⟩
/-- the rack with all pieces of a row back in it -/
def CON (rk g : PTG) (R : Int → Int) : Prop := ∀ x : Int, 1 ≤ x → x ≤ 10 → R x + csz g x 40 = rk x.toNat ∧ 0 ≤ R x ∧ rk x.toNat ≤ 5
def MOB (rk : PTG) (b : Int) (σ : tw_M) : Prop := CON rk (gM b σ) (fun x => σ 89 (b + 82 + x).toNat) ∧ (∀ f : Int, σ 91 0 < f → f ≤ 40 → gM b σ f.toNat = 0) ∧ (∀ f : Int, 1 ≤ f → f ≤ 40 → gM b σ f.toNat = 0 → qM b σ f.toNat = 0)
theorem MOB_c {rk : PTG} {b b' : Int} {σ τ : tw_M} (H : MOB rk b σ) (h : ∀ j : Int, 1 ≤ j → j < 93 → τ 89 (b' + j).toNat = σ 89 (b + j).toNat) (h2 : τ 91 0 = σ 91 0) : MOB rk b' τ := by
  have e : gM b' τ = gM b σ := gM_F (fun f f1 f2 => h f f1 (by omega))
  have e2 : qM b' τ = qM b σ := qM_F (fun f f1 f2 => by have := h (41 + f) (by omega) (by omega); rw [show b' + 41 + f = b' + (41 + f) by omega, show b + 41 + f = b + (41 + f) by omega]; exact this)
  obtain ⟨a, c, d⟩ := H
  refine ⟨fun x x1 x2 => ?_, by rw [e, h2]; exact c, by rw [e, e2]; exact d⟩
  have y := a x x1 x2
  have z := h (82 + x) (by omega) (by omega)
  have k : τ 89 (b' + 82 + x).toNat = σ 89 (b + 82 + x).toNat := by rw [show b' + 82 + x = b' + (82 + x) by omega, show b + 82 + x = b + (82 + x) by omega]; exact z
  show τ 89 (b' + 82 + x).toNat + csz (gM b' τ) x 40 = _ ∧ 0 ≤ τ 89 (b' + 82 + x).toNat ∧ _
  rw [k, e]
  exact y
/-- a hand and what the reference keeps for it -/
def HR (rk : PTG) (u : Nat) (b : Int) (σ : tw_M) : Prop := RG (u + 1) (gM b σ) (qM b σ) σ ∧ (∀ x : Int, 1 ≤ x → x ≤ 10 → σ (u + 5) x.toNat = σ 89 (b + 82 + x).toNat) ∧ MOB rk b σ
theorem HR_c {rk : PTG} {u u' : Nat} {b b' : Int} {σ τ : tw_M} (H : HR rk u b σ) (h0 : τ (u' + 1) 0 = σ (u + 1) 0) (h1 : ∀ k j : Nat, 1 ≤ k → k < 4 → j < 10 → τ (u' + 1 + k) j = σ (u + 1 + k) j) (h5 : ∀ x : Int, 1 ≤ x → x ≤ 10 → τ (u' + 5) x.toNat = σ (u + 5) x.toNat)
    (h : ∀ j : Int, 1 ≤ j → j < 93 → τ 89 (b' + j).toNat = σ 89 (b + j).toNat) (h2 : τ 91 0 = σ 91 0) : HR rk u' b' τ := by
  have e : gM b' τ = gM b σ := gM_F (fun f f1 f2 => h f f1 (by omega))
  have e2 : qM b' τ = qM b σ := qM_F (fun f f1 f2 => by have := h (41 + f) (by omega) (by omega); rw [show b' + 41 + f = b' + (41 + f) by omega, show b + 41 + f = b + (41 + f) by omega]; exact this)
  obtain ⟨a, c, d⟩ := H
  refine ⟨by rw [e, e2]; exact RG_copy a h0 h1, fun x x1 x2 => ?_, MOB_c d h h2⟩
  have z := h (82 + x) (by omega) (by omega)
  rw [h5 x x1 x2, c x x1 x2, show b' + 82 + x = b' + (82 + x) by omega, z, show b + 82 + x = b + (82 + x) by omega]
theorem HR_F {rk : PTG} {u : Nat} {b : Int} {σ τ : tw_M} (H : HR rk u b σ) (h1 : ∀ c j : Nat, u < c → c < u + 6 → τ c j = σ c j) (h : ∀ j : Int, 1 ≤ j → j < 93 → τ 89 (b + j).toNat = σ 89 (b + j).toNat) (h2 : τ 91 0 = σ 91 0) : HR rk u b τ :=
  HR_c H (h1 _ _ (by omega) (by omega)) (fun k j k1 k2 _ => h1 _ _ (by omega) (by omega)) (fun x _ _ => h1 _ _ (by omega) (by omega)) h h2
/-- why a piece may not be put; 0: it may -/
def whyS (W : PTG) (gh n rs h s : Int) : Int := if ¬ (1 ≤ h ∧ h ≤ W 100 ∧ 1 ≤ s ∧ s ≤ 10) then -1 else if wC W h = 0 ∨ ¬ gh = 0 ∨ 1 < s - wC W h ∨ 1 < wC W h - s then -2 else if 10 ≤ n then -3 else if rs = 0 then -4 else 0
section WHY
variable {W : PTG} {gh n rs h s : Int}
theorem why_1 (a : ¬ (1 ≤ h ∧ h ≤ W 100 ∧ 1 ≤ s ∧ s ≤ 10)) : whyS W gh n rs h s = -1 := if_pos a
theorem why_2 (a : 1 ≤ h ∧ h ≤ W 100 ∧ 1 ≤ s ∧ s ≤ 10) (b : wC W h = 0 ∨ ¬ gh = 0 ∨ 1 < s - wC W h ∨ 1 < wC W h - s) : whyS W gh n rs h s = -2 := by
  unfold whyS
  rw [if_neg (fun q => q a), if_pos b]
theorem why_3 (a : 1 ≤ h ∧ h ≤ W 100 ∧ 1 ≤ s ∧ s ≤ 10) (b : ¬ (wC W h = 0 ∨ ¬ gh = 0 ∨ 1 < s - wC W h ∨ 1 < wC W h - s)) (c : 10 ≤ n) : whyS W gh n rs h s = -3 := by
  unfold whyS
  rw [if_neg (fun q => q a), if_neg b, if_pos c]
theorem why_4 (a : 1 ≤ h ∧ h ≤ W 100 ∧ 1 ≤ s ∧ s ≤ 10) (b : ¬ (wC W h = 0 ∨ ¬ gh = 0 ∨ 1 < s - wC W h ∨ 1 < wC W h - s)) (c : ¬ 10 ≤ n) (d : rs = 0) : whyS W gh n rs h s = -4 := by
  unfold whyS
  rw [if_neg (fun q => q a), if_neg b, if_neg c, if_pos d]
theorem why_0 (a : 1 ≤ h ∧ h ≤ W 100 ∧ 1 ≤ s ∧ s ≤ 10) (b : ¬ (wC W h = 0 ∨ ¬ gh = 0 ∨ 1 < s - wC W h ∨ 1 < wC W h - s)) (c : ¬ 10 ≤ n) (d : ¬ rs = 0) : whyS W gh n rs h s = 0 := by
  unfold whyS
  rw [if_neg (fun q => q a), if_neg b, if_neg c, if_neg d]
theorem why_ok (e : whyS W gh n rs h s = 0) : (1 ≤ h ∧ h ≤ W 100 ∧ 1 ≤ s ∧ s ≤ 10) ∧ ¬ (wC W h = 0 ∨ ¬ gh = 0 ∨ 1 < s - wC W h ∨ 1 < wC W h - s) ∧ ¬ 10 ≤ n ∧ ¬ rs = 0 := by
  unfold whyS at e
  by_cases a : 1 ≤ h ∧ h ≤ W 100 ∧ 1 ≤ s ∧ s ≤ 10
  · rw [if_neg (fun q => q a)] at e
    by_cases b : wC W h = 0 ∨ ¬ gh = 0 ∨ 1 < s - wC W h ∨ 1 < wC W h - s
    · rw [if_pos b] at e; omega
    · rw [if_neg b] at e
      by_cases c : 10 ≤ n
      · rw [if_pos c] at e; omega
      · rw [if_neg c] at e
        by_cases d : rs = 0
        · rw [if_pos d] at e; omega
        · exact ⟨a, b, c, d⟩
  · rw [if_pos a] at e; omega
theorem why_in : -4 ≤ whyS W gh n rs h s ∧ whyS W gh n rs h s ≤ 0 := by
  unfold whyS
  repeat' split
  all_goals omega
end WHY
theorem csz_po {g : PTG} {s : Int} {h : Nat} (h1 : 1 ≤ h) (hg : g h = s) (hs : ¬ s = 0) {n : Nat} (hn : h ≤ n) : csz (pg g h 0) s n + 1 = csz g s n := by
  have e : g = pg (pg g h 0) h s := by
    funext f
    by_cases q : f = h
    · rw [q, pg_eq, hg]
    · rw [pg_ne q, pg_ne q]
  have k := csz_pg (g := pg g h 0) (s := s) (h := h) h1 (by rw [pg_eq]; exact fun z => hs z.symm) hn
  rw [← e] at k
  omega
/-- a piece is put by both -/
theorem HR_put {rk : PTG} {σ τ : tw_M} {h s : Int} (H : HR rk 23 0 σ) (hh : 1 ≤ h ∧ h ≤ σ 91 0) (ht : σ 91 0 ≤ 40) (hs : 1 ≤ s ∧ s ≤ 10) (hg : gM 0 σ h.toNat = 0)
    (hR : RG 24 (pg (gM 0 σ) h.toNat s) (pg (qM 0 σ) h.toNat 0) τ) (c1 : τ 28 s.toNat = σ 28 s.toNat - 1) (c2 : ∀ j : Nat, ¬ j = s.toNat → τ 28 j = σ 28 j) (hp : ¬ σ 28 s.toNat = 0)
    (m1 : τ 89 h.toNat = s) (m2 : τ 89 (41 + h).toNat = 0) (m3 : τ 89 (82 + s).toNat = σ 89 (82 + s).toNat - 1) (m4 : ∀ j : Nat, ¬ j = h.toNat → ¬ j = (41 + h).toNat → ¬ j = (82 + s).toNat → j < 93 → τ 89 j = σ 89 j) (m5 : τ 91 0 = σ 91 0) : HR rk 23 0 τ := by
  obtain ⟨a, b, c⟩ := H
  have eg : gM 0 τ = pg (gM 0 σ) h.toNat s := by
    funext f
    by_cases q : f = h.toNat
    · have e := gM_at (b := 0) (f := h) (σ := τ) ⟨hh.1, by omega⟩
      rw [show (0 + h).toNat = h.toNat by omega] at e
      rw [q, pg_eq, e, m1]
    · rw [pg_ne q]
      unfold gM
      by_cases z : 1 ≤ f ∧ f ≤ 40
      · rw [if_pos z, if_pos z]
        exact m4 _ (by omega) (by omega) (by omega) (by omega)
      · rw [if_neg z, if_neg z]
  have eq : qM 0 τ = pg (qM 0 σ) h.toNat 0 := by
    funext f
    by_cases q : f = h.toNat
    · have e := qM_at (b := 0) (f := h) (σ := τ) ⟨hh.1, by omega⟩
      rw [show (0 + 41 + h).toNat = (41 + h).toNat by omega] at e
      rw [q, pg_eq, e, m2]
    · rw [pg_ne q]
      unfold qM
      by_cases z : 1 ≤ f ∧ f ≤ 40
      · rw [if_pos z, if_pos z]
        exact m4 _ (by omega) (by omega) (by omega) (by omega)
      · rw [if_neg z, if_neg z]
  have rr : ∀ x : Int, 1 ≤ x → x ≤ 10 → τ 89 (0 + 82 + x).toNat = σ 89 (0 + 82 + x).toNat - (if x = s then 1 else 0) := by
    intro x x1 x2
    by_cases q : x = s
    · subst q
      rw [if_pos rfl, show (0 + 82 + x).toNat = (82 + x).toNat by omega]; exact m3
    · rw [if_neg q, m4 _ (by omega) (by omega) (by omega) (by omega)]; omega
  refine ⟨by rw [eg, eq]; exact hR, fun x x1 x2 => ?_, fun x x1 x2 => ?_, fun f f1 f2 => ?_, fun f f1 f2 f3 => ?_⟩
  · rw [rr x x1 x2]
    have y : σ 28 x.toNat = σ 89 (0 + 82 + x).toNat := b x x1 x2
    by_cases q : x = s
    · subst q
      rw [if_pos rfl, c1]; omega
    · rw [if_neg q, c2 _ (by omega)]; omega
  · have y := c.1 x x1 x2
    have k : σ 28 x.toNat = σ 89 (0 + 82 + x).toNat := b x x1 x2
    show τ 89 (0 + 82 + x).toNat + csz (gM 0 τ) x 40 = _ ∧ 0 ≤ τ 89 (0 + 82 + x).toNat ∧ _
    have y2 : σ 89 (0 + 82 + x).toNat + csz (gM 0 σ) x 40 = rk x.toNat ∧ 0 ≤ σ 89 (0 + 82 + x).toNat ∧ rk x.toNat ≤ 5 := y
    rw [rr x x1 x2, eg]
    by_cases q : x = s
    · subst q
      rw [if_pos rfl, csz_pg (by omega) (by omega) (by omega)]
      omega
    · rw [if_neg q, csz_pn (by omega) (fun z => q z.symm)]
      omega
  · rw [eg, pg_ne (by omega)]
    exact c.2.1 f (by omega) f2
  · rw [eg] at f3
    rw [eq]
    by_cases q : f.toNat = h.toNat
    · rw [q, pg_eq]
    · rw [pg_ne q] at f3 ⊢
      exact c.2.2 f f1 f2 f3
/-- a piece is taken by both -/
theorem HR_take {rk : PTG} {σ τ : tw_M} {h s : Int} (H : HR rk 23 0 σ) (hh : 1 ≤ h ∧ h ≤ σ 91 0) (ht : σ 91 0 ≤ 40) (hg : gM 0 σ h.toNat = s) (hs : 1 ≤ s ∧ s ≤ 10)
    (hR : RG 24 (pg (gM 0 σ) h.toNat 0) (qM 0 σ) τ) (c1 : τ 28 s.toNat = σ 28 s.toNat + 1) (c2 : ∀ j : Nat, ¬ j = s.toNat → τ 28 j = σ 28 j)
    (m1 : τ 89 h.toNat = 0) (m2 : τ 89 (41 + h).toNat = 0) (m3 : τ 89 (82 + s).toNat = σ 89 (82 + s).toNat + 1) (m4 : ∀ j : Nat, ¬ j = h.toNat → ¬ j = (41 + h).toNat → ¬ j = (82 + s).toNat → j < 93 → τ 89 j = σ 89 j) (m5 : τ 91 0 = σ 91 0) : HR rk 23 0 τ := by
  obtain ⟨a, b, c⟩ := H
  have eg : gM 0 τ = pg (gM 0 σ) h.toNat 0 := by
    funext f
    by_cases q : f = h.toNat
    · have e := gM_at (b := 0) (f := h) (σ := τ) ⟨hh.1, by omega⟩
      rw [show (0 + h).toNat = h.toNat by omega] at e
      rw [q, pg_eq, e, m1]
    · rw [pg_ne q]
      unfold gM
      by_cases z : 1 ≤ f ∧ f ≤ 40
      · rw [if_pos z, if_pos z]
        exact m4 _ (by omega) (by omega) (by omega) (by omega)
      · rw [if_neg z, if_neg z]
  have eq : qM 0 τ = pg (qM 0 σ) h.toNat 0 := by
    funext f
    by_cases q : f = h.toNat
    · have e := qM_at (b := 0) (f := h) (σ := τ) ⟨hh.1, by omega⟩
      rw [show (0 + 41 + h).toNat = (41 + h).toNat by omega] at e
      rw [q, pg_eq, e, m2]
    · rw [pg_ne q]
      unfold qM
      by_cases z : 1 ≤ f ∧ f ≤ 40
      · rw [if_pos z, if_pos z]
        exact m4 _ (by omega) (by omega) (by omega) (by omega)
      · rw [if_neg z, if_neg z]
  have rr : ∀ x : Int, 1 ≤ x → x ≤ 10 → τ 89 (0 + 82 + x).toNat = σ 89 (0 + 82 + x).toNat + (if x = s then 1 else 0) := by
    intro x x1 x2
    by_cases q : x = s
    · subst q
      rw [if_pos rfl, show (0 + 82 + x).toNat = (82 + x).toNat by omega]; exact m3
    · rw [if_neg q, m4 _ (by omega) (by omega) (by omega) (by omega)]; omega
  refine ⟨?_, fun x x1 x2 => ?_, fun x x1 x2 => ?_, fun f f1 f2 => ?_, fun f f1 f2 f3 => ?_⟩
  · rw [eg, eq]
    exact RG_q hR (fun f hf => by
      by_cases q : f = h.toNat
      · rw [q, pg_eq] at hf; omega
      · rw [pg_ne q])
  · rw [rr x x1 x2]
    have y : σ 28 x.toNat = σ 89 (0 + 82 + x).toNat := b x x1 x2
    by_cases q : x = s
    · subst q
      rw [if_pos rfl, c1]; omega
    · rw [if_neg q, c2 _ (by omega)]; omega
  · show τ 89 (0 + 82 + x).toNat + csz (gM 0 τ) x 40 = _ ∧ 0 ≤ τ 89 (0 + 82 + x).toNat ∧ _
    have y2 : σ 89 (0 + 82 + x).toNat + csz (gM 0 σ) x 40 = rk x.toNat ∧ 0 ≤ σ 89 (0 + 82 + x).toNat ∧ rk x.toNat ≤ 5 := c.1 x x1 x2
    rw [rr x x1 x2, eg]
    by_cases q : x = s
    · subst q
      have k := csz_po (g := gM 0 σ) (s := x) (h := h.toNat) (by omega) hg (by omega) (n := 40) (by omega)
      rw [if_pos rfl]
      omega
    · rw [if_neg q, csz_pn (by omega) (by omega)]
      omega
  · rw [eg, pg_ne (by omega)]
    exact c.2.1 f (by omega) f2
  · rw [eg] at f3
    rw [eq]
    by_cases q : f.toNat = h.toNat
    · rw [q, pg_eq]
    · rw [pg_ne q] at f3 ⊢
      exact c.2.2 f f1 f2 f3
/-- a sling, by both -/
theorem HR_sling {rk : PTG} {σ τ : tw_M} {h v : Int} (H : HR rk 23 0 σ) (hh : 1 ≤ h ∧ h ≤ σ 91 0) (ht : σ 91 0 ≤ 40) (hg : ¬ gM 0 σ h.toNat = 0)
    (hR : RG 24 (gM 0 σ) (pg (qM 0 σ) h.toNat v) τ) (c2 : ∀ j : Nat, τ 28 j = σ 28 j)
    (m2 : τ 89 (41 + h).toNat = v) (m4 : ∀ j : Nat, ¬ j = (41 + h).toNat → j < 93 → τ 89 j = σ 89 j) (m5 : τ 91 0 = σ 91 0) : HR rk 23 0 τ := by
  obtain ⟨a, b, c⟩ := H
  have eg : gM 0 τ = gM 0 σ := gM_F (fun f f1 f2 => m4 _ (by omega) (by omega))
  have eq : qM 0 τ = pg (qM 0 σ) h.toNat v := by
    funext f
    by_cases q : f = h.toNat
    · have e := qM_at (b := 0) (f := h) (σ := τ) ⟨hh.1, by omega⟩
      rw [show (0 + 41 + h).toNat = (41 + h).toNat by omega] at e
      rw [q, pg_eq, e, m2]
    · rw [pg_ne q]
      unfold qM
      by_cases z : 1 ≤ f ∧ f ≤ 40
      · rw [if_pos z, if_pos z]
        exact m4 _ (by omega) (by omega)
      · rw [if_neg z, if_neg z]
  have rr : ∀ x : Int, 1 ≤ x → x ≤ 10 → τ 89 (0 + 82 + x).toNat = σ 89 (0 + 82 + x).toNat := fun x x1 x2 => m4 _ (by omega) (by omega)
  refine ⟨by rw [eg, eq]; exact hR, fun x x1 x2 => by rw [rr x x1 x2, c2]; exact b x x1 x2, fun x x1 x2 => ?_, fun f f1 f2 => by rw [eg]; exact c.2.1 f (by omega) f2, fun f f1 f2 f3 => ?_⟩
  · show τ 89 (0 + 82 + x).toNat + csz (gM 0 τ) x 40 = _ ∧ 0 ≤ τ 89 (0 + 82 + x).toNat ∧ _
    rw [rr x x1 x2, eg]
    exact c.1 x x1 x2
  · rw [eg] at f3
    rw [eq]
    by_cases q : f.toNat = h.toNat
    · rw [q] at f3; exact absurd f3 hg
    · rw [pg_ne q]
      exact c.2.2 f f1 f2 f3
/-- all is laid anew by both: what stands is g, no slings -/
theorem HR_new {rk g : PTG} {τ : tw_M} (hg : gM 0 τ = g) (hq : ∀ f : Int, 1 ≤ f → f ≤ 40 → τ 89 (41 + f).toNat = 0) (hR : RG 24 g (fun _ => 0) τ) (hc : ∀ x : Int, 1 ≤ x → x ≤ 10 → τ 28 x.toNat = rk x.toNat - csz g x 40 ∧ τ 89 (82 + x).toNat = rk x.toNat - csz g x 40 ∧ csz g x 40 ≤ rk x.toNat ∧ rk x.toNat ≤ 5)
    (ht : ∀ f : Int, τ 91 0 < f → f ≤ 40 → g f.toNat = 0) : HR rk 23 0 τ := by
  have eq : qM 0 τ = fun _ => 0 := by
    funext f
    unfold qM
    by_cases z : 1 ≤ f ∧ f ≤ 40
    · rw [if_pos z, show (0 + 41 + (f : Int)).toNat = (41 + (f : Int)).toNat by omega]; exact hq _ (by omega) (by omega)
    · rw [if_neg z]
  have e : ∀ x : Int, (0 + 82 + x).toNat = (82 + x).toNat := fun x => by omega
  refine ⟨by rw [hg, eq]; exact hR, fun x x1 x2 => ?_, fun x x1 x2 => ?_, by rw [hg]; exact ht, fun f f1 f2 f3 => by rw [eq]⟩
  · show τ 28 x.toNat = _
    rw [e]; have := hc x x1 x2; omega
  · show τ 89 (0 + 82 + x).toNat + csz (gM 0 τ) x 40 = _ ∧ 0 ≤ τ 89 (0 + 82 + x).toNat ∧ _
    rw [e, hg]
    have := hc x x1 x2
    omega
/-- a rack at a cell -/
def CNR (rk g : PTG) (c : Nat) (σ : tw_M) : Prop := CON rk g (fun x => σ c x.toNat)
theorem RG_none {σ : tw_M} {o : Nat} {g q : PTG} (H : RG o g q σ) (h0 : σ o 0 = 0) : g = fun _ => 0 := by
  funext f
  rcases H.2.2.2 f with d | ⟨d1, i, d2, d3⟩
  · exact d
  · omega
theorem csz_0 {s : Int} (hs : ¬ s = 0) : ∀ n : Nat, csz (fun _ => (0 : Int)) s n = 0
  | 0 => rfl
  | n + 1 => by
    simp only [csz]
    rw [csz_0 hs n, if_neg (fun z => hs z.symm)]
    rfl
/-- a sling changes -/
theorem RG_sl {σ τ : tw_M} {o : Nat} {g q : PTG} {h k v : Int} (H : RG o g q σ) (hg : 0 < g h.toNat) (hk : k = cnt g h.toNat - 1) (e : τ = tw_up σ (o + 3) k.toNat v) : RG o g (pg q h.toNat v) τ ∧ σ (o + 3) k.toNat = q h.toNat := by
  have t := RG_at H hg
  obtain ⟨a, b, c, d⟩ := H
  have f1 : ∀ x j, ¬ x = o + 3 → τ x j = σ x j := fun x j hx => tw_ne1 e (Or.inl hx)
  refine ⟨⟨by rw [f1 o 0 (by omega)]; exact a, fun i hi => ?_, fun i j hij hj => ?_, fun f => ?_⟩, by rw [hk]; exact t.2.2.2.2⟩
  · rw [f1 o 0 (by omega)] at hi
    obtain ⟨b1, b2, b3, b4, b5⟩ := b i hi
    rw [f1 (o + 1) i (by omega), f1 (o + 2) i (by omega)]
    refine ⟨b1, b2, b3, b4, ?_⟩
    by_cases z : i = k.toNat
    · rw [tw_eq2 e z, z, hk, t.2.2.1, show ((h.toNat : Nat) : Int).toNat = h.toNat by omega, pg_eq]
    · rw [tw_ne1 e (Or.inr z), pg_ne (fun w => ?_)]
      · exact b5
      · have c1 : σ (o + 1) i = σ (o + 1) k.toNat := by rw [hk, t.2.2.1]; omega
        rcases (show i < k.toNat ∨ k.toNat < i by omega) with u | u
        · have := c i k.toNat u (by omega); omega
        · have := c k.toNat i u hi; omega
  · rw [f1 o 0 (by omega)] at hj
    rw [f1 (o + 1) i (by omega), f1 (o + 1) j (by omega)]
    exact c i j hij hj
  · rcases d f with d | ⟨d1, i, d2, d3⟩
    · exact Or.inl d
    · exact Or.inr ⟨d1, i, by rw [f1 o 0 (by omega)]; exact d2, by rw [f1 (o + 1) i (by omega)]; exact d3⟩
/-- in the midst of taking all out -/
def TAI (rk q : PTG) (u : Nat) (k : Int) (σ : tw_M) : Prop := ∃ g : PTG, RG (u + 1) g q σ ∧ CNR rk g (u + 5) σ ∧ σ (u + 1) 0 = k + 1
theorem TAI_s {rk q : PTG} {u : Nat} {k : Int} {σ τ : tw_M} (H : TAI rk q u k σ) (hk : 0 ≤ k)
    (hr : ∀ gg qq : Nat → Int, RG (u + 1) gg qq σ → 0 ≤ k → k < σ (u + 1) 0 → σ (u + 5) (σ (u + 3) k.toNat).toNat ≤ 1000 → 0 ≤ σ (u + 5) (σ (u + 3) k.toNat).toNat → RG (u + 1) (pg gg (σ (u + 2) k.toNat).toNat 0) qq τ ∧ τ (u + 5) (σ (u + 3) k.toNat).toNat = σ (u + 5) (σ (u + 3) k.toNat).toNat + 1 ∧ ∀ j : Nat, ¬ j = (σ (u + 3) k.toNat).toNat → τ (u + 5) j = σ (u + 5) j)
    (hs : ∀ i : Nat, σ (u + 3) i ≤ 10) : TAI rk q u (k - 1) τ := by
  obtain ⟨g, a, b, c⟩ := H
  obtain ⟨e1, e2, e3, e4, e5⟩ := a.2.1 k.toNat (by omega)
  have e3' : 1 ≤ σ (u + 3) k.toNat := e3
  have e4' : g (σ (u + 2) k.toNat).toNat = σ (u + 3) k.toNat := e4
  have e1' : 1 ≤ σ (u + 2) k.toNat ∧ σ (u + 2) k.toNat ≤ 40 := ⟨e1, e2⟩
  have s10 := hs k.toNat
  have b0 : σ (u + 5) (σ (u + 3) k.toNat).toNat + csz g (σ (u + 3) k.toNat) 40 = rk (σ (u + 3) k.toNat).toNat ∧ 0 ≤ σ (u + 5) (σ (u + 3) k.toNat).toNat ∧ rk (σ (u + 3) k.toNat).toNat ≤ 5 := b _ e3' s10
  have n0 := csz_nn (g := g) (s := σ (u + 3) k.toNat) 40
  obtain ⟨r1, r2, r3⟩ := hr g q a hk (by omega) (by omega) b0.2.1
  have n1 := RG_all40 a
  have n2 := RG_all40 r1
  have cc : cnt (pg g (σ (u + 2) k.toNat).toNat 0) 40 + 1 = cnt g 40 := by
    have key : ∀ n : Nat, (σ (u + 2) k.toNat).toNat ≤ n → cnt (pg g (σ (u + 2) k.toNat).toNat 0) n + 1 = cnt g n := by
      intro n
      induction n with
      | zero => intro h; omega
      | succ n ih =>
        intro h
        by_cases z : (σ (u + 2) k.toNat).toNat = n + 1
        · have e : cnt (pg g (σ (u + 2) k.toNat).toNat 0) n = cnt g n := cnt_congr (fun f f1 f2 => pg_ne (by omega))
          simp only [cnt]
          rw [e, ← z, pg_eq, if_neg (by omega), if_pos (by omega)]
          omega
        · have := ih (by omega)
          simp only [cnt]
          rw [pg_ne (fun w => z w.symm)]
          omega
    exact key 40 (by omega)
  refine ⟨_, r1, fun x x1 x2 => ?_, by omega⟩
  show τ (u + 5) x.toNat + csz (pg g (σ (u + 2) k.toNat).toNat 0) x 40 = _ ∧ 0 ≤ τ (u + 5) x.toNat ∧ _
  have bx : σ (u + 5) x.toNat + csz g x 40 = rk x.toNat ∧ 0 ≤ σ (u + 5) x.toNat ∧ rk x.toNat ≤ 5 := b x x1 x2
  by_cases z : x = σ (u + 3) k.toNat
  · have k1 := csz_po (g := g) (s := x) (h := (σ (u + 2) k.toNat).toNat) (by omega) (by rw [z]; exact e4') (by omega) (n := 40) (by omega)
    rw [← z] at r2
    omega
  · rw [csz_pn (by rw [e4']; exact fun w => z w.symm) (by omega), r3 x.toNat (by omega)]
    exact bx
theorem TAI_end {rk q : PTG} {u : Nat} {k : Int} {σ : tw_M} (H : TAI rk q u k σ) (hk : k = -1) : σ (u + 1) 0 = 0 ∧ ∀ x : Int, 1 ≤ x → x ≤ 10 → σ (u + 5) x.toNat = rk x.toNat := by
  obtain ⟨g, a, b, c⟩ := H
  have h0 : σ (u + 1) 0 = 0 := by omega
  refine ⟨h0, fun x x1 x2 => ?_⟩
  have bx : σ (u + 5) x.toNat + csz g x 40 = rk x.toNat ∧ 0 ≤ σ (u + 5) x.toNat ∧ rk x.toNat ≤ 5 := b x x1 x2
  rw [RG_none a h0, csz_0 (by omega) 40] at bx
  omega
/-- the reference takes one -/
theorem MOB_take {rk : PTG} {σ τ : tw_M} {h s : Int} (H : MOB rk 0 σ) (hh : 1 ≤ h ∧ h ≤ 40) (hs : 1 ≤ s ∧ s ≤ 10) (hg : σ 89 h.toNat = s)
    (m1 : τ 89 h.toNat = 0) (m2 : τ 89 (41 + h).toNat = 0) (m3 : τ 89 (82 + s).toNat = σ 89 (82 + s).toNat + 1) (m4 : ∀ j : Nat, ¬ j = h.toNat → ¬ j = (41 + h).toNat → ¬ j = (82 + s).toNat → τ 89 j = σ 89 j) (m5 : τ 91 0 = σ 91 0) : MOB rk 0 τ := by
  have eg0 : gM 0 σ h.toNat = s := by
    have e := gM_at (b := 0) (f := h) (σ := σ) hh
    rw [show (0 + h).toNat = h.toNat by omega] at e
    rw [e]; exact hg
  have eg : gM 0 τ = pg (gM 0 σ) h.toNat 0 := by
    funext f
    by_cases q : f = h.toNat
    · have e := gM_at (b := 0) (f := h) (σ := τ) hh
      rw [show (0 + h).toNat = h.toNat by omega] at e
      rw [q, pg_eq, e, m1]
    · rw [pg_ne q]
      unfold gM
      by_cases z : 1 ≤ f ∧ f ≤ 40
      · rw [if_pos z, if_pos z]
        exact m4 _ (by omega) (by omega) (by omega)
      · rw [if_neg z, if_neg z]
  have eq : qM 0 τ = pg (qM 0 σ) h.toNat 0 := by
    funext f
    by_cases q : f = h.toNat
    · have e := qM_at (b := 0) (f := h) (σ := τ) hh
      rw [show (0 + 41 + h).toNat = (41 + h).toNat by omega] at e
      rw [q, pg_eq, e, m2]
    · rw [pg_ne q]
      unfold qM
      by_cases z : 1 ≤ f ∧ f ≤ 40
      · rw [if_pos z, if_pos z]
        exact m4 _ (by omega) (by omega) (by omega)
      · rw [if_neg z, if_neg z]
  obtain ⟨c1, c2, c3⟩ := H
  refine ⟨fun x x1 x2 => ?_, fun f f1 f2 => ?_, fun f f1 f2 f3 => ?_⟩
  · show τ 89 (0 + 82 + x).toNat + csz (gM 0 τ) x 40 = _ ∧ 0 ≤ τ 89 (0 + 82 + x).toNat ∧ _
    have y2 : σ 89 (0 + 82 + x).toNat + csz (gM 0 σ) x 40 = rk x.toNat ∧ 0 ≤ σ 89 (0 + 82 + x).toNat ∧ rk x.toNat ≤ 5 := c1 x x1 x2
    rw [show (0 + 82 + x).toNat = (82 + x).toNat by omega] at y2 ⊢
    rw [eg]
    by_cases q : x = s
    · subst q
      have k := csz_po (g := gM 0 σ) (s := x) (h := h.toNat) (by omega) eg0 (by omega) (n := 40) (by omega)
      omega
    · rw [csz_pn (by omega) (by omega), m4 _ (by omega) (by omega) (by omega)]
      exact y2
  · rw [eg]
    by_cases q : f.toNat = h.toNat
    · rw [q, pg_eq]
    · rw [pg_ne q]; exact c2 f (by omega) f2
  · rw [eg] at f3
    rw [eq]
    by_cases q : f.toNat = h.toNat
    · rw [q, pg_eq]
    · rw [pg_ne q] at f3 ⊢
      exact c3 f f1 f2 f3
theorem MOB_strip {rk : PTG} {σ : tw_M} (H : MOB rk 0 σ) (h : ∀ f : Int, 1 ≤ f → f ≤ σ 91 0 → σ 89 f.toNat = 0) : gM 0 σ = (fun _ => 0) ∧ (∀ f : Int, 1 ≤ f → f ≤ 40 → σ 89 (41 + f).toNat = 0) ∧ ∀ x : Int, 1 ≤ x → x ≤ 10 → σ 89 (82 + x).toNat = rk x.toNat := by
  obtain ⟨c1, c2, c3⟩ := H
  have e : gM 0 σ = fun _ => 0 := by
    funext f
    by_cases z : 1 ≤ f ∧ f ≤ 40
    · have g := gM_at (b := 0) (f := (f : Int)) (σ := σ) ⟨by omega, by omega⟩
      rw [show ((f : Nat) : Int).toNat = f by omega, show (0 + (f : Int)).toNat = f by omega] at g
      by_cases q : (f : Int) ≤ σ 91 0
      · have := h (f : Int) (by omega) q
        rw [show ((f : Nat) : Int).toNat = f by omega] at this
        omega
      · have := c2 (f : Int) (by omega) (by omega)
        rw [show ((f : Nat) : Int).toNat = f by omega] at this
        exact this
    · unfold gM; rw [if_neg z]
  refine ⟨e, fun f f1 f2 => ?_, fun x x1 x2 => ?_⟩
  · have q := c3 f f1 f2 (by rw [e])
    rw [qM_at ⟨f1, f2⟩, show (0 + 41 + f).toNat = (41 + f).toNat by omega] at q
    exact q
  · have y2 : σ 89 (0 + 82 + x).toNat + csz (gM 0 σ) x 40 = rk x.toNat ∧ 0 ≤ σ 89 (0 + 82 + x).toNat ∧ rk x.toNat ≤ 5 := c1 x x1 x2
    rw [e, csz_0 (by omega) 40, show (0 + 82 + x).toNat = (82 + x).toNat by omega] at y2
    omega
def lrn (h n : Int) : Int := tw_div (tw_w32 (tw_w32 (40 * h) + n)) (2 * n)
/-- a cell's number in a lane -/
def nrw (l v : Int) : Int := if l = 0 then tw_i2b v else if l = 1 then tw_i2s v else v
