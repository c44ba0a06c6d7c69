/-! ONE CALL OF BOTH, and what stands afterwards. -/
theorem WOK_M {τ : tw_M} (hI : tw_I τ) : WOK (wM τ) := by
  have r0 : wM τ 100 = τ 91 0 := wM_r (j := 0) (by decide)
  have ft : (1 : Int) ≤ τ 91 0 ∧ τ 91 0 ≤ 40 := hI 91 0
  refine ⟨by rw [r0]; exact ft, fun h h1 h2 => ?_⟩
  have b := wM_bd (σ := τ) (h := h) ⟨h1, h2⟩
  have x0 := mw_10 hI (5 * h + 0).toNat
  have x1 := mw_10 hI (5 * h + 1).toNat
  rw [wM_0 ⟨by omega, h2⟩, wM_1 ⟨by omega, h2⟩]
  exact ⟨x0, b.1, b.2, x1⟩
theorem HR_n {rk : PTG} {τ : tw_M} (H : HR rk 23 0 τ) (ht : 1 ≤ τ 91 0 ∧ τ 91 0 ≤ 40) : cnt (gM 0 τ) (τ 91 0).toNat = τ 24 0 := by
  have n := RG_all40 H.1
  have z : cnt (gM 0 τ) 40 = cnt (gM 0 τ) (τ 91 0).toNat := cnt_zero (by omega) (fun f f1 f2 => by
    have e := H.2.2.2.1 (f : Int) (by omega) (by omega)
    rw [show ((f : Nat) : Int).toNat = f by omega] at e
    omega)
  have n' : cnt (gM 0 τ) 40 = τ 24 0 := n
  omega
theorem HR_CNR {rk : PTG} {τ : tw_M} (H : HR rk 23 0 τ) : CNR rk (gM 0 τ) 28 τ := by
  intro x x1 x2
  have a : τ 89 (0 + 82 + x).toNat + csz (gM 0 τ) x 40 = rk x.toNat ∧ 0 ≤ τ 89 (0 + 82 + x).toNat ∧ rk x.toNat ≤ 5 := H.2.2.1 x x1 x2
  have b : τ 28 x.toNat = τ 89 (0 + 82 + x).toNat := H.2.1 x x1 x2
  show τ 28 x.toNat + csz (gM 0 τ) x 40 = _ ∧ 0 ≤ τ 28 x.toNat ∧ _
  rw [b]
  exact a
/-- an empty hand, all in the bag -/
theorem HR_00 {rk : PTG} {τ : tw_M} (h0 : τ 24 0 = 0) (hb : ∀ x : Int, 1 ≤ x → x ≤ 10 → τ 28 x.toNat = rk x.toNat ∧ τ 89 (82 + x).toNat = rk x.toNat ∧ 0 ≤ rk x.toNat ∧ rk x.toNat ≤ 5) (hz : ∀ j : Nat, j < 82 → τ 89 j = 0) : HR rk 23 0 τ := by
  have hg : gM 0 τ = fun _ => 0 := by
    funext f
    unfold gM
    split
    · exact hz _ (by omega)
    · rfl
  exact HR_new (rk := rk) hg (fun f f1 f2 => hz _ (by omega)) (RG_0 h0) (fun x x1 x2 => by
    have b := hb x x1 x2
    rw [csz_0 (by omega)]
    exact ⟨by omega, by omega, by omega, by omega⟩) (fun _ _ _ => rfl)
theorem ST_R {σ τ : tw_M} (H : ST σ) (hH : HR (τ 3) 23 0 τ) (h : ∀ c j, (STR c j ∨ (60 ≤ c ∧ c < 71)) → ¬ (24 ≤ c ∧ c < 29) → ¬ (c = 89 ∧ j < 100) → ¬ (c = 0 ∧ j = 14) → ¬ (c = 88 ∧ j = 38) → ¬ c = 23 → τ c j = σ c j) (h4 : τ 23 4 = σ 23 4) (h5 : τ 23 5 = σ 23 5) (ht : τ 0 14 = τ 88 38) : ST τ := by
  obtain ⟨a, b, c, d, e, f, g, i⟩ := H
  have eM : wM τ = wM σ := wM_F (fun j _ _ => h 91 j (by unfold STR; omega) (by omega) (by omega) (by omega) (by omega) (by omega)) (fun j => h 92 j (by unfold STR; omega) (by omega) (by omega) (by omega) (by omega) (by omega))
  have eW : wW 1 τ = wW 1 σ := wW_F (fun c j x1 x2 => h c j (by unfold STR; omega) (by omega) (by omega) (by omega) (by omega) (by omega))
  have e3 : τ 3 = σ 3 := funext (fun j => h 3 j (by unfold STR; omega) (by omega) (by omega) (by omega) (by omega) (by omega))
  have h91 : τ 91 0 = σ 91 0 := h 91 0 (by unfold STR; omega) (by omega) (by omega) (by omega) (by omega) (by omega)
  have h60 : ∀ j, τ 60 j = σ 60 j := fun j => h 60 j (Or.inr (by omega)) (by omega) (by omega) (by omega) (by omega) (by omega)
  refine ⟨by rw [eW, eM]; exact a, hH, ?_, ?_, ?_, fun k => by rw [eM, e3]; exact BST_F (f (by rw [← h60]; exact k)) h60 (fun c j x1 x2 => h c j (Or.inr (by omega)) (by omega) (by omega) (by omega) (by omega) (by omega)), fun q hq => ?_, ?_⟩
  · rw [h4, h5, h 91 5 (by unfold STR; omega) (by omega) (by omega) (by omega) (by omega) (by omega), h 91 6 (by unfold STR; omega) (by omega) (by omega) (by omega) (by omega) (by omega)]; exact c
  · exact IMG_F d (fun j => h 3 j (by unfold STR; omega) (by omega) (by omega) (by omega) (by omega) (by omega)) (fun c j x1 x2 => h c j (by unfold STR; omega) (by omega) (by omega) (by omega) (by omega) (by omega)) (fun j x1 x2 => h 89 _ (by unfold STR; omega) (by omega) (by omega) (by omega) (by omega) (by omega)) (h 89 _ (by unfold STR; omega) (by omega) (by omega) (by omega) (by omega) (by omega)) (h 89 _ (by unfold STR; omega) (by omega) (by omega) (by omega) (by omega) (by omega)) h91
  · exact IMG_F e (fun j => h 3 j (by unfold STR; omega) (by omega) (by omega) (by omega) (by omega) (by omega)) (fun c j x1 x2 => h c j (by unfold STR; omega) (by omega) (by omega) (by omega) (by omega) (by omega)) (fun j x1 x2 => h 89 _ (by unfold STR; omega) (by omega) (by omega) (by omega) (by omega) (by omega)) (h 89 _ (by unfold STR; omega) (by omega) (by omega) (by omega) (by omega) (by omega)) (h 89 _ (by unfold STR; omega) (by omega) (by omega) (by omega) (by omega) (by omega)) h91
  · have gq := g q hq
    unfold SHK at gq ⊢
    rw [h (80 + 2 * q) 1 (by unfold STR; omega) (by omega) (by omega) (by omega) (by omega) (by omega), h (80 + 2 * q) 2 (by unfold STR; omega) (by omega) (by omega) (by omega) (by omega) (by omega), h 104 q (by unfold STR; omega) (by omega) (by omega) (by omega) (by omega) (by omega)]
    intro k
    exact ⟨(gq k).1, fun j hj => by rw [h (81 + 2 * q) j (by unfold STR; omega) (by omega) (by omega) (by omega) (by omega) (by omega), h 106 _ (by unfold STR; omega) (by omega) (by omega) (by omega) (by omega) (by omega)]; exact (gq k).2 j hj⟩
  · exact ht
theorem HR_rd {rk : PTG} {C C' : Int → Int} {f : Int} {N : Nat} {τ m1 m2 : tw_M} (a : RDX rk C f (gM 0 τ) (qM 0 τ) N m1) (b : RDM rk C' f N m1 m2) (e : N = 0 ∨ C' = C) (eg : gM 0 m1 = gM 0 τ) (eq : qM 0 m1 = qM 0 τ) (h : ∀ c j : Nat, 24 ≤ c → c < 29 → m2 c j = m1 c j) : HR rk 23 0 m2 := by
  have g1 : rdG C' f (gM 0 m1) N = rdG C f (gM 0 τ) N := by
    rcases e with e | e
    · subst e; exact eg
    · rw [e, eg]
  have q1 : rdQ C' f (qM 0 m1) N = rdQ C f (qM 0 τ) N := by
    rcases e with e | e
    · subst e; exact eq
    · rw [e, eq]
  obtain ⟨b1, b2, b3⟩ := b
  have a' := RDX_F a h
  refine ⟨by rw [b1, b2, g1, q1]; exact a'.1, fun x x1 x2 => ?_, b3⟩
  have y : m2 28 x.toNat + csz (rdG C f (gM 0 τ) N) x 40 = rk x.toNat ∧ 0 ≤ m2 28 x.toNat ∧ rk x.toNat ≤ 5 := a'.2 x x1 x2
  have z : m2 89 (0 + 82 + x).toNat + csz (gM 0 m2) x 40 = rk x.toNat ∧ 0 ≤ m2 89 (0 + 82 + x).toNat ∧ rk x.toNat ≤ 5 := b3.1 x x1 x2
  rw [b1, g1] at z
  show m2 28 x.toNat = m2 89 (0 + 82 + x).toNat
  omega
theorem ST_00 {τ : tw_M} (hw : wW 1 τ = wM τ) (h3 : ∀ j : Nat, j < 11 → τ 3 j = 0) (h24 : τ 24 0 = 0) (h28 : ∀ j : Nat, j < 11 → τ 28 j = 0) (h5 : τ 23 4 = τ 91 5) (h6 : τ 23 5 = τ 91 6) (m1 : ∀ j : Nat, j < 11 → τ 89 (82 + j) = 0) (m2 : ∀ j : Nat, j < 82 → τ 89 j = 0) (z31 : τ 31 6 = 0) (z39 : τ 39 6 = 0) (z60 : τ 60 6 = 0) (zs : ∀ c : Nat, c < 4 → τ (80 + 2 * c) 1 = 0) (z : τ 0 14 = τ 88 38) : ST τ :=
  ⟨hw, HR_00 h24 (fun x x1 x2 => by
    have e : (82 + x).toNat = 82 + x.toNat := by omega
    rw [h28 _ (by omega), h3 _ (by omega), e, m1 _ (by omega)]
    exact ⟨rfl, rfl, by omega, by omega⟩) m2, ⟨h5, h6⟩, fun k => absurd z31 k, fun k => absurd z39 k, fun k => absurd z60 k, fun c hc k => by have := zs c hc; omega, z⟩
section CASES
variable {τ m1 m2 : tw_M} {r1 r2 h s : Int}
theorem ST_put (H : ST τ) (ht : 1 ≤ τ 91 0 ∧ τ 91 0 ≤ 40)
    (hX : ∀ gg qq : Nat → Int, RG 24 gg qq τ → (1 ≤ s → s ≤ 10 → 0 ≤ τ 28 s.toNat) → (¬ whyS (wW 1 τ) (gg h.toNat) (τ 24 0) (τ 28 s.toNat) h s = 0 ∧ r1 = whyS (wW 1 τ) (gg h.toNat) (τ 24 0) (τ 28 s.toNat) h s ∧ ∀ c j, m1 c j = τ c j) ∨ (whyS (wW 1 τ) (gg h.toNat) (τ 24 0) (τ 28 s.toNat) h s = 0 ∧ r1 = cnt gg h.toNat ∧ RG 24 (pg gg h.toNat s) (pg qq h.toNat 0) m1 ∧ m1 28 s.toNat = τ 28 s.toNat - 1 ∧ ∀ j : Nat, ¬ j = s.toNat → m1 28 j = τ 28 j))
    (hM : (¬ whyS (wM m1) (gM 0 m1 h.toNat) (cnt (gM 0 m1) (m1 91 0).toNat) (m1 89 (82 + s).toNat) h s = 0 ∧ r2 = whyS (wM m1) (gM 0 m1 h.toNat) (cnt (gM 0 m1) (m1 91 0).toNat) (m1 89 (82 + s).toNat) h s ∧ ∀ c j, m2 c j = m1 c j) ∨ (whyS (wM m1) (gM 0 m1 h.toNat) (cnt (gM 0 m1) (m1 91 0).toNat) (m1 89 (82 + s).toNat) h s = 0 ∧ r2 = cnt (gM 0 m1) h.toNat ∧ m2 89 h.toNat = s ∧ m2 89 (41 + h).toNat = 0 ∧ (m1 89 (82 + s).toNat < 0 ∨ m2 89 (82 + s).toNat = m1 89 (82 + s).toNat - 1) ∧ ∀ j : Nat, ¬ j = h.toNat → ¬ j = (41 + h).toNat → ¬ j = (82 + s).toNat → m2 89 j = m1 89 j))
    (fX : ∀ c j, ¬ (24 ≤ c ∧ c < 29) → m1 c j = τ c j) (fM : ∀ c j, ¬ (c = 89 ∧ j < 93) → m2 c j = m1 c j) : ST m2 ∧ r1 = r2 := by
  have b := H.2.1
  have eg : gM 0 m1 = gM 0 τ := gM_F (fun f f1 f2 => fX 89 _ (by omega))
  have eM : wM m1 = wM τ := wM_F (fun j _ _ => fX 91 j (by omega)) (fun j => fX 92 j (by omega))
  have e91 : m1 91 0 = τ 91 0 := fX 91 0 (by omega)
  have nn := HR_n b ht
  have e82 : m1 89 (82 + s).toNat = τ 89 (82 + s).toNat := fX 89 _ (by omega)
  have wy : whyS (wW 1 τ) (gM 0 τ h.toNat) (τ 24 0) (τ 28 s.toNat) h s = whyS (wM m1) (gM 0 m1 h.toNat) (cnt (gM 0 m1) (m1 91 0).toNat) (m1 89 (82 + s).toNat) h s :=
    why_eq (by rw [eM]; exact H.1) (by rw [eg]) (by rw [eg, e91, nn]) (fun s1 s2 => by
      have y : τ 28 s.toNat = τ 89 (0 + 82 + s).toNat := b.2.1 s s1 s2
      rw [e82, y, show (0 + 82 + s).toNat = (82 + s).toNat by omega])
  rcases hX _ _ b.1 (fun s1 s2 => (HR_CNR b s s1 s2).2.1) with ⟨x1, x2, x3⟩ | ⟨x1, x2, x3, x4, x5⟩
  · rcases hM with ⟨y1, y2, y3⟩ | ⟨y1, _⟩
    · exact ⟨ST_F H (fun c j _ => (y3 c j).trans (x3 c j)), by rw [x2, y2, wy]⟩
    · rw [wy] at x1; exact absurd y1 x1
  · rcases hM with ⟨y1, _⟩ | ⟨y1, y2, y3, y4, y5, y6⟩
    · rw [wy] at x1; exact absurd x1 y1
    · have ok := why_ok x1
      have hs0 : 0 ≤ τ 28 s.toNat := (HR_CNR b s ok.1.2.2.1 ok.1.2.2.2).2.1
      have r0 : wW 1 τ 100 = wM τ 100 := by rw [H.1]
      have r1' : wM τ 100 = τ 91 0 := wM_r (j := 0) (by decide)
      have e3 : m2 3 = τ 3 := funext (fun j => (fM 3 j (by omega)).trans (fX 3 j (by omega)))
      have y82 : τ 28 s.toNat = τ 89 (0 + 82 + s).toNat := b.2.1 s ok.1.2.2.1 ok.1.2.2.2
      rw [show (0 + 82 + s).toNat = (82 + s).toNat by omega] at y82
      have hr : HR (τ 3) 23 0 m2 := HR_put b ⟨ok.1.1, by omega⟩ ht.2 ⟨ok.1.2.2.1, ok.1.2.2.2⟩ (by omega) (RG_F x3 (fun c j c1 c2 => fM c j (by omega)))
        ((fM 28 _ (by omega)).trans x4) (fun j hj => (fM 28 j (by omega)).trans (x5 j hj)) ok.2.2.2 y3 y4 (by rw [← e82]; omega) (fun j j1 j2 j3 _ => (y6 j j1 j2 j3).trans (fX 89 j (by omega))) ((fM 91 0 (by omega)).trans e91)
      exact ⟨ST_H H (by rw [e3]; exact hr) (fun c j _ c2 c3 => (fM c j (by omega)).trans (fX c j c2)), by rw [x2, y2, eg]⟩
theorem ST_take (H : ST τ) (ht : 1 ≤ τ 91 0 ∧ τ 91 0 ≤ 40)
    (hX : ∀ gg qq rk : Nat → Int, RG 24 gg qq τ → CNR rk gg 28 τ → (r1 = -1 ∧ ¬ (1 ≤ h ∧ h ≤ τ 2 0) ∧ ∀ c j, m1 c j = τ c j) ∨ (r1 = -4 ∧ (1 ≤ h ∧ h ≤ τ 2 0) ∧ gg h.toNat = 0 ∧ ∀ c j, m1 c j = τ c j) ∨ ((1 ≤ h ∧ h ≤ τ 2 0) ∧ 0 < gg h.toNat ∧ gg h.toNat ≤ 10 ∧ r1 = gg h.toNat ∧ RG 24 (pg gg h.toNat 0) qq m1 ∧ m1 28 r1.toNat = τ 28 r1.toNat + 1 ∧ ∀ j : Nat, ¬ j = r1.toNat → m1 28 j = τ 28 j))
    (hM : (r2 = -1 ∧ ¬ (1 ≤ h ∧ h ≤ m1 91 0) ∧ ∀ c j, m2 c j = m1 c j) ∨ (r2 = -4 ∧ (1 ≤ h ∧ h ≤ m1 91 0) ∧ m1 89 h.toNat = 0 ∧ ∀ c j, m2 c j = m1 c j) ∨ ((1 ≤ h ∧ h ≤ m1 91 0) ∧ 0 < m1 89 h.toNat ∧ r2 = m1 89 h.toNat ∧ r2 ≤ 10 ∧ m2 89 h.toNat = 0 ∧ m2 89 (41 + h).toNat = 0 ∧ (1000 < m1 89 (82 + r2).toNat ∨ m1 89 (82 + r2).toNat < 0 ∨ m2 89 (82 + r2).toNat = m1 89 (82 + r2).toNat + 1) ∧ ∀ j : Nat, ¬ j = h.toNat → ¬ j = (41 + h).toNat → ¬ j = (82 + r2).toNat → m2 89 j = m1 89 j))
    (fX : ∀ c j, ¬ (24 ≤ c ∧ c < 29) → m1 c j = τ c j) (fM : ∀ c j, ¬ (c = 89 ∧ j < 93) → m2 c j = m1 c j) : ST m2 ∧ r1 = r2 := by
  have b := H.2.1
  have e91 : m1 91 0 = τ 91 0 := fX 91 0 (by omega)
  have r0 : wW 1 τ 100 = wM τ 100 := by rw [H.1]
  have r1' : wM τ 100 = τ 91 0 := wM_r (j := 0) (by decide)
  have r2' : wW 1 τ 100 = τ 2 0 := wW_r (w := 1) (j := 0) (by decide)
  have e89 : ∀ j, m1 89 j = τ 89 j := fun j => fX 89 j (by omega)
  have gh : 1 ≤ h → h ≤ 40 → gM 0 τ h.toNat = τ 89 h.toNat := fun a c => by
    have e := gM_at (b := 0) (f := h) (σ := τ) ⟨a, c⟩
    rw [show (0 + h).toNat = h.toNat by omega] at e
    exact e
  have same : (∀ c j, m1 c j = τ c j) → (∀ c j, m2 c j = m1 c j) → ST m2 := fun a c => ST_F H (fun x j _ => (c x j).trans (a x j))
  rw [e91] at hM
  rcases hX _ _ _ b.1 (HR_CNR b) with ⟨x1, x2, x3⟩ | ⟨x1, x2, x3, x4⟩ | ⟨x1, x2, x3, x4, x5, x6, x7⟩
  · rcases hM with ⟨y1, y2, y3⟩ | ⟨y1, y2, y3⟩ | ⟨y1, _⟩
    · exact ⟨same x3 y3, by omega⟩
    · omega
    · omega
  · have g := gh x2.1 (by omega)
    rcases hM with ⟨y1, y2, y3⟩ | ⟨y1, y2, y3, y4⟩ | ⟨y1, y2, _⟩
    · omega
    · exact ⟨same x4 y4, by omega⟩
    · rw [e89] at y2; omega
  · have g := gh x1.1 (by omega)
    rcases hM with ⟨y1, y2, y3⟩ | ⟨y1, y2, y3, y4⟩ | ⟨y1, y2, y3, y4, y5, y6, y7, y8⟩
    · omega
    · rw [e89] at y3; omega
    · rw [e89] at y2 y3
      have er : r1 = r2 := by omega
      have e3 : m2 3 = τ 3 := funext (fun j => (fM 3 j (by omega)).trans (fX 3 j (by omega)))
      have c : τ 89 (0 + 82 + r2).toNat + csz (gM 0 τ) r2 40 = τ 3 r2.toNat ∧ 0 ≤ τ 89 (0 + 82 + r2).toNat ∧ τ 3 r2.toNat ≤ 5 := b.2.2.1 r2 (by omega) (by omega)
      rw [show (0 + 82 + r2).toNat = (82 + r2).toNat by omega] at c
      have nn := csz_nn (g := gM 0 τ) (s := r2) 40
      rw [e89] at y7
      rw [er] at x6 x7
      have hr : HR (τ 3) 23 0 m2 := HR_take (s := r2) b ⟨x1.1, by omega⟩ ht.2 (by omega) ⟨by omega, by omega⟩ (RG_F x5 (fun c j c1 c2 => fM c j (by omega)))
        ((fM 28 _ (by omega)).trans x6) (fun j hj => (fM 28 j (by omega)).trans (x7 j hj)) y5 y6 (by omega) (fun j j1 j2 j3 _ => (y8 j j1 j2 j3).trans (e89 j)) ((fM 91 0 (by omega)).trans e91)
      exact ⟨ST_H H (by rw [e3]; exact hr) (fun c j _ c2 c3 => (fM c j (by omega)).trans (fX c j c2)), er⟩
theorem ST_sling {v : Int} (H : ST τ) (ht : 1 ≤ τ 91 0 ∧ τ 91 0 ≤ 40)
    (hX : ∀ gg qq : Nat → Int, RG 24 gg qq τ → (r1 = -1 ∧ ¬ (1 ≤ h ∧ h ≤ τ 2 0) ∧ ∀ c j, m1 c j = τ c j) ∨ (r1 = -4 ∧ (1 ≤ h ∧ h ≤ τ 2 0) ∧ gg h.toNat = 0 ∧ ∀ c j, m1 c j = τ c j) ∨ ((1 ≤ h ∧ h ≤ τ 2 0) ∧ 0 < gg h.toNat ∧ r1 = qq h.toNat ∧ RG 24 gg (pg qq h.toNat v) m1))
    (hM : (r2 = -1 ∧ ¬ (1 ≤ h ∧ h ≤ m1 91 0) ∧ ∀ c j, m2 c j = m1 c j) ∨ (r2 = -4 ∧ (1 ≤ h ∧ h ≤ m1 91 0) ∧ m1 89 h.toNat = 0 ∧ ∀ c j, m2 c j = m1 c j) ∨ ((1 ≤ h ∧ h ≤ m1 91 0) ∧ ¬ m1 89 h.toNat = 0 ∧ r2 = m1 89 (41 + h).toNat ∧ m2 89 (41 + h).toNat = v ∧ ∀ j : Nat, ¬ j = (41 + h).toNat → m2 89 j = m1 89 j))
    (fX : ∀ c j, ¬ c = 27 → m1 c j = τ c j) (fM : ∀ c j, ¬ (c = 89 ∧ j < 93) → m2 c j = m1 c j) : ST m2 ∧ r1 = r2 := by
  have b := H.2.1
  have e91 : m1 91 0 = τ 91 0 := fX 91 0 (by omega)
  have r0 : wW 1 τ 100 = wM τ 100 := by rw [H.1]
  have r1' : wM τ 100 = τ 91 0 := wM_r (j := 0) (by decide)
  have r2' : wW 1 τ 100 = τ 2 0 := wW_r (w := 1) (j := 0) (by decide)
  have e89 : ∀ j, m1 89 j = τ 89 j := fun j => fX 89 j (by omega)
  have gh : 1 ≤ h → h ≤ 40 → gM 0 τ h.toNat = τ 89 h.toNat := fun a c => by
    have e := gM_at (b := 0) (f := h) (σ := τ) ⟨a, c⟩
    rw [show (0 + h).toNat = h.toNat by omega] at e
    exact e
  have qh : 1 ≤ h → h ≤ 40 → qM 0 τ h.toNat = τ 89 (41 + h).toNat := fun a c => by
    have e := qM_at (b := 0) (f := h) (σ := τ) ⟨a, c⟩
    rw [show (0 + 41 + h).toNat = (41 + h).toNat by omega] at e
    exact e
  have same : (∀ c j, m1 c j = τ c j) → (∀ c j, m2 c j = m1 c j) → ST m2 := fun a c => ST_F H (fun x j _ => (c x j).trans (a x j))
  rw [e91] at hM
  rcases hX _ _ b.1 with ⟨x1, x2, x3⟩ | ⟨x1, x2, x3, x4⟩ | ⟨x1, x2, x3, x4⟩
  · rcases hM with ⟨y1, y2, y3⟩ | ⟨y1, y2, y3⟩ | ⟨y1, _⟩
    · exact ⟨same x3 y3, by omega⟩
    · omega
    · omega
  · have g := gh x2.1 (by omega)
    rcases hM with ⟨y1, y2, y3⟩ | ⟨y1, y2, y3, y4⟩ | ⟨y1, y2, _⟩
    · omega
    · exact ⟨same x4 y4, by omega⟩
    · rw [e89] at y2; omega
  · have g := gh x1.1 (by omega)
    have q := qh x1.1 (by omega)
    rcases hM with ⟨y1, y2, y3⟩ | ⟨y1, y2, y3, y4⟩ | ⟨y1, y2, y3, y4, y5⟩
    · omega
    · rw [e89] at y3; omega
    · rw [e89] at y3
      have e3 : m2 3 = τ 3 := funext (fun j => (fM 3 j (by omega)).trans (fX 3 j (by omega)))
      have hr : HR (τ 3) 23 0 m2 := HR_sling (v := v) b ⟨x1.1, by omega⟩ ht.2 (by omega) (RG_F x4 (fun c j c1 c2 => fM c j (by omega)))
        (fun j => (fM 28 j (by omega)).trans (fX 28 j (by omega))) y4 (fun j j1 _ => (y5 j j1).trans (e89 j)) ((fM 91 0 (by omega)).trans e91)
      exact ⟨ST_H H (by rw [e3]; exact hr) (fun c j _ c2 c3 => (fM c j (by omega)).trans (fX c j (by omega))), by omega⟩
theorem ST_strip (H : ST τ) (ht : 1 ≤ τ 91 0 ∧ τ 91 0 ≤ 40)
    (hX : ∀ gg qq rk : Nat → Int, RG 24 gg qq τ → CNR rk gg 28 τ → r1 = τ 24 0 ∧ m1 24 0 = 0 ∧ ∀ x : Int, 1 ≤ x → x ≤ 10 → m1 28 x.toNat = rk x.toNat)
    (hM : ∀ rk : Nat → Int, MOB rk 0 m1 → r2 = cnt (gM 0 m1) (m1 91 0).toNat ∧ MOB rk 0 m2 ∧ ∀ f : Int, 1 ≤ f → f ≤ m2 91 0 → m2 89 f.toNat = 0)
    (fX : ∀ c j, ¬ (24 ≤ c ∧ c < 29) → m1 c j = τ c j) (fM : ∀ c j, ¬ (c = 89 ∧ j < 93) → m2 c j = m1 c j) : ST m2 ∧ r1 = r2 := by
  have b := H.2.1
  have nn := HR_n b ht
  have eg : gM 0 m1 = gM 0 τ := gM_F (fun f f1 f2 => fX 89 _ (by omega))
  have e91 : m1 91 0 = τ 91 0 := fX 91 0 (by omega)
  obtain ⟨x1, x2, x3⟩ := hX _ _ _ b.1 (HR_CNR b)
  have M1 : MOB (τ 3) 0 m1 := MOB_c b.2.2 (fun j j1 j2 => fX 89 _ (by omega)) e91
  obtain ⟨y1, y2, y3⟩ := hM _ M1
  obtain ⟨z1, z2, z3⟩ := MOB_strip y2 y3
  have e3 : m2 3 = τ 3 := funext (fun j => (fM 3 j (by omega)).trans (fX 3 j (by omega)))
  have hr : HR (τ 3) 23 0 m2 := HR_new z1 z2 (RG_0 ((fM 24 0 (by omega)).trans x2)) (fun x a c => by
    have k : τ 89 (0 + 82 + x).toNat + csz (gM 0 τ) x 40 = τ 3 x.toNat ∧ 0 ≤ τ 89 (0 + 82 + x).toNat ∧ τ 3 x.toNat ≤ 5 := b.2.2.1 x a c
    have n0 := csz_nn (g := gM 0 τ) (s := x) 40
    rw [csz_0 (by omega) 40, (fM 28 _ (by omega)).trans (x3 x a c), z3 x a c]
    omega) (fun f f1 f2 => rfl)
  exact ⟨ST_H H (by rw [e3]; exact hr) (fun c j _ c2 c3 => (fM c j (by omega)).trans (fX c j c2)), by rw [x1, y1, eg, e91, nn]⟩
theorem ST_adopt (H : ST τ) (hI : tw_I τ)
    (hX : ∀ rk : Nat → Int, ADQ rk τ → ADE (wW 1 τ) rk r1 τ m1)
    (hM : ∀ rk : Nat → Int, MOB rk 0 m1 → WOK (wM m1) → ∃ p v : Int, BMS (wM m1) rk (pt (kk (wM m1))) p v ∧ ((p = -4 ∧ r2 = -4 ∧ ∀ j : Nat, j < 100 → m2 89 j = m1 89 j) ∨ (¬ p = -4 ∧ gM 0 m2 = lay (wM m1) p ∧ (∀ f : Int, 1 ≤ f → f ≤ 40 → m2 89 (41 + f).toNat = 0) ∧ (∀ x : Int, 1 ≤ x → x ≤ 10 → m2 89 (82 + x).toNat = rk x.toNat - csz (lay (wM m1) p) x 40) ∧ r2 = cnt (lay (wM m1) p) (m1 91 0).toNat)))
    (fX : ∀ c j, ¬ (24 ≤ c ∧ c < 29) → ¬ (56 ≤ c ∧ c < 58) → ¬ (60 ≤ c ∧ c < 71) → m1 c j = τ c j) (fM : ∀ c j, ¬ (c = 89 ∧ (j < 100 ∨ 300 ≤ j)) → ¬ (c = 88 ∧ ¬ j = 38) → m2 c j = m1 c j) : ST m2 ∧ r1 = r2 := by
  have ht : (1 : Int) ≤ τ 91 0 ∧ τ 91 0 ≤ 40 := hI 91 0
  have b := H.2.1
  have eM : wM m1 = wM τ := wM_F (fun j _ _ => fX 91 j (by omega) (by omega) (by omega)) (fun j => fX 92 j (by omega) (by omega) (by omega))
  have e91 : m1 91 0 = τ 91 0 := fX 91 0 (by omega) (by omega) (by omega)
  have wok := WOK_M hI
  have r3 : ∀ x : Int, τ 3 x.toNat ≤ 5 := fun x => (show (0 : Int) ≤ τ 3 x.toNat ∧ τ 3 x.toNat ≤ 5 from hI 3 _).2
  have M1 : MOB (τ 3) 0 m1 := MOB_c b.2.2 (fun j j1 j2 => fX 89 _ (by omega) (by omega) (by omega)) e91
  have Q : ADQ (τ 3) τ := ⟨by rw [H.1]; exact wok, fun x _ _ => ⟨rfl, r3 x⟩, fun k => by rw [H.1]; exact H.2.2.2.2.2.1 k, _, _, b.1, HR_CNR b⟩
  obtain ⟨p1, p2, p3⟩ := hX _ Q
  obtain ⟨p, v, q1, q2⟩ := hM _ M1 (by rw [eM]; exact wok)
  rw [eM] at q1 q2
  rw [H.1] at p1 p3
  have sm := PLN_same p1 q1
  have e3 : m2 3 = τ 3 := funext (fun j => (fM 3 j (by omega) (by omega)).trans (fX 3 j (by omega) (by omega) (by omega)))
  have eM2 : wM m2 = wM τ := (wM_F (fun j _ _ => fM 91 j (by omega) (by omega)) (fun j => fM 92 j (by omega) (by omega))).trans eM
  have pl2 : PLN (wM τ) (τ 3) m2 := BST_F p1 (fun j => fM 60 j (by omega) (by omega)) (fun c j c1 c2 => fM c j (by omega) (by omega))
  have fin : HR (τ 3) 23 0 m2 → ST m2 := fun hr => by
    obtain ⟨a, _, c, d, e, f, g, i⟩ := H
    have all : ∀ c j, STR c j → ¬ (24 ≤ c ∧ c < 29) → ¬ (c = 89 ∧ j < 100) → m2 c j = τ c j := fun c j q c2 c3 => (fM c j (by unfold STR at q; omega) (by unfold STR at q; omega)).trans (fX c j c2 (by unfold STR at q; omega) (by unfold STR at q; omega))
    have eW2 : wW 1 m2 = wW 1 τ := wW_F (fun c j x1 x2 => all c j (by unfold STR; omega) (by omega) (by omega))
    refine ⟨by rw [eW2, eM2]; exact a, by rw [e3]; exact hr, ?_, ?_, ?_, fun _ => by rw [eM2, e3]; exact pl2, fun q hq => ?_, ?_⟩
    · rw [all 23 4 (by unfold STR; omega) (by omega) (by omega), all 23 5 (by unfold STR; omega) (by omega) (by omega), all 91 5 (by unfold STR; omega) (by omega) (by omega), all 91 6 (by unfold STR; omega) (by omega) (by omega)]; exact c
    · exact IMG_F d (fun j => all 3 j (by unfold STR; omega) (by omega) (by omega)) (fun c j x1 x2 => all c j (by unfold STR; omega) (by omega) (by omega)) (fun j x1 x2 => all 89 _ (by unfold STR; omega) (by omega) (by omega)) (all 89 _ (by unfold STR; omega) (by omega) (by omega)) (all 89 _ (by unfold STR; omega) (by omega) (by omega)) (all 91 0 (by unfold STR; omega) (by omega) (by omega))
    · exact IMG_F e (fun j => all 3 j (by unfold STR; omega) (by omega) (by omega)) (fun c j x1 x2 => all c j (by unfold STR; omega) (by omega) (by omega)) (fun j x1 x2 => all 89 _ (by unfold STR; omega) (by omega) (by omega)) (all 89 _ (by unfold STR; omega) (by omega) (by omega)) (all 89 _ (by unfold STR; omega) (by omega) (by omega)) (all 91 0 (by unfold STR; omega) (by omega) (by omega))
    · have gq := g q hq
      unfold SHK at gq ⊢
      rw [all (80 + 2 * q) 1 (by unfold STR; omega) (by omega) (by omega), all (80 + 2 * q) 2 (by unfold STR; omega) (by omega) (by omega), all 104 q (by unfold STR; omega) (by omega) (by omega)]
      intro k
      exact ⟨(gq k).1, fun j hj => by rw [all (81 + 2 * q) j (by unfold STR; omega) (by omega) (by omega), all 106 _ (by unfold STR; omega) (by omega) (by omega)]; exact (gq k).2 j hj⟩
    · rw [all 0 14 (by unfold STR; omega) (by omega) (by omega), all 88 38 (by unfold STR; omega) (by omega) (by omega)]; exact i
  rcases p3 with ⟨x1, x2, x3⟩ | ⟨x1, x2, x3, x4⟩
  · rcases sm with ⟨s1, s2⟩ | ⟨s1, _⟩
    · rcases q2 with ⟨y1, y2, y3⟩ | ⟨y1, _⟩
      · refine ⟨fin (HR_F b (fun c j c1 c2 => (fM c j (by omega) (by omega)).trans (x3 c j (by omega) (by omega))) (fun j j1 j2 => (y3 _ (by omega)).trans (fX 89 _ (by omega) (by omega) (by omega))) ((fM 91 0 (by omega) (by omega)).trans e91)), by omega⟩
      · exact absurd s2 y1
    · omega
  · rcases sm with ⟨s1, _⟩ | ⟨s1, s2, s3, s4, s5, s6, s7, s8⟩
    · omega
    · rcases q2 with ⟨y1, _⟩ | ⟨y1, y2, y3, y4, y5⟩
      · exact absurd y1 s2
      · rw [s3] at x2 x3
        have hr : HR (τ 3) 23 0 m2 := HR_new y2 y3 (RG_F x2 (fun c j c1 c2 => fM c j (by omega) (by omega))) (fun x a c => by
          have fe := s6.1 x a c
          rw [(fM 28 _ (by omega) (by omega)).trans (x3 x a c), y4 x a c]
          exact ⟨rfl, rfl, fe, r3 x⟩) (fun f f1 f2 => by
            have n := (lay_nn (W := wM τ) (S := p)).2.2 f.toNat
            have r0 : wM τ 100 = τ 91 0 := wM_r (j := 0) (by decide)
            exact n (by rw [(fM 91 0 (by omega) (by omega)).trans e91] at f1; omega))
        have n1 := RG_all40 x2
        have z : cnt (lay (wM τ) p) 40 = cnt (lay (wM τ) p) (m1 91 0).toNat := cnt_zero (by omega) (fun f f1 f2 => by
          have r0 : wM τ 100 = τ 91 0 := wM_r (j := 0) (by decide)
          rw [(lay_nn (W := wM τ) (S := p)).2.2 f (by omega)]
          exact Int.le_refl _)
        exact ⟨fin hr, by omega⟩
/-- a hand is kept as an image -/
theorem IMG_new {u : Nat} {b : Int} (H : ST τ) (c : CPY u 23 τ m1) (hm : ∀ x j : Nat, u ≤ x → x < u + 6 → m2 x j = m1 x j) (hj : ∀ j : Int, 0 ≤ j → j < 97 → m2 89 (b + j).toNat = τ 89 j.toNat) (h7 : m2 89 (b + 97).toNat = τ 91 5) (h8 : m2 89 (b + 98).toNat = τ 91 6) (e3 : m2 3 = τ 3) (e91 : m2 91 0 = τ 91 0) : IMG u b m2 := by
  intro _
  obtain ⟨c1, c2, c3, c4, c5⟩ := c
  refine ⟨?_, ?_, ?_⟩
  · rw [e3]
    exact HR_c H.2.1 ((hm _ _ (by omega) (by omega)).trans c1) (fun k j k1 k2 k3 => (hm _ _ (by omega) (by omega)).trans (c2 k j k1 k2 k3)) (fun x x1 x2 => (hm _ _ (by omega) (by omega)).trans (c3 _ (by omega))) (fun j j1 j2 => by rw [hj j (by omega) (by omega), show (0 + j).toNat = j.toNat by omega]) e91
  · rw [hm u 4 (by omega) (by omega), c4, h7]; exact H.2.2.1.1
  · rw [hm u 5 (by omega) (by omega), c5, h8]; exact H.2.2.1.2
theorem ST_image {i : Int} (H : ST τ)
    (hX : (i = 0 ∧ CPY 31 23 τ m1 ∧ ∀ c j : Nat, 39 ≤ c → m1 c j = τ c j) ∨ (i = 1 ∧ CPY 39 23 τ m1 ∧ ∀ c j : Nat, c < 39 → m1 c j = τ c j) ∨ (¬ (i = 0 ∨ i = 1) ∧ ∀ c j, m1 c j = τ c j))
    (hM : (¬ (i = 0 ∨ i = 1) ∧ ∀ c j, m2 c j = m1 c j) ∨ ((i = 0 ∨ i = 1) ∧ (∀ j : Int, 0 ≤ j → j < 97 → m2 89 (100 + 100 * i + j).toNat = m1 89 j.toNat) ∧ m2 89 (197 + 100 * i).toNat = m1 91 5 ∧ m2 89 (198 + 100 * i).toNat = m1 91 6 ∧ (∀ j : Nat, (j < 97 ∨ (100 ≤ j ∧ ((j : Int) < 100 + 100 * i ∨ 200 + 100 * i ≤ (j : Int)))) → m2 89 j = m1 89 j)))
    (fX : ∀ c j, ¬ (31 ≤ c ∧ c < 47) → m1 c j = τ c j) (fM : ∀ c j, ¬ c = 89 → ¬ c = 90 → m2 c j = m1 c j) : ST m2 := by
  have e3 : m2 3 = τ 3 := funext (fun j => (fM 3 j (by omega) (by omega)).trans (fX 3 j (by omega)))
  have e91 : ∀ j, m2 91 j = τ 91 j := fun j => (fM 91 j (by omega) (by omega)).trans (fX 91 j (by omega))
  have e92 : ∀ j, m2 92 j = τ 92 j := fun j => (fM 92 j (by omega) (by omega)).trans (fX 92 j (by omega))
  have f89 : ∀ j, m1 89 j = τ 89 j := fun j => fX 89 j (by omega)
  rcases hM with ⟨y1, y2⟩ | ⟨y1, y2, y3, y4, y5⟩
  · rcases hX with ⟨x1, _⟩ | ⟨x1, _⟩ | ⟨x1, x2⟩
    · omega
    · omega
    · exact ST_F H (fun c j _ => (y2 c j).trans (x2 c j))
  · have hH := H
    obtain ⟨a, b, c, d, e, f, g, k⟩ := H
    have eM : wM m2 = wM τ := wM_F (fun j _ _ => e91 j) e92
    have eW : wW 1 m2 = wW 1 τ := wW_F (fun x j x1 x2 => (fM x j (by omega) (by omega)).trans (fX x j (by omega)))
    have all : ∀ x j : Nat, ¬ (31 ≤ x ∧ x < 47) → ¬ x = 89 → ¬ x = 90 → m2 x j = τ x j := fun x j p q r => (fM x j q r).trans (fX x j p)
    have lo : ∀ j : Nat, j < 97 → m2 89 j = τ 89 j := fun j hj => (y5 j (Or.inl hj)).trans (f89 j)
    have hb : HR (m2 3) 23 0 m2 := by
      rw [e3]
      exact HR_F b (fun x j x1 x2 => all x j (by omega) (by omega) (by omega)) (fun j j1 j2 => lo _ (by omega)) (e91 0)
    have hp : ¬ m2 60 6 = 0 → PLN (wM m2) (m2 3) m2 := fun q => by
      rw [eM, e3]
      exact BST_F (f (by rw [← all 60 6 (by omega) (by omega) (by omega)]; exact q)) (fun j => all 60 j (by omega) (by omega) (by omega)) (fun x j x1 x2 => all x j (by omega) (by omega) (by omega))
    have hs : ∀ q : Nat, q < 4 → SHK q m2 := fun q hq => by
      have gq := g q hq
      unfold SHK at gq ⊢
      rw [all (80 + 2 * q) 1 (by omega) (by omega) (by omega), all (80 + 2 * q) 2 (by omega) (by omega) (by omega), all 104 q (by omega) (by omega) (by omega)]
      intro z
      exact ⟨(gq z).1, fun j hj => by rw [all (81 + 2 * q) j (by omega) (by omega) (by omega), all 106 _ (by omega) (by omega) (by omega)]; exact (gq z).2 j hj⟩
    have h23 : m2 23 4 = m2 91 5 ∧ m2 23 5 = m2 91 6 := by
      rw [all 23 4 (by omega) (by omega) (by omega), all 23 5 (by omega) (by omega) (by omega), e91, e91]; exact c
    have hk : m2 0 14 = m2 88 38 := by rw [all 0 14 (by omega) (by omega) (by omega), all 88 38 (by omega) (by omega) (by omega)]; exact k
    rcases hX with ⟨x1, x2, x3⟩ | ⟨x1, x2, x3⟩ | ⟨x1, _⟩
    · refine ⟨by rw [eW, eM]; exact a, hb, h23, ?_, ?_, hp, hs, hk⟩
      · exact IMG_new hH x2 (fun x j p q => fM x j (by omega) (by omega)) (fun j j1 j2 => by have z := y2 j j1 j2; rw [x1] at z; rw [show (100 : Int) + j = 100 + 100 * 0 + j by omega, z]; exact f89 _)
          (by rw [x1] at y3; rw [show ((100 : Int) + 97).toNat = ((197 : Int) + 100 * 0).toNat by omega, y3]; exact fX 91 5 (by omega)) (by rw [x1] at y4; rw [show ((100 : Int) + 98).toNat = ((198 : Int) + 100 * 0).toNat by omega, y4]; exact fX 91 6 (by omega)) e3 (e91 0)
      · have hi : ∀ j : Nat, 200 ≤ j → m2 89 j = τ 89 j := fun j hj => (y5 j (Or.inr ⟨by omega, by omega⟩)).trans (f89 j)
        exact IMG_F e (fun j => congrFun e3 j) (fun x j p q => (fM x j (by omega) (by omega)).trans (x3 x j (by omega))) (fun j j1 j2 => hi _ (by omega)) (hi _ (by omega)) (hi _ (by omega)) (e91 0)
    · refine ⟨by rw [eW, eM]; exact a, hb, h23, ?_, ?_, hp, hs, hk⟩
      · have hi : ∀ j : Nat, 100 ≤ j → j < 200 → m2 89 j = τ 89 j := fun j hj h2 => (y5 j (Or.inr ⟨by omega, by omega⟩)).trans (f89 j)
        exact IMG_F d (fun j => congrFun e3 j) (fun x j p q => (fM x j (by omega) (by omega)).trans (x3 x j (by omega))) (fun j j1 j2 => hi _ (by omega) (by omega)) (hi _ (by omega) (by omega)) (hi _ (by omega) (by omega)) (e91 0)
      · exact IMG_new hH x2 (fun x j p q => fM x j (by omega) (by omega)) (fun j j1 j2 => by have z := y2 j j1 j2; rw [x1] at z; rw [show (200 : Int) + j = 100 + 100 * 1 + j by omega, z]; exact f89 _)
          (by rw [x1] at y3; rw [show ((200 : Int) + 97).toNat = ((197 : Int) + 100 * 1).toNat by omega, y3]; exact fX 91 5 (by omega)) (by rw [x1] at y4; rw [show ((200 : Int) + 98).toNat = ((198 : Int) + 100 * 1).toNat by omega, y4]; exact fX 91 6 (by omega)) e3 (e91 0)
    · omega
theorem ST_back {i : Int} (H : ST τ) (ht : 1 ≤ τ 91 0 ∧ τ 91 0 ≤ 40) (kp : τ 31 6 = τ 90 0 ∧ τ 39 6 = τ 90 1)
    (hX : (r1 = -1 ∧ ¬ (i = 0 ∨ i = 1) ∧ ∀ c j, m1 c j = τ c j) ∨ (r1 = -2 ∧ ((i = 0 ∧ τ 31 6 = 0) ∨ (i = 1 ∧ τ 39 6 = 0)) ∧ ∀ c j, m1 c j = τ c j) ∨ (i = 0 ∧ ¬ τ 31 6 = 0 ∧ CPY 23 31 τ m1 ∧ r1 = m1 24 0) ∨ (i = 1 ∧ ¬ τ 39 6 = 0 ∧ CPY 23 39 τ m1 ∧ r1 = m1 24 0))
    (hM : (r2 = -1 ∧ ¬ (i = 0 ∨ i = 1) ∧ ∀ c j, m2 c j = m1 c j) ∨ (r2 = -2 ∧ (i = 0 ∨ i = 1) ∧ m1 90 i.toNat = 0 ∧ ∀ c j, m2 c j = m1 c j) ∨ ((i = 0 ∨ i = 1) ∧ ¬ m1 90 i.toNat = 0 ∧ (∀ j : Int, 0 ≤ j → j < 97 → m2 89 j.toNat = m1 89 (100 + 100 * i + j).toNat) ∧ m2 91 5 = m1 89 (197 + 100 * i).toNat ∧ m2 91 6 = m1 89 (198 + 100 * i).toNat ∧ r2 = cnt (gM 0 m2) (m1 91 0).toNat))
    (fX : ∀ c j, ¬ (23 ≤ c ∧ c < 31) → m1 c j = τ c j) (fM : ∀ c j, ¬ (c = 89 ∧ j < 100) → ¬ (c = 91 ∧ (j = 5 ∨ j = 6)) → m2 c j = m1 c j) : ST m2 ∧ r1 = r2 := by
  have f90 : ∀ j, m1 90 j = τ 90 j := fun j => fX 90 j (by omega)
  have same : (∀ c j, m1 c j = τ c j) → (∀ c j, m2 c j = m1 c j) → ST m2 := fun a c => ST_F H (fun x j _ => (c x j).trans (a x j))
  have k90 : (i = 0 → m1 90 i.toNat = τ 31 6) ∧ (i = 1 → m1 90 i.toNat = τ 39 6) := ⟨fun q => by rw [q, f90]; exact kp.1.symm, fun q => by rw [q, f90]; exact kp.2.symm⟩
  have key : ∀ (u : Nat) (b : Int), IMG u b τ → ¬ τ u 6 = 0 → CPY 23 u τ m1 → r1 = m1 24 0 → (∀ j : Int, 0 ≤ j → j < 97 → m2 89 j.toNat = τ 89 (b + j).toNat) → m2 91 5 = τ 89 (b + 97).toNat → m2 91 6 = τ 89 (b + 98).toNat → r2 = cnt (gM 0 m2) (m1 91 0).toNat → ST m2 ∧ r1 = r2 := by
    intro u b hi hk hc hr1 hj h7 h8 hr2
    obtain ⟨x1, x2, x3⟩ := hi hk
    obtain ⟨c1, c2, c3, c4, c5⟩ := hc
    have e3 : m2 3 = τ 3 := funext (fun j => (fM 3 j (by omega) (by omega)).trans (fX 3 j (by omega)))
    have e91 : m2 91 0 = τ 91 0 := (fM 91 0 (by omega) (by omega)).trans (fX 91 0 (by omega))
    have hr : HR (τ 3) 23 0 m2 := HR_c x1 ((fM 24 0 (by omega) (by omega)).trans c1) (fun k j k1 k2 k3 => (fM _ _ (by omega) (by omega)).trans (c2 k j k1 k2 k3)) (fun x p q => (fM _ _ (by omega) (by omega)).trans (c3 _ (by omega))) (fun j j1 j2 => by rw [show (0 + j).toNat = j.toNat by omega]; exact hj j (by omega) (by omega)) e91
    have nn := HR_n hr (by rw [e91]; exact ht)
    obtain ⟨a, _, _, d, e, f, g, k⟩ := H
    have all : ∀ x j : Nat, ¬ (23 ≤ x ∧ x < 31) → ¬ (x = 89 ∧ j < 100) → ¬ (x = 91 ∧ (j = 5 ∨ j = 6)) → m2 x j = τ x j := fun x j p q r => (fM x j q r).trans (fX x j p)
    have eM : wM m2 = wM τ := wM_F (fun j j5 j6 => all 91 j (by omega) (by omega) (by omega)) (fun j => all 92 j (by omega) (by omega) (by omega))
    have eW : wW 1 m2 = wW 1 τ := wW_F (fun x j p q => all x j (by omega) (by omega) (by omega))
    refine ⟨⟨by rw [eW, eM]; exact a, by rw [e3]; exact hr, ⟨?_, ?_⟩, ?_, ?_, fun q => ?_, fun q hq => ?_, ?_⟩, ?_⟩
    · rw [fM 23 4 (by omega) (by omega), c4, h7]; exact x2
    · rw [fM 23 5 (by omega) (by omega), c5, h8]; exact x3
    · exact IMG_F d (fun j => all 3 j (by omega) (by omega) (by omega)) (fun x j p q => all x j (by omega) (by omega) (by omega)) (fun j p q => all 89 _ (by omega) (by omega) (by omega)) (all 89 _ (by omega) (by omega) (by omega)) (all 89 _ (by omega) (by omega) (by omega)) e91
    · exact IMG_F e (fun j => all 3 j (by omega) (by omega) (by omega)) (fun x j p q => all x j (by omega) (by omega) (by omega)) (fun j p q => all 89 _ (by omega) (by omega) (by omega)) (all 89 _ (by omega) (by omega) (by omega)) (all 89 _ (by omega) (by omega) (by omega)) e91
    · rw [eM, e3]
      exact BST_F (f (by rw [← all 60 6 (by omega) (by omega) (by omega)]; exact q)) (fun j => all 60 j (by omega) (by omega) (by omega)) (fun x j p q => all x j (by omega) (by omega) (by omega))
    · have gq := g q hq
      unfold SHK at gq ⊢
      rw [all (80 + 2 * q) 1 (by omega) (by omega) (by omega), all (80 + 2 * q) 2 (by omega) (by omega) (by omega), all 104 q (by omega) (by omega) (by omega)]
      intro z
      exact ⟨(gq z).1, fun j hj => by rw [all (81 + 2 * q) j (by omega) (by omega) (by omega), all 106 _ (by omega) (by omega) (by omega)]; exact (gq z).2 j hj⟩
    · rw [all 0 14 (by omega) (by omega) (by omega), all 88 38 (by omega) (by omega) (by omega)]; exact k
    · rw [hr1, hr2, ← fM 24 0 (by omega) (by omega), ← nn, e91, fX 91 0 (by omega)]
  have f89 : ∀ j, m1 89 j = τ 89 j := fun j => fX 89 j (by omega)
  rcases hX with ⟨x1, x2, x3⟩ | ⟨x1, x2, x3⟩ | ⟨x1, x2, x3, x4⟩ | ⟨x1, x2, x3, x4⟩
  · rcases hM with ⟨y1, y2, y3⟩ | ⟨y1, y2, y3, y4⟩ | ⟨y1, _⟩
    · exact ⟨same x3 y3, by omega⟩
    · omega
    · omega
  · rcases hM with ⟨y1, y2, y3⟩ | ⟨y1, y2, y3, y4⟩ | ⟨y1, y2, _⟩
    · omega
    · exact ⟨same x3 y4, by omega⟩
    · rcases x2 with x2 | x2
      · have := k90.1 x2.1; omega
      · have := k90.2 x2.1; omega
  · rcases hM with ⟨y1, y2, y3⟩ | ⟨y1, y2, y3, y4⟩ | ⟨y1, y2, y3, y4, y5, y6⟩
    · omega
    · have := k90.1 x1; omega
    · rw [x1] at y3 y4 y5
      exact key 31 100 H.2.2.2.1 x2 x3 x4 (fun j j1 j2 => by rw [y3 j j1 j2, f89, show (100 : Int) + 100 * 0 + j = 100 + j by omega]) (by rw [y4, f89, show ((197 : Int) + 100 * 0) = 100 + 97 by omega]) (by rw [y5, f89, show ((198 : Int) + 100 * 0) = 100 + 98 by omega]) y6
  · rcases hM with ⟨y1, y2, y3⟩ | ⟨y1, y2, y3, y4⟩ | ⟨y1, y2, y3, y4, y5, y6⟩
    · omega
    · have := k90.2 x1; omega
    · rw [x1] at y3 y4 y5
      exact key 39 200 H.2.2.2.2.1 x2 x3 x4 (fun j j1 j2 => by rw [y3 j j1 j2, f89, show (100 : Int) + 100 * 1 + j = 200 + j by omega]) (by rw [y4, f89, show ((197 : Int) + 100 * 1) = 200 + 97 by omega]) (by rw [y5, f89, show ((198 : Int) + 100 * 1) = 200 + 98 by omega]) y6
/-- learn: fits and nearly alone -/
theorem ST_learn (H : ST τ) (h5 : m2 23 4 = m2 91 5) (h6 : m2 23 5 = m2 91 6) (h : ∀ c j, ¬ c = 23 → ¬ (c = 91 ∧ (j = 5 ∨ j = 6)) → m2 c j = τ c j) : ST m2 := by
  obtain ⟨a, b, c, d, e, f, g, k⟩ := H
  have e3 : m2 3 = τ 3 := funext (fun j => h 3 j (by omega) (by omega))
  have e91 : m2 91 0 = τ 91 0 := h 91 0 (by omega) (by omega)
  have eM : wM m2 = wM τ := wM_F (fun j j5 j6 => h 91 j (by omega) (by omega)) (fun j => h 92 j (by omega) (by omega))
  have eW : wW 1 m2 = wW 1 τ := wW_F (fun x j p q => h x j (by omega) (by omega))
  refine ⟨by rw [eW, eM]; exact a, by rw [e3]; exact HR_F b (fun x j p q => h x j (by omega) (by omega)) (fun j p q => h 89 _ (by omega) (by omega)) e91, ⟨h5, h6⟩, ?_, ?_, fun q => ?_, fun q hq => ?_, ?_⟩
  · exact IMG_F d (fun j => h 3 j (by omega) (by omega)) (fun x j p q => h x j (by omega) (by omega)) (fun j p q => h 89 _ (by omega) (by omega)) (h 89 _ (by omega) (by omega)) (h 89 _ (by omega) (by omega)) e91
  · exact IMG_F e (fun j => h 3 j (by omega) (by omega)) (fun x j p q => h x j (by omega) (by omega)) (fun j p q => h 89 _ (by omega) (by omega)) (h 89 _ (by omega) (by omega)) (h 89 _ (by omega) (by omega)) e91
  · rw [eM, e3]
    exact BST_F (f (by rw [← h 60 6 (by omega) (by omega)]; exact q)) (fun j => h 60 j (by omega) (by omega)) (fun x j p q => h x j (by omega) (by omega))
  · have gq := g q hq
    unfold SHK at gq ⊢
    rw [h (80 + 2 * q) 1 (by omega) (by omega), h (80 + 2 * q) 2 (by omega) (by omega), h 104 q (by omega) (by omega)]
    intro z
    exact ⟨(gq z).1, fun j hj => by rw [h (81 + 2 * q) j (by omega) (by omega), h 106 _ (by omega) (by omega)]; exact (gq z).2 j hj⟩
  · rw [h 0 14 (by omega) (by omega), h 88 38 (by omega) (by omega)]; exact k
/-- the sheets change, all else stays -/
theorem ST_S {σ τ : tw_M} (H : ST σ) (hs : ∀ q : Nat, q < 4 → SHK q τ) (h : ∀ c j : Nat, c < 80 ∨ (88 ≤ c ∧ c < 104) → τ c j = σ c j) : ST τ := by
  obtain ⟨a, b, c, d, e, f, _, i⟩ := H
  have eM : wM τ = wM σ := wM_F (fun j _ _ => h 91 j (by omega)) (fun j => h 92 j (by omega))
  have eW : wW 1 τ = wW 1 σ := wW_F (fun c j x1 x2 => h c j (by omega))
  have e3 : τ 3 = σ 3 := funext (fun j => h 3 j (by omega))
  have h91 : τ 91 0 = σ 91 0 := h 91 0 (by omega)
  refine ⟨by rw [eW, eM]; exact a, by rw [e3]; exact HR_F b (fun c j x1 x2 => h c j (by omega)) (fun j x1 x2 => h 89 _ (by omega)) h91, ?_, ?_, ?_, fun k => ?_, hs, ?_⟩
  · rw [h 23 4 (by omega), h 23 5 (by omega), h 91 5 (by omega), h 91 6 (by omega)]; exact c
  · exact IMG_F d (fun j => h 3 j (by omega)) (fun c j x1 x2 => h c j (by omega)) (fun j x1 x2 => h 89 _ (by omega)) (h 89 _ (by omega)) (h 89 _ (by omega)) h91
  · exact IMG_F e (fun j => h 3 j (by omega)) (fun c j x1 x2 => h c j (by omega)) (fun j x1 x2 => h 89 _ (by omega)) (h 89 _ (by omega)) (h 89 _ (by omega)) h91
  · rw [eM, e3]
    exact BST_F (f (by rw [← h 60 6 (by omega)]; exact k)) (fun j => h 60 j (by omega)) (fun c j x1 x2 => h c j (by omega))
  · rw [h 0 14 (by omega), h 88 38 (by omega)]; exact i
theorem SHK_sheet {c : Nat} {k l r : Int} (hc : c < 4) (g : SHK c τ)
    (x0 : (k = (c : Int) ∧ r = 1) ∨ (¬ (k = (c : Int) ∧ r = 1) ∧ m1 (80 + 2 * c) 1 = τ (80 + 2 * c) 1))
    (x1 : (k = (c : Int) ∧ r = 1 ∧ m1 (80 + 2 * c) 2 = l ∧ ∀ j : Nat, j < 40 → m1 (81 + 2 * c) j = 0) ∨ (¬ (k = (c : Int) ∧ r = 1) ∧ m1 (80 + 2 * c) 2 = τ (80 + 2 * c) 2 ∧ ∀ j : Nat, m1 (81 + 2 * c) j = τ (81 + 2 * c) j))
    (y0 : (k = (c : Int) ∧ r = 1 ∧ m2 104 c = l) ∨ (¬ (k = (c : Int) ∧ r = 1) ∧ m2 104 c = m1 104 c))
    (y1 : (r = 1 ∧ (∀ j : Int, 0 ≤ j → j < 40 → m2 106 (40 * k + j).toNat = 0) ∧ ∀ j : Nat, ((j : Int) < 40 * k ∨ 40 * k + 40 ≤ (j : Int)) → m2 106 j = m1 106 j) ∨ (¬ r = 1 ∧ ∀ j : Nat, m2 106 j = m1 106 j))
    (hk : r = 1 → 0 ≤ k ∧ k ≤ 3) (fX : ∀ c j : Nat, 104 ≤ c → m1 c j = τ c j) (fM : ∀ c j : Nat, c < 88 → m2 c j = m1 c j) : SHK c m2 := by
  unfold SHK at g ⊢
  rw [fM (80 + 2 * c) 1 (by omega), fM (80 + 2 * c) 2 (by omega)]
  intro z
  rcases x1 with ⟨p1, p2, p3, p4⟩ | ⟨p1, p2, p3⟩
  · rcases y0 with ⟨_, _, q3⟩ | ⟨q1, _⟩
    · refine ⟨by omega, fun j hj => ?_⟩
      rcases y1 with ⟨_, w2, _⟩ | ⟨w1, _⟩
      · rw [fM (81 + 2 * c) j (by omega), p4 j hj, show 40 * c + j = (40 * k + (j : Int)).toNat by omega, w2 j (by omega) (by omega)]
      · exact absurd p2 w1
    · exact absurd ⟨p1, p2⟩ q1
  · rcases x0 with ⟨s1, s2⟩ | ⟨_, s2⟩
    · exact absurd ⟨s1, s2⟩ p1
    rcases y0 with ⟨q1, q2, _⟩ | ⟨_, q2⟩
    · exact absurd ⟨q1, q2⟩ p1
    have gz := g (s2.symm.trans z)
    refine ⟨by rw [p2, q2, fX 104 c (by omega)]; exact gz.1, fun j hj => ?_⟩
    rw [fM (81 + 2 * c) j (by omega), p3 j, gz.2 j hj, ← fX 106 (40 * c + j) (by omega)]
    rcases y1 with ⟨w1, _, w3⟩ | ⟨_, w2⟩
    · have hq := hk w1
      have nk : ¬ k = (c : Int) := fun q => p1 ⟨q, w1⟩
      exact (w3 (40 * c + j) (by omega)).symm
    · exact (w2 _).symm
theorem SHK_lay {c : Nat} {k i v r : Int} (hc : c < 4) (g : SHK c τ)
    (x1 : (k = (c : Int) ∧ r = 1 ∧ m1 (81 + 2 * c) i.toNat = nrw (τ (80 + 2 * c) 2) v ∧ ∀ j : Nat, ¬ j = i.toNat → m1 (81 + 2 * c) j = τ (81 + 2 * c) j) ∨ (¬ (k = (c : Int) ∧ r = 1) ∧ ∀ j : Nat, m1 (81 + 2 * c) j = τ (81 + 2 * c) j))
    (y1 : (r = 1 ∧ m2 106 (40 * k + i).toNat = nrw (m1 104 k.toNat) v ∧ ∀ j : Nat, ¬ j = (40 * k + i).toNat → m2 106 j = m1 106 j) ∨ (¬ r = 1 ∧ ∀ j : Nat, m2 106 j = m1 106 j))
    (hk : r = 1 → 0 ≤ k ∧ k ≤ 3 ∧ 0 ≤ i ∧ i < 40) (fX : ∀ c j : Nat, 104 ≤ c ∨ (c < 88 ∧ j < 4 ∧ c % 2 = 0) → m1 c j = τ c j) (fM : ∀ c j : Nat, ¬ c = 106 → m2 c j = m1 c j) : SHK c m2 := by
  unfold SHK at g ⊢
  rw [fM (80 + 2 * c) 1 (by omega), fM (80 + 2 * c) 2 (by omega), fX (80 + 2 * c) 1 (by omega), fX (80 + 2 * c) 2 (by omega), fM 104 c (by omega), fX 104 c (by omega)]
  intro z
  have gz := g z
  refine ⟨gz.1, fun j hj => ?_⟩
  rw [fM (81 + 2 * c) j (by omega)]
  rcases x1 with ⟨p1, p2, p3, p4⟩ | ⟨p1, p2⟩
  · rcases y1 with ⟨_, w2, w3⟩ | ⟨w1, _⟩
    · have hq := hk p2
      by_cases q : j = i.toNat
      · rw [q, p3, show 40 * c + i.toNat = (40 * k + i).toNat by omega, w2, show k.toNat = c by omega, fX 104 c (by omega), gz.1]
      · rw [p4 j q, gz.2 j hj, w3 (40 * c + j) (by omega)]
        exact (fX 106 _ (by omega)).symm
    · exact absurd p2 w1
  · rw [p2 j, gz.2 j hj, ← fX 106 (40 * c + j) (by omega)]
    rcases y1 with ⟨w1, _, w3⟩ | ⟨_, w2⟩
    · have hq := hk w1
      have nk : ¬ k = (c : Int) := fun q => p1 ⟨q, w1⟩
      exact (w3 (40 * c + j) (by omega)).symm
    · exact (w2 _).symm
/-- a text is read by both: the same wall, an empty hand; or nothing changes -/
theorem ST_text {P y : PTG} (H : ST τ) (hI : tw_I m2) (e : m1 0 13 = m2 88 17)
    (hX : (m1 0 13 = 0 ∧ wW 1 m1 = P ∧ (∀ j : Nat, j < 11 → m1 3 j = y (200 + j)) ∧ m1 24 0 = 0 ∧ (∀ j : Nat, j < 11 → m1 28 j = y (200 + j)) ∧ m1 23 4 = y 105 ∧ m1 23 5 = y 106 ∧ m1 60 6 = 0) ∨ (¬ m1 0 13 = 0 ∧ ∀ c j : Nat, ((0 < c ∧ c < 10) ∨ (23 ≤ c ∧ c < 88)) → m1 c j = τ c j))
    (hM : (m2 88 17 = 0 ∧ wM m2 = P ∧ (∀ j : Nat, j < 11 → m2 89 (82 + j) = y (200 + j)) ∧ (∀ j : Nat, j < 82 → m2 89 j = 0) ∧ m2 91 5 = y 105 ∧ m2 91 6 = y 106) ∨ (¬ m2 88 17 = 0 ∧ ∀ c j : Nat, 89 ≤ c → c < 93 → m2 c j = m1 c j))
    (im : m1 0 13 = 0 → m1 31 6 = 0 ∧ m1 39 6 = 0) (fX : ∀ c j : Nat, 80 ≤ c ∨ (c = 0 ∧ j = 14) → m1 c j = τ c j) (fM : ∀ c j : Nat, c < 88 ∨ (c = 88 ∧ j = 38) ∨ 104 ≤ c → m2 c j = m1 c j) : ST m2 := by
  have kf : ∀ c j : Nat, (80 ≤ c ∧ c < 88) ∨ (c = 0 ∧ j = 14) ∨ (c = 88 ∧ j = 38) ∨ 104 ≤ c → m2 c j = τ c j := fun c j h => (fM c j (by omega)).trans (fX c j (by omega))
  rcases hX with ⟨x1, x2, x3, x4, x5, x6, x7, x8⟩ | ⟨x1, x2⟩
  · rcases hM with ⟨y1, y2, y3, y4, y5, y6⟩ | ⟨y1, _⟩
    · obtain ⟨_, _, _, _, _, _, g, i⟩ := H
      have eW : wW 1 m2 = wW 1 m1 := wW_F (fun c j p q => fM c j (by omega))
      have ii := im x1
      refine ⟨by rw [eW, x2, y2], HR_00 (by rw [fM 24 0 (by omega)]; exact x4) (fun x p q => ?_) y4, ⟨?_, ?_⟩, fun q => ?_, fun q => ?_, fun q => ?_, fun q hq => ?_, ?_⟩
      · have b : (0 : Int) ≤ m2 3 x.toNat ∧ m2 3 x.toNat ≤ 5 := hI 3 x.toNat
        have e28 : m2 28 x.toNat = y (200 + x.toNat) := (fM 28 _ (by omega)).trans (x5 _ (by omega))
        have e3 : m2 3 x.toNat = y (200 + x.toNat) := (fM 3 _ (by omega)).trans (x3 _ (by omega))
        have e89 : m2 89 (82 + x).toNat = y (200 + x.toNat) := by rw [show (82 + x).toNat = 82 + x.toNat by omega]; exact y3 _ (by omega)
        exact ⟨by omega, by omega, by omega, by omega⟩
      · rw [fM 23 4 (by omega), x6, y5]
      · rw [fM 23 5 (by omega), x7, y6]
      · exact absurd ((fM 31 6 (by omega)).trans ii.1) q
      · exact absurd ((fM 39 6 (by omega)).trans ii.2) q
      · exact absurd ((fM 60 6 (by omega)).trans x8) q
      · have gq := g q hq
        unfold SHK at gq ⊢
        rw [kf (80 + 2 * q) 1 (by omega), kf (80 + 2 * q) 2 (by omega), kf 104 q (by omega)]
        intro z
        exact ⟨(gq z).1, fun j hj => by rw [kf (81 + 2 * q) j (by omega), kf 106 _ (by omega)]; exact (gq z).2 j hj⟩
      · rw [kf 0 14 (by omega), kf 88 38 (by omega)]; exact i
    · omega
  · rcases hM with ⟨y1, _⟩ | ⟨_, y2⟩
    · omega
    · exact ST_F H (fun c j h => by
        unfold STR at h
        by_cases q : 89 ≤ c ∧ c < 93
        · exact (y2 c j q.1 q.2).trans (fX c j (by omega))
        · by_cases q2 : (0 < c ∧ c < 10) ∨ (23 ≤ c ∧ c < 88)
          · exact (fM c j (by omega)).trans (x2 c j q2)
          · exact kf c j (by omega))
theorem ST_read {k l f n : Int} (H : ST τ) (sr : 0 ≤ k ∧ k ≤ 3 → (τ (80 + 2 * k.toNat) 1 = 0 ∧ τ 104 k.toNat = -4) ∨ (τ (80 + 2 * k.toNat) 1 = 1 ∧ ¬ τ 104 k.toNat = -4 ∧ τ 105 k.toNat = τ (80 + 2 * k.toNat) 3))
    (hX : ∀ gg qq rk : Nat → Int, RG 24 gg qq τ → CNR rk gg 28 τ → (r1 = -1 ∧ ¬ (0 ≤ k ∧ k ≤ 3 ∧ 0 ≤ l ∧ l ≤ 2 ∧ 0 ≤ n ∧ n ≤ 10) ∧ ∀ c j, m1 c j = τ c j) ∨ ((0 ≤ k ∧ k ≤ 3 ∧ 0 ≤ l ∧ l ≤ 2 ∧ 0 ≤ n ∧ n ≤ 10) ∧ ∃ cz : Int, ((cz = 0 ∧ 0 < n ∧ r1 = 0 ∧ m1 0 14 = 1 ∧ τ (80 + 2 * k.toNat) 1 = 0) ∨ (cz = 0 ∧ 0 < n ∧ r1 = 0 ∧ m1 0 14 = 3 ∧ ¬ τ (80 + 2 * k.toNat) 1 = 0 ∧ ¬ τ (80 + 2 * k.toNat) 2 = l) ∨ ((n = 0 ∨ (¬ τ (80 + 2 * k.toNat) 1 = 0 ∧ τ (80 + 2 * k.toNat) 2 = l)) ∧ RDE (rdF (τ (80 + 2 * k.toNat) 3) f) (fun x => rdO (wW 1 τ) rk (CC (81 + 2 * k.toNat) τ) f gg x = 0) n cz r1 (m1 0 14))) ∧ ((0 ≤ r1 ∧ RDX rk (CC (81 + 2 * k.toNat) τ) f gg qq cz.toNat m1) ∨ (r1 < 0 ∧ RDX rk (CC (81 + 2 * k.toNat) τ) f gg qq 0 m1 ∧ m1 0 14 = τ 0 14))))
    (hM : ∀ rk : Nat → Int, MOB rk 0 m1 → (r2 = -1 ∧ ¬ (0 ≤ k ∧ k ≤ 3 ∧ 0 ≤ l ∧ l ≤ 2 ∧ 0 ≤ n ∧ n ≤ 10) ∧ ∀ c j, m2 c j = m1 c j) ∨ ((0 ≤ k ∧ k ≤ 3 ∧ 0 ≤ l ∧ l ≤ 2 ∧ 0 ≤ n ∧ n ≤ 10) ∧ ∃ cz : Int, ((cz = 0 ∧ 0 < n ∧ r2 = 0 ∧ m2 88 38 = 1 ∧ m1 104 k.toNat = -4) ∨ (cz = 0 ∧ 0 < n ∧ r2 = 0 ∧ m2 88 38 = 3 ∧ ¬ m1 104 k.toNat = -4 ∧ ¬ m1 104 k.toNat = l) ∨ ((n = 0 ∨ (¬ m1 104 k.toNat = -4 ∧ m1 104 k.toNat = l)) ∧ RDE (rdF (m1 105 k.toNat) f) (fun x => rdO (wM m1) rk (CM k m1) f (gM 0 m1) x = 0) n cz r2 (m2 88 38))) ∧ ((0 ≤ r2 ∧ RDM rk (CM k m1) f cz.toNat m1 m2) ∨ (r2 < 0 ∧ RDM rk (CM k m1) f 0 m1 m2 ∧ m2 88 38 = m1 88 38))))
    (x4 : m1 23 4 = τ 23 4) (x5 : m1 23 5 = τ 23 5) (fX : ∀ c j, ¬ (23 ≤ c ∧ c < 31) → ¬ (47 ≤ c ∧ c < 55) → ¬ (c = 0 ∧ j = 14) → m1 c j = τ c j) (fM : ∀ c j, ¬ (c = 88 ∧ j = 38) → ¬ (c = 89 ∧ (j < 100 ∨ 300 ≤ j)) → m2 c j = m1 c j) : ST m2 ∧ r1 = r2 := by
  have b := H.2.1
  have f89 : ∀ j, m1 89 j = τ 89 j := fun j => fX 89 j (by omega) (by omega) (by omega)
  have e91 : m1 91 0 = τ 91 0 := fX 91 0 (by omega) (by omega) (by omega)
  have M1 : MOB (τ 3) 0 m1 := MOB_c b.2.2 (fun j j1 j2 => f89 _) e91
  have eg : gM 0 m1 = gM 0 τ := gM_F (fun f f1 f2 => f89 _)
  have eq : qM 0 m1 = qM 0 τ := qM_F (fun f f1 f2 => f89 _)
  have eW : wM m1 = wW 1 τ := (wM_F (fun j _ _ => fX 91 j (by omega) (by omega) (by omega)) (fun j => fX 92 j (by omega) (by omega) (by omega))).trans H.1.symm
  have z0 : τ 0 14 = τ 88 38 := H.2.2.2.2.2.2.2
  have e88 : m1 88 38 = τ 88 38 := fX 88 38 (by omega) (by omega) (by omega)
  have e14 : m2 0 14 = m1 0 14 := fM 0 14 (by omega) (by omega)
  rcases hX _ _ _ b.1 (HR_CNR b) with ⟨x1, x2, x3⟩ | ⟨x1, c, xa, xb⟩
  · rcases hM _ M1 with ⟨y1, y2, y3⟩ | ⟨y1, _⟩
    · exact ⟨ST_F H (fun c j _ => (y3 c j).trans (x3 c j)), by omega⟩
    · exact absurd y1 x2
  rcases hM _ M1 with ⟨y1, y2, y3⟩ | ⟨y1, c', ya, yb⟩
  · exact absurd x1 y2
  have e104 : m1 104 k.toNat = τ 104 k.toNat := fX 104 _ (by omega) (by omega) (by omega)
  have e105 : m1 105 k.toNat = τ 105 k.toNat := fX 105 _ (by omega) (by omega) (by omega)
  have s := sr ⟨x1.1, x1.2.1⟩
  have SH := H.2.2.2.2.2.2.1 k.toNat (by omega)
  have key : c = c' ∧ r1 = r2 ∧ (0 ≤ r1 → m1 0 14 = m2 88 38) ∧ (c.toNat = 0 ∨ CM k m1 = CC (81 + 2 * k.toNat) τ) := by
    rcases xa with ⟨a1, a2, a3, a4, a5⟩ | ⟨a1, a2, a3, a4, a5, a6⟩ | ⟨a1, a2⟩
    · rcases ya with ⟨d1, d2, d3, d4, d5⟩ | ⟨d1, d2, d3, d4, d5, d6⟩ | ⟨d1, d2⟩
      · exact ⟨by omega, by omega, fun _ => by omega, Or.inl (by omega)⟩
      · exfalso; omega
      · exfalso; omega
    · have sh := SH (by omega)
      rcases ya with ⟨d1, d2, d3, d4, d5⟩ | ⟨d1, d2, d3, d4, d5, d6⟩ | ⟨d1, d2⟩
      · exfalso; omega
      · exact ⟨by omega, by omega, fun _ => by omega, Or.inl (by omega)⟩
      · exfalso; omega
    · by_cases hn : n = 0
      · obtain ⟨g1, _, g2⟩ := a2
        have h1 : r1 = 0 ∧ m1 0 14 = 0 := by
          rcases g2 with ⟨h1, h2, h3⟩ | ⟨h1, _⟩ | ⟨h1, _⟩
          · exact ⟨by omega, h3⟩
          · omega
          · omega
        rcases ya with ⟨d1, d2, d3, d4, d5⟩ | ⟨d1, d2, d3, d4, d5, d6⟩ | ⟨d1, d2⟩
        · omega
        · omega
        · obtain ⟨i1, _, i2⟩ := d2
          have h2 : r2 = 0 ∧ m2 88 38 = 0 := by
            rcases i2 with ⟨h1, h2, h3⟩ | ⟨h1, _⟩ | ⟨h1, _⟩
            · exact ⟨by omega, h3⟩
            · omega
            · omega
          exact ⟨by omega, by omega, fun _ => by omega, Or.inl (by omega)⟩
      · have a3 := a1.resolve_left hn
        have s1 : τ (80 + 2 * k.toNat) 1 = 1 := by omega
        have sh := SH s1
        have eC : CM k m1 = CC (81 + 2 * k.toNat) τ := by
          funext x
          unfold CM CC
          by_cases q : 0 ≤ x ∧ x < 40
          · rw [if_pos q, if_pos q, sh.2 x.toNat (by omega), fX 106 _ (by omega) (by omega) (by omega), show (40 * k + x).toNat = 40 * k.toNat + x.toNat by omega]
          · rw [if_neg q, if_neg q]
        rcases ya with ⟨d1, d2, d3, d4, d5⟩ | ⟨d1, d2, d3, d4, d5, d6⟩ | ⟨d1, d2⟩
        · exfalso; omega
        · exfalso; omega
        · rw [eW, eg, eC, e105, show τ 105 k.toNat = τ (80 + 2 * k.toNat) 3 by omega] at d2
          obtain ⟨j1, j2, j3⟩ := RDE_same a2 d2
          exact ⟨j1, j2, j3, Or.inr eC⟩
  obtain ⟨k1, k2, k3, k4⟩ := key
  have e3 : m2 3 = τ 3 := funext (fun j => (fM 3 j (by omega) (by omega)).trans (fX 3 j (by omega) (by omega) (by omega)))
  have fr : ∀ c j : Nat, 24 ≤ c → c < 29 → m2 c j = m1 c j := fun c j c1 c2 => fM c j (by omega) (by omega)
  have fin : HR (τ 3) 23 0 m2 ∧ m2 0 14 = m2 88 38 := by
    rcases xb with ⟨u1, u2⟩ | ⟨u1, u2, u3⟩
    · rcases yb with ⟨v1, v2⟩ | ⟨v1, _⟩
      · rw [← k1] at v2
        exact ⟨HR_rd u2 v2 k4 eg eq fr, by rw [e14]; exact k3 u1⟩
      · omega
    · rcases yb with ⟨v1, v2⟩ | ⟨v1, v2, v3⟩
      · omega
      · exact ⟨HR_rd u2 v2 (Or.inl rfl) eg eq fr, by rw [e14, u3, v3, e88]; exact z0⟩
  refine ⟨ST_R H (by rw [e3]; exact fin.1) (fun c j q c2 c3 c4 c5 c6 => ?_) ((fM 23 4 (by omega) (by omega)).trans x4) ((fM 23 5 (by omega) (by omega)).trans x5) fin.2, k2⟩
  have q' : ¬ (c = 89 ∧ (j < 100 ∨ 300 ≤ j)) := by unfold STR at q; omega
  exact (fM c j c5 q').trans (fX c j (by unfold STR at q; omega) (by unfold STR at q; omega) c4)
theorem ST_learn2 (H : ST τ) (t0 : τ 29 0 = τ 89 93) (t1 : τ 30 0 = τ 89 94) (t2 : τ 29 1 = τ 89 95) (t3 : τ 30 1 = τ 89 96)
    (x0 : (τ 29 0 = 0 ∧ m1 23 4 = τ 23 4) ∨ (¬ τ 29 0 = 0 ∧ m1 23 4 = lrn (τ 30 0) (τ 29 0))) (x1 : (τ 29 1 = 0 ∧ m1 23 5 = τ 23 5) ∨ (¬ τ 29 1 = 0 ∧ m1 23 5 = lrn (τ 30 1) (τ 29 1)))
    (x2 : (m1 23 4 = τ 23 4 ∧ m1 23 5 = τ 23 5 ∧ r1 = 0) ∨ (¬ m1 23 4 = τ 23 4 ∧ m1 23 5 = τ 23 5 ∧ r1 = 1) ∨ (m1 23 4 = τ 23 4 ∧ ¬ m1 23 5 = τ 23 5 ∧ r1 = 1) ∨ (¬ m1 23 4 = τ 23 4 ∧ ¬ m1 23 5 = τ 23 5 ∧ r1 = 2))
    (y0 : (m1 89 93 = 0 ∧ m2 91 5 = m1 91 5) ∨ (¬ m1 89 93 = 0 ∧ m2 91 5 = lrn (m1 89 94) (m1 89 93))) (y1 : (m1 89 95 = 0 ∧ m2 91 6 = m1 91 6) ∨ (¬ m1 89 95 = 0 ∧ m2 91 6 = lrn (m1 89 96) (m1 89 95)))
    (y2 : (m2 91 5 = m1 91 5 ∧ m2 91 6 = m1 91 6 ∧ r2 = 0) ∨ (¬ m2 91 5 = m1 91 5 ∧ m2 91 6 = m1 91 6 ∧ r2 = 1) ∨ (m2 91 5 = m1 91 5 ∧ ¬ m2 91 6 = m1 91 6 ∧ r2 = 1) ∨ (¬ m2 91 5 = m1 91 5 ∧ ¬ m2 91 6 = m1 91 6 ∧ r2 = 2))
    (fX : ∀ c j, ¬ (c = 23 ∧ (j = 4 ∨ j = 5)) → m1 c j = τ c j) (fM : ∀ c j, ¬ (c = 91 ∧ (j = 5 ∨ j = 6)) → m2 c j = m1 c j) : ST m2 ∧ r1 = r2 := by
  have a0 : m1 89 93 = τ 29 0 := (fX 89 93 (by omega)).trans t0.symm
  have a1 : m1 89 94 = τ 30 0 := (fX 89 94 (by omega)).trans t1.symm
  have a2 : m1 89 95 = τ 29 1 := (fX 89 95 (by omega)).trans t2.symm
  have a3 : m1 89 96 = τ 30 1 := (fX 89 96 (by omega)).trans t3.symm
  rw [a0, a1] at y0
  rw [a2, a3] at y1
  have z := H.2.2.1
  have b5 : m1 91 5 = τ 91 5 := fX 91 5 (by omega)
  have b6 : m1 91 6 = τ 91 6 := fX 91 6 (by omega)
  have c4 : m2 23 4 = m1 23 4 := fM 23 4 (by omega)
  have c5 : m2 23 5 = m1 23 5 := fM 23 5 (by omega)
  have e4 : m1 23 4 = m2 91 5 := by
    rcases x0 with ⟨p1, p2⟩ | ⟨p1, p2⟩ <;> rcases y0 with ⟨q1, q2⟩ | ⟨q1, q2⟩ <;> omega
  have e5 : m1 23 5 = m2 91 6 := by
    rcases x1 with ⟨p1, p2⟩ | ⟨p1, p2⟩ <;> rcases y1 with ⟨q1, q2⟩ | ⟨q1, q2⟩ <;> omega
  clear x0 x1 y0 y1
  exact ⟨ST_learn H (c4.trans e4) (c5.trans e5) (fun c j h1 h2 => (fM c j h2).trans (fX c j (by omega))), by omega⟩
theorem wW_w {σ : tw_M} {n : Nat} (c : 300 ≤ n ∧ n < 505) : wW 1 σ n = (if (n - 300) % 5 = 0 then σ 4 ((n - 300) / 5) else if (n - 300) % 5 = 1 then σ 5 ((n - 300) / 5) else if (n - 300) % 5 = 2 then σ 6 ((n - 300) / 5) else if (n - 300) % 5 = 3 then σ 7 ((n - 300) / 5) else σ 8 ((n - 300) / 5)) := by
  unfold wW
  rw [if_neg (by omega), if_neg (by omega), if_pos c]
theorem wM_w {σ : tw_M} {n : Nat} (c : 300 ≤ n ∧ n < 505) : wM σ n = σ 92 (n - 300) := by
  unfold wM
  rw [if_neg (by omega), if_neg (by omega), if_pos c]
theorem WLS (H : wW 1 τ = wM τ) {h k : Nat} (hh : h ≤ 40) (hk : k < 5) : (if k = 0 then τ 4 h else if k = 1 then τ 5 h else if k = 2 then τ 6 h else if k = 3 then τ 7 h else τ 8 h) = τ 92 (5 * h + k) := by
  have e := congrFun H (300 + (5 * h + k))
  rw [wW_w (by omega), wM_w (by omega), show (300 + (5 * h + k) - 300) % 5 = k by omega, show (300 + (5 * h + k) - 300) / 5 = h by omega, show 300 + (5 * h + k) - 300 = 5 * h + k by omega] at e
  exact e
theorem ST_rule {w : Int} (H : ST τ) (x : (w = 5 ∧ r1 = τ 23 4) ∨ (w = 6 ∧ r1 = τ 23 5) ∨ ((0 ≤ w ∧ w < 9 ∧ ¬ w = 5 ∧ ¬ w = 6) ∧ r1 = τ 2 w.toNat) ∨ ((11 ≤ w ∧ w ≤ 20) ∧ r1 = τ 28 (w - 10).toNat) ∨ (r1 = -1 ∧ ¬ (0 ≤ w ∧ w < 9) ∧ ¬ (11 ≤ w ∧ w ≤ 20)))
    (y : ((0 ≤ w ∧ w < 9) ∧ r2 = τ 91 w.toNat) ∨ ((11 ≤ w ∧ w ≤ 20) ∧ r2 = τ 89 (72 + w).toNat) ∨ (r2 = -1 ∧ ¬ (0 ≤ w ∧ w < 9) ∧ ¬ (11 ≤ w ∧ w ≤ 20))) : r1 = r2 := by
  rcases x with ⟨a, b⟩ | ⟨a, b⟩ | ⟨a, b⟩ | ⟨a, b⟩ | ⟨a, b, c⟩
  · have z := H.2.2.1.1
    rw [a] at y
    rcases y with ⟨_, d⟩ | ⟨d, _⟩ | ⟨_, d, _⟩
    · have d' : r2 = τ 91 5 := d
      omega
    · omega
    · omega
  · have z := H.2.2.1.2
    rw [a] at y
    rcases y with ⟨_, d⟩ | ⟨d, _⟩ | ⟨_, d, _⟩
    · have d' : r2 = τ 91 6 := d
      omega
    · omega
    · omega
  · have z := congrFun H.1 (100 + w.toNat)
    rw [wW_r ⟨by omega, by omega, by omega⟩, wM_r ⟨by omega, by omega, by omega⟩] at z
    rcases y with ⟨_, d⟩ | ⟨d, _⟩ | ⟨_, d, _⟩
    · rw [b, d]; exact z
    · omega
    · omega
  · have z : τ 28 (w - 10).toNat = τ 89 (0 + 82 + (w - 10)).toNat := H.2.1.2.1 (w - 10) (by omega) (by omega)
    rw [show (0 + 82 + (w - 10)).toNat = (72 + w).toNat by omega] at z
    rcases y with ⟨d, _⟩ | ⟨_, d⟩ | ⟨_, _, d⟩
    · omega
    · rw [b, d]; exact z
    · omega
  · rcases y with ⟨d, _⟩ | ⟨d, _⟩ | ⟨d, _⟩
    · omega
    · omega
    · omega
theorem ST_foot {w : Int} (H : ST τ) (x : (r1 = -1 ∧ (¬ (1 ≤ h ∧ h ≤ τ 2 0) ∨ ¬ (0 ≤ w ∧ w ≤ 5))) ∨ ((1 ≤ h ∧ h ≤ τ 2 0) ∧ ((w = 0 ∧ r1 = τ 4 h.toNat) ∨ (w = 1 ∧ r1 = τ 5 h.toNat) ∨ (w = 2 ∧ r1 = τ 6 h.toNat) ∨ (w = 3 ∧ r1 = τ 7 h.toNat) ∨ (w = 4 ∧ r1 = τ 8 h.toNat) ∨ (w = 5 ∧ ((0 ≤ r1 ∧ r1 < τ 24 0 ∧ τ 25 r1.toNat = h) ∨ (r1 = -4 ∧ ∀ k : Nat, (k : Int) < τ 24 0 → ¬ τ 25 k = h))))))
    (y : (r2 = -1 ∧ (¬ (1 ≤ h ∧ h ≤ τ 91 0) ∨ ¬ (0 ≤ w ∧ w ≤ 5))) ∨ ((1 ≤ h ∧ h ≤ τ 91 0) ∧ ((0 ≤ w ∧ w ≤ 4 ∧ r2 = τ 92 (5 * h + w).toNat) ∨ (w = 5 ∧ ((0 < τ 89 h.toNat ∧ r2 = cnt (gM 0 τ) h.toNat - 1) ∨ (τ 89 h.toNat ≤ 0 ∧ r2 = -4)))))) (ht : τ 91 0 ≤ 40) : r1 = r2 := by
  have r0 : wW 1 τ 100 = wM τ 100 := by rw [H.1]
  have r1' : wM τ 100 = τ 91 0 := wM_r (j := 0) (by decide)
  have r2' : wW 1 τ 100 = τ 2 0 := wW_r (w := 1) (j := 0) (by decide)
  rcases x with ⟨a, b⟩ | ⟨a, b⟩
  · rcases y with ⟨c, d⟩ | ⟨c, d⟩
    · omega
    · exfalso
      rcases d with ⟨d1, d2, _⟩ | ⟨d1, _⟩ <;> omega
  · rcases y with ⟨c, d⟩ | ⟨c, d⟩
    · exfalso
      rcases b with ⟨b, _⟩ | ⟨b, _⟩ | ⟨b, _⟩ | ⟨b, _⟩ | ⟨b, _⟩ | ⟨b, _⟩ <;> omega
    · have wl : ∀ k : Nat, k < 5 → (if k = 0 then τ 4 h.toNat else if k = 1 then τ 5 h.toNat else if k = 2 then τ 6 h.toNat else if k = 3 then τ 7 h.toNat else τ 8 h.toNat) = τ 92 (5 * h + (k : Int)).toNat := fun k hk => by
        rw [WLS H.1 (by omega) hk, show (5 * h + (k : Int)).toNat = 5 * h.toNat + k by omega]
      rcases b with ⟨b, e⟩ | ⟨b, e⟩ | ⟨b, e⟩ | ⟨b, e⟩ | ⟨b, e⟩ | ⟨b, e⟩
      · rcases d with ⟨_, _, d⟩ | ⟨d, _⟩
        · rw [e, d, b]; exact wl 0 (by decide)
        · omega
      · rcases d with ⟨_, _, d⟩ | ⟨d, _⟩
        · rw [e, d, b]; exact wl 1 (by decide)
        · omega
      · rcases d with ⟨_, _, d⟩ | ⟨d, _⟩
        · rw [e, d, b]; exact wl 2 (by decide)
        · omega
      · rcases d with ⟨_, _, d⟩ | ⟨d, _⟩
        · rw [e, d, b]; exact wl 3 (by decide)
        · omega
      · rcases d with ⟨_, _, d⟩ | ⟨d, _⟩
        · rw [e, d, b]; exact wl 4 (by decide)
        · omega
      · rcases d with ⟨_, d, _⟩ | ⟨_, d⟩
        · omega
        · have l := RG_look H.2.1.1 e (by omega)
          have g9 : gM 0 τ h.toNat = τ 89 h.toNat := (gM_at (b := 0) ⟨by omega, by omega⟩).trans (by rw [show (0 + h).toNat = h.toNat by omega])
          rcases l with ⟨l1, l2, l3⟩ | ⟨l1, l2⟩ <;> rcases d with ⟨d1, d2⟩ | ⟨d1, d2⟩ <;> omega
end CASES
