/-! READING A SHEET, step by step, by both. -/
theorem w32_up {a : Int} (h : 2147483647 < a) (h2 : a ≤ 4294967295) : tw_w32 a < 0 := by
  have e : (Int32.ofInt a).toInt = a.bmod (2^32) := Int32.toInt_ofInt
  unfold tw_w32
  rw [e, Int.bmod_def]
  split <;> omega
def CC (c : Nat) (σ : tw_M) (x : Int) : Int := if 0 ≤ x ∧ x < 40 then σ c x.toNat else 0
def CM (k : Int) (σ : tw_M) (x : Int) : Int := if 0 ≤ x ∧ x < 40 then σ 106 (40 * k + x).toNat else 0
theorem CC_at {c : Nat} {σ : tw_M} {x : Int} (h : 0 ≤ x ∧ x < 40) : CC c σ x = σ c x.toNat := if_pos h
theorem CM_at {k : Int} {σ : tw_M} {x : Int} (h : 0 ≤ x ∧ x < 40) : CM k σ x = σ 106 (40 * k + x).toNat := if_pos h
theorem why_eq {W W' : PTG} {gh gh' n n' rs rs' h s : Int} (e1 : W = W') (e2 : gh = gh') (e3 : n = n') (e4 : 1 ≤ s → s ≤ 10 → rs = rs') : whyS W gh n rs h s = whyS W' gh' n' rs' h s := by
  subst e1; subst e2; subst e3
  by_cases z : 1 ≤ s ∧ s ≤ 10
  · rw [e4 z.1 z.2]
  · rw [why_1 (by omega), why_1 (by omega)]
/-- the class's hand when i are put -/
def RDX (rk : PTG) (C : Int → Int) (f : Int) (g q : PTG) (i : Nat) (σ : tw_M) : Prop := RG 24 (rdG C f g i) (rdQ C f q i) σ ∧ CNR rk (rdG C f g i) 28 σ
/-- the reference's -/
def RDM (rk : PTG) (C : Int → Int) (f : Int) (i : Nat) (σ τ : tw_M) : Prop := gM 0 τ = rdG C f (gM 0 σ) i ∧ qM 0 τ = rdQ C f (qM 0 σ) i ∧ MOB rk 0 τ
theorem CON_put {rk g : PTG} {h s : Int} {R R' : Int → Int} (H : CON rk g R) (hh : 1 ≤ h ∧ h ≤ 40) (hs : 1 ≤ s ∧ s ≤ 10) (hg : g h.toNat = 0) (hR : ¬ R s = 0) (r1 : R' s = R s - 1) (r2 : ∀ x : Int, 1 ≤ x → x ≤ 10 → ¬ x = s → R' x = R x) : CON rk (pg g h.toNat s) R' := by
  intro x x1 x2
  have y := H x x1 x2
  by_cases q : x = s
  · subst q
    rw [csz_pg (by omega) (by omega) (by omega), r1]
    omega
  · rw [csz_pn (by omega) (fun z => q z.symm), r2 x x1 x2 q]
    exact y
theorem RDX_F {rk : PTG} {C : Int → Int} {f : Int} {g q : PTG} {i : Nat} {σ τ : tw_M} (H : RDX rk C f g q i σ) (h : ∀ c j : Nat, 24 ≤ c → c < 29 → τ c j = σ c j) : RDX rk C f g q i τ :=
  ⟨RG_F H.1 (fun c j a b => h c j (by omega) (by omega)), fun x x1 x2 => by
    have y := H.2 x x1 x2
    show τ 28 x.toNat + _ = _ ∧ 0 ≤ τ 28 x.toNat ∧ _
    rw [h 28 _ (by omega) (by omega)]
    exact y⟩
theorem RDX_s {W rk gg qq : PTG} {C : Int → Int} {f h s r : Int} {i : Nat} {τ m : tw_M} (H : RDX rk C f gg qq i τ) (eh : h = C (f + 2 * (i : Int))) (es : s = C (f + 2 * (i : Int) + 1)) (hW : W 100 ≤ 40)
    (hp : (¬ whyS W (rdG C f gg i h.toNat) (τ 24 0) (τ 28 s.toNat) h s = 0 ∧ r = whyS W (rdG C f gg i h.toNat) (τ 24 0) (τ 28 s.toNat) h s ∧ ∀ c j, m c j = τ c j) ∨ (whyS W (rdG C f gg i h.toNat) (τ 24 0) (τ 28 s.toNat) h s = 0 ∧ r = cnt (rdG C f gg i) h.toNat ∧ RG 24 (pg (rdG C f gg i) h.toNat s) (pg (rdQ C f qq i) h.toNat 0) m ∧ m 28 s.toNat = τ 28 s.toNat - 1 ∧ ∀ j : Nat, ¬ j = s.toNat → m 28 j = τ 28 j)) :
    (r < 0 ∧ ¬ rdO W rk C f gg i = 0) ∨ (0 ≤ r ∧ rdO W rk C f gg i = 0 ∧ RDX rk C f gg qq (i + 1) m) := by
  have n := RG_all40 H.1
  have e : whyS W (rdG C f gg i h.toNat) (τ 24 0) (τ 28 s.toNat) h s = rdO W rk C f gg i := by
    unfold rdO
    rw [← eh, ← es]
    exact why_eq rfl rfl n.symm (fun s1 s2 => by
      have y : τ 28 s.toNat + csz (rdG C f gg i) s 40 = rk s.toNat ∧ 0 ≤ τ 28 s.toNat ∧ rk s.toNat ≤ 5 := H.2 s s1 s2
      omega)
  rcases hp with ⟨a, b, _⟩ | ⟨a, b, c, d, k⟩
  · have z := why_in (W := W) (gh := rdG C f gg i h.toNat) (n := τ 24 0) (rs := τ 28 s.toNat) (h := h) (s := s)
    exact Or.inl ⟨by omega, by rw [← e]; exact a⟩
  · have ok := why_ok a
    refine Or.inr ⟨by have := (cnt_in (rdG C f gg i) h.toNat).1; omega, e.symm.trans a, ?_, ?_⟩
    · show RG 24 (pg (rdG C f gg i) (C (f + 2 * (i : Int))).toNat (C (f + 2 * (i : Int) + 1))) (pg (rdQ C f qq i) (C (f + 2 * (i : Int))).toNat 0) m
      rw [← eh, ← es]
      exact c
    · show CON rk (pg (rdG C f gg i) (C (f + 2 * (i : Int))).toNat (C (f + 2 * (i : Int) + 1))) (fun x => m 28 x.toNat)
      rw [← eh, ← es]
      exact CON_put (R := fun x => τ 28 x.toNat) H.2 ⟨ok.1.1, by omega⟩ ⟨ok.1.2.2.1, ok.1.2.2.2⟩ (by omega) ok.2.2.2 d (fun x x1 x2 hx => k _ (by omega))
theorem MOB_put {rk : PTG} {σ τ : tw_M} {h s : Int} (H : MOB rk 0 σ) (hh : 1 ≤ h ∧ h ≤ σ 91 0) (ht : σ 91 0 ≤ 40) (hs : 1 ≤ s ∧ s ≤ 10) (hg : gM 0 σ h.toNat = 0) (hp : ¬ σ 89 (82 + s).toNat = 0)
    (m1 : τ 89 h.toNat = s) (m2 : τ 89 (41 + h).toNat = 0) (m3 : τ 89 (82 + s).toNat = σ 89 (82 + s).toNat - 1) (m4 : ∀ j : Nat, ¬ j = h.toNat → ¬ j = (41 + h).toNat → ¬ j = (82 + s).toNat → τ 89 j = σ 89 j) (m5 : τ 91 0 = σ 91 0) : gM 0 τ = pg (gM 0 σ) h.toNat s ∧ qM 0 τ = pg (qM 0 σ) h.toNat 0 ∧ MOB rk 0 τ := by
  have eg : gM 0 τ = pg (gM 0 σ) h.toNat s := by
    funext f
    by_cases q : f = h.toNat
    · have e := gM_at (b := 0) (f := h) (σ := τ) ⟨hh.1, by omega⟩
      rw [show (0 + h).toNat = h.toNat by omega] at e
      rw [q, pg_eq, e, m1]
    · rw [pg_ne q]
      unfold gM
      by_cases z : 1 ≤ f ∧ f ≤ 40
      · rw [if_pos z, if_pos z]
        exact m4 _ (by omega) (by omega) (by omega)
      · rw [if_neg z, if_neg z]
  have eq : qM 0 τ = pg (qM 0 σ) h.toNat 0 := by
    funext f
    by_cases q : f = h.toNat
    · have e := qM_at (b := 0) (f := h) (σ := τ) ⟨hh.1, by omega⟩
      rw [show (0 + 41 + h).toNat = (41 + h).toNat by omega] at e
      rw [q, pg_eq, e, m2]
    · rw [pg_ne q]
      unfold qM
      by_cases z : 1 ≤ f ∧ f ≤ 40
      · rw [if_pos z, if_pos z]
        exact m4 _ (by omega) (by omega) (by omega)
      · rw [if_neg z, if_neg z]
  obtain ⟨c1, c2, c3⟩ := H
  refine ⟨eg, eq, ?_, fun f f1 f2 => ?_, fun f f1 f2 f3 => ?_⟩
  · rw [eg]
    refine CON_put c1 ⟨hh.1, by omega⟩ hs hg ?_ ?_ (fun x x1 x2 hx => m4 _ (by omega) (by omega) (by omega))
    · show ¬ σ 89 (0 + 82 + s).toNat = 0
      rw [show (0 + 82 + s).toNat = (82 + s).toNat by omega]; exact hp
    · show τ 89 (0 + 82 + s).toNat = σ 89 (0 + 82 + s).toNat - 1
      rw [show (0 + 82 + s).toNat = (82 + s).toNat by omega]; exact m3
  · rw [eg, pg_ne (by omega)]
    exact c2 f (by omega) f2
  · rw [eg] at f3
    rw [eq]
    by_cases q : f.toNat = h.toNat
    · rw [q, pg_eq]
    · rw [pg_ne q] at f3 ⊢
      exact c3 f f1 f2 f3
theorem RDM_s {W rk : PTG} {C : Int → Int} {f h s r : Int} {i : Nat} {σ τ m : tw_M} (H : RDM rk C f i σ τ) (eh : h = C (f + 2 * (i : Int))) (es : s = C (f + 2 * (i : Int) + 1)) (hW : wM τ = W) (ht : 1 ≤ τ 91 0 ∧ τ 91 0 ≤ 40) (h91 : m 91 0 = τ 91 0)
    (hp : (¬ whyS (wM τ) (gM 0 τ h.toNat) (cnt (gM 0 τ) (τ 91 0).toNat) (τ 89 (82 + s).toNat) h s = 0 ∧ r = whyS (wM τ) (gM 0 τ h.toNat) (cnt (gM 0 τ) (τ 91 0).toNat) (τ 89 (82 + s).toNat) h s ∧ ∀ c j, m c j = τ c j) ∨
      (whyS (wM τ) (gM 0 τ h.toNat) (cnt (gM 0 τ) (τ 91 0).toNat) (τ 89 (82 + s).toNat) h s = 0 ∧ r = cnt (gM 0 τ) h.toNat ∧ m 89 h.toNat = s ∧ m 89 (41 + h).toNat = 0 ∧ (τ 89 (82 + s).toNat < 0 ∨ m 89 (82 + s).toNat = τ 89 (82 + s).toNat - 1) ∧ ∀ j : Nat, ¬ j = h.toNat → ¬ j = (41 + h).toNat → ¬ j = (82 + s).toNat → m 89 j = τ 89 j)) :
    (r < 0 ∧ ¬ rdO W rk C f (gM 0 σ) i = 0) ∨ (0 ≤ r ∧ rdO W rk C f (gM 0 σ) i = 0 ∧ RDM rk C f (i + 1) σ m) := by
  obtain ⟨g1, g2, g3⟩ := H
  have c40 : cnt (gM 0 τ) 40 = cnt (gM 0 τ) (τ 91 0).toNat := cnt_zero (by omega) (fun f f1 f2 => by
    have e := g3.2.1 (f : Int) (by omega) (by omega)
    rw [show ((f : Nat) : Int).toNat = f by omega] at e
    omega)
  have e : whyS (wM τ) (gM 0 τ h.toNat) (cnt (gM 0 τ) (τ 91 0).toNat) (τ 89 (82 + s).toNat) h s = rdO W rk C f (gM 0 σ) i := by
    unfold rdO
    rw [← eh, ← es, ← g1]
    exact why_eq hW rfl c40.symm (fun s1 s2 => by
      have y : τ 89 (0 + 82 + s).toNat + csz (gM 0 τ) s 40 = rk s.toNat ∧ 0 ≤ τ 89 (0 + 82 + s).toNat ∧ rk s.toNat ≤ 5 := g3.1 s s1 s2
      rw [show (0 + 82 + s).toNat = (82 + s).toNat by omega] at y
      omega)
  rcases hp with ⟨a, b, _⟩ | ⟨a, b, c, d, k, l⟩
  · have z := why_in (W := wM τ) (gh := gM 0 τ h.toNat) (n := cnt (gM 0 τ) (τ 91 0).toNat) (rs := τ 89 (82 + s).toNat) (h := h) (s := s)
    exact Or.inl ⟨by omega, by rw [← e]; exact a⟩
  · have ok := why_ok a
    have r0 : wM τ 100 = τ 91 0 := wM_r (j := 0) (by decide)
    have y : τ 89 (0 + 82 + s).toNat + csz (gM 0 τ) s 40 = rk s.toNat ∧ 0 ≤ τ 89 (0 + 82 + s).toNat ∧ rk s.toNat ≤ 5 := g3.1 s ok.1.2.2.1 ok.1.2.2.2
    rw [show (0 + 82 + s).toNat = (82 + s).toNat by omega] at y
    obtain ⟨p1, p2, p3⟩ := MOB_put g3 ⟨ok.1.1, by omega⟩ ht.2 ⟨ok.1.2.2.1, ok.1.2.2.2⟩ (by omega) ok.2.2.2 c d (by omega) l h91
    refine Or.inr ⟨by have := (cnt_in (gM 0 τ) h.toNat).1; omega, e.symm.trans a, ?_, ?_, p3⟩
    · rw [p1, g1]
      show pg (rdG C f (gM 0 σ) i) h.toNat s = pg (rdG C f (gM 0 σ) i) (C (f + 2 * (i : Int))).toNat (C (f + 2 * (i : Int) + 1))
      rw [← eh, ← es]
    · rw [p2, g2]
      show pg (rdQ C f (qM 0 σ) i) h.toNat 0 = pg (rdQ C f (qM 0 σ) i) (C (f + 2 * (i : Int))).toNat 0
      rw [← eh]
theorem RDM_0 {rk : PTG} {C : Int → Int} {f : Int} {σ τ : tw_M} (M : MOB rk 0 σ) (h : ∀ j : Nat, j < 93 → τ 89 j = σ 89 j) (h91 : τ 91 0 = σ 91 0) : RDM rk C f 0 σ τ :=
  ⟨gM_F (fun f f1 f2 => h _ (by omega)), qM_F (fun f f1 f2 => h _ (by omega)), MOB_c M (fun j j1 j2 => h _ (by omega)) h91⟩
theorem RDM_F {rk : PTG} {C : Int → Int} {f : Int} {i : Nat} {σ τ m : tw_M} (H : RDM rk C f i σ τ) (h : ∀ j : Nat, j < 93 → m 89 j = τ 89 j) (h91 : m 91 0 = τ 91 0) : RDM rk C f i σ m := by
  obtain ⟨a, b, c⟩ := H
  have e1 : gM 0 m = gM 0 τ := gM_F (fun f f1 f2 => h _ (by omega))
  have e2 : qM 0 m = qM 0 τ := qM_F (fun f f1 f2 => h _ (by omega))
  exact ⟨e1.trans a, e2.trans b, MOB_c c (fun j j1 j2 => h _ (by omega)) h91⟩
theorem CPY_F {u t : Nat} {σ τ τ' : tw_M} (H : CPY u t σ τ) (h : ∀ c j : Nat, u ≤ c → c < u + 6 → τ' c j = τ c j) : CPY u t σ τ' := by
  obtain ⟨a, b, c, d, e⟩ := H
  exact ⟨(h _ _ (by omega) (by omega)).trans a, fun k j k1 k2 k3 => (h _ _ (by omega) (by omega)).trans (b k j k1 k2 k3), fun j hj => (h _ _ (by omega) (by omega)).trans (c j hj), (h _ _ (by omega) (by omega)).trans d, (h _ _ (by omega) (by omega)).trans e⟩
theorem CPY_t {u v t : Nat} {σ τ τ' : tw_M} (H : CPY u t σ τ) (K : CPY v u τ τ') : CPY v t σ τ' := by
  obtain ⟨a, b, c, d, e⟩ := H
  obtain ⟨a', b', c', d', e'⟩ := K
  exact ⟨a'.trans a, fun k j k1 k2 k3 => (b' k j k1 k2 k3).trans (b k j k1 k2 k3), fun j hj => (c' j hj).trans (c j hj), d'.trans d, e'.trans e⟩
/-- the hand is back -/
theorem RDX_0 {rk gg qq : PTG} {C : Int → Int} {f : Int} {σ τ : tw_M} (H : RG 24 gg qq σ) (N : CNR rk gg 28 σ) (K : CPY 23 23 σ τ) : RDX rk C f gg qq 0 τ := by
  obtain ⟨a, b, c, _, _⟩ := K
  refine ⟨RG_copy H a b, fun x x1 x2 => ?_⟩
  have y := N x x1 x2
  show τ 28 x.toNat + _ = _ ∧ 0 ≤ τ 28 x.toNat ∧ _
  rw [c x.toNat (by omega)]
  exact y
