/-! THE REFERENCE'S TABLES: stances, pitches, bolts; what its searches keep. -/
def mSt (σ : tw_M) (h : Int) : Prop := h = σ 91 0 ∨ σ 92 (5 * h + 2).toNat = 1 ∨ σ 92 (5 * h + 3).toNat = 1
theorem mSt_congr {σ τ : tw_M} {h : Int} (H : ∀ j, τ 92 j = σ 92 j) (H2 : τ 91 0 = σ 91 0) : mSt τ h ↔ mSt σ h := by
  unfold mSt
  simp only [H, H2]
/-- a number in a table: none, nought, or one more than a higher one that may follow -/
def TOK (t : Int) (ok : Int → Int → Prop) (T : Nat → Int) (j : Int) : Prop :=
  T j.toNat = -4 ∨ T j.toNat = 0 ∨ (1 ≤ T j.toNat ∧ T j.toNat ≤ t - j ∧ ∃ f : Int, j < f ∧ f ≤ t ∧ ok j f ∧ ¬ T f.toNat = -4 ∧ T f.toNat + 1 = T j.toNat)
theorem TOK_in {t : Int} {ok : Int → Int → Prop} {T : Nat → Int} {f : Int} (h : TOK t ok T f) (hf : f ≤ t) (hn : ¬ T f.toNat = -4) : 0 ≤ T f.toNat ∧ T f.toNat ≤ t - f := by
  rcases h with h | h | ⟨h1, h2, _⟩
  · exact absurd h hn
  · omega
  · omega
theorem TOK_new {t : Int} {ok : Int → Int → Prop} {T : Nat → Int} {h f v : Int} (h1 : h < f) (h2 : f ≤ t) (h3 : ok h f) (h4 : ¬ T f.toNat = -4) (H : TOK t ok T f) (e : v = T f.toNat + 1) :
    v = -4 ∨ v = 0 ∨ (1 ≤ v ∧ v ≤ t - h ∧ ∃ f : Int, h < f ∧ f ≤ t ∧ ok h f ∧ ¬ T f.toNat = -4 ∧ T f.toNat + 1 = v) := by
  have b := TOK_in H h2 h4
  exact Or.inr (Or.inr ⟨by omega, by omega, f, h1, h2, h3, h4, e.symm⟩)
theorem TOK_old {t : Int} {ok : Int → Int → Prop} {T : Nat → Int} {h v : Int} (H : TOK t ok T h) (e : v = T h.toNat) :
    v = -4 ∨ v = 0 ∨ (1 ≤ v ∧ v ≤ t - h ∧ ∃ f : Int, h < f ∧ f ≤ t ∧ ok h f ∧ ¬ T f.toNat = -4 ∧ T f.toNat + 1 = v) := by
  subst e
  exact H
theorem TOK_up {t : Int} {ok : Int → Int → Prop} {τ τ' : tw_M} {c : Nat} {h v : Int} (e : τ' = tw_up τ c h.toNat v) (h0 : 0 ≤ h) (H : ∀ j : Int, h < j → j ≤ t → TOK t ok (τ c) j)
    (hv : v = -4 ∨ v = 0 ∨ (1 ≤ v ∧ v ≤ t - h ∧ ∃ f : Int, h < f ∧ f ≤ t ∧ ok h f ∧ ¬ τ c f.toNat = -4 ∧ τ c f.toNat + 1 = v)) : ∀ j : Int, h ≤ j → j ≤ t → TOK t ok (τ' c) j := by
  intro j hj ht
  have k : ∀ x : Int, h < x → τ' c x.toNat = τ c x.toNat := fun x hx => tw_ne1 e (Or.inr (by omega))
  unfold TOK
  by_cases q : j = h
  · subst q
    rw [tw_eq1 e]
    rcases hv with hv | hv | ⟨a, b, f, f1, f2, f3, f4, f5⟩
    · exact Or.inl hv
    · exact Or.inr (Or.inl hv)
    · exact Or.inr (Or.inr ⟨a, b, f, f1, f2, f3, by rw [k f f1]; exact f4, by rw [k f f1]; exact f5⟩)
  · rw [k j (by omega)]
    rcases H j (by omega) ht with hv | hv | ⟨a, b, f, f1, f2, f3, f4, f5⟩
    · exact Or.inl hv
    · exact Or.inr (Or.inl hv)
    · exact Or.inr (Or.inr ⟨a, b, f, f1, f2, f3, by rw [k f (by omega)]; exact f4, by rw [k f (by omega)]; exact f5⟩)
theorem TOK_F {t : Int} {ok : Int → Int → Prop} {τ τ' : tw_M} {c : Nat} {j : Int} (h : ∀ x, τ' c x = τ c x) (H : TOK t ok (τ c) j) : TOK t ok (τ' c) j := by
  unfold TOK at *
  simp only [h]
  exact H
/-- the one that must be found -/
def TW (t : Int) (ok : Int → Int → Prop) (T : Nat → Int) (a f : Int) : Prop := ∃ w : Int, f ≤ w ∧ w ≤ t ∧ ok a w ∧ ¬ T w.toNat = -4 ∧ T w.toNat + 1 = T a.toNat
theorem TW_0 {t : Int} {ok : Int → Int → Prop} {T : Nat → Int} {a : Int} (H : TOK t ok T a) (h : 1 ≤ T a.toNat) : TW t ok T a (a + 1) := by
  rcases H with H | H | ⟨_, _, f, f1, f2, f3, f4, f5⟩
  · omega
  · omega
  · exact ⟨f, by omega, f2, f3, f4, f5⟩
theorem TW_s {t : Int} {ok : Int → Int → Prop} {T : Nat → Int} {a f : Int} (H : TW t ok T a f) (h : ¬ (ok a f ∧ ¬ T f.toNat = -4 ∧ T f.toNat + 1 = T a.toNat)) : TW t ok T a (f + 1) := by
  obtain ⟨w, w1, w2, w3, w4, w5⟩ := H
  refine ⟨w, ?_, w2, w3, w4, w5⟩
  by_cases q : w = f
  · subst q; exact absurd ⟨w3, w4, w5⟩ h
  · omega
theorem TW_le {t : Int} {ok : Int → Int → Prop} {T : Nat → Int} {a f : Int} (H : TW t ok T a f) : f ≤ t := by
  obtain ⟨w, w1, w2, _⟩ := H
  omega
theorem TW_F {t : Int} {ok : Int → Int → Prop} {τ τ' : tw_M} {c : Nat} {a f : Int} (h : ∀ x, τ' c x = τ c x) (H : TW t ok (τ c) a f) : TW t ok (τ' c) a f := by
  unfold TW at *
  simp only [h]
  exact H
def mIC (σ : tw_M) (h b : Int) : Prop := NSt σ (tw_w32 (h - mD σ h b)) h
def mAC (σ : tw_M) (l g b : Int) : Prop := ∀ h : Int, l ≤ h → h ≤ g → mIC σ h b
theorem mIC_congr {σ τ : tw_M} {h b : Int} (H : ∀ j, τ 92 j = σ 92 j) (H2 : τ 91 4 = σ 91 4) : mIC τ h b ↔ mIC σ h b := by
  unfold mIC mD
  rw [H2]
  exact NSt_congr H
theorem mAC_congr {σ τ : tw_M} {l g b : Int} (H : ∀ j, τ 92 j = σ 92 j) (H2 : τ 91 4 = σ 91 4) : mAC τ l g b ↔ mAC σ l g b := by
  unfold mAC
  simp only [mIC_congr H H2]
def AI (σ : tw_M) (l h b i : Int) : Prop := (i = 1 ∧ mAC σ l (h - 1) b) ∨ (i = 0 ∧ ¬ mAC σ l (h - 1) b)
theorem AI_0 {σ : tw_M} {l b : Int} : AI σ l l b 1 := Or.inl ⟨rfl, fun h h1 h2 => by exfalso; omega⟩
theorem AI_f {σ : tw_M} {l h b i : Int} (H : AI σ l h b i) (hi : i = 0) (hl : l ≤ h) : AI σ l (h + 1) b 0 := by
  rcases H with ⟨a, _⟩ | ⟨_, q⟩
  · omega
  · exact Or.inr ⟨rfl, fun k => q (fun x x1 x2 => k x x1 (by omega))⟩
theorem AI_t {σ : tw_M} {l h b i : Int} (H : AI σ l h b i) (hi : ¬ i = 0) (k : mIC σ h b) : AI σ l (h + 1) b 1 := by
  rcases H with ⟨_, q⟩ | ⟨a, _⟩
  · refine Or.inl ⟨rfl, fun x x1 x2 => ?_⟩
    by_cases e : x = h
    · subst e; exact k
    · exact q x x1 (by omega)
  · exact absurd a hi
theorem AI_n {σ : tw_M} {l h b : Int} (hl : l ≤ h) (k : ¬ mIC σ h b) : AI σ l (h + 1) b 0 := Or.inr ⟨rfl, fun q => k (q h hl (by omega))⟩
theorem AI_end {σ : tw_M} {l h g b i : Int} (H : AI σ l h b i) (h1 : g < h) (h2 : h = l ∨ h ≤ g + 1) : (i = 1 ∧ mAC σ l g b) ∨ (i = 0 ∧ ¬ mAC σ l g b) := by
  have e : mAC σ l (h - 1) b ↔ mAC σ l g b := by
    rcases h2 with h2 | h2
    · exact ⟨fun _ x x1 x2 => by exfalso; omega, fun _ x x1 x2 => by exfalso; omega⟩
    · rw [show h - 1 = g by omega]
  unfold AI at H
  rw [e] at H
  exact H
theorem b01 {r : Int} {p : Prop} (h : (r = 1 ∧ p) ∨ (r = 0 ∧ ¬ p)) : (¬ r = 0 → p) ∧ (r = 0 → ¬ p) := by
  rcases h with ⟨a, b⟩ | ⟨a, b⟩
  · exact ⟨fun _ => b, fun q => by omega⟩
  · exact ⟨fun q => absurd a q, fun _ => b⟩
def okB (σ : tw_M) (b c : Int) : Prop := mAC σ (b + 1) (c - 1) b ∧ mIC σ c c
def okP (σ : tw_M) (_ f : Int) : Prop := mSt σ f
theorem r5w {j : Nat} {v : Int} (hj : j = 5 ∨ j = 6) (h : -2147483648 ≤ v ∧ v ≤ 2147483647) : (tw_b 91 j).1 ≤ v ∧ v ≤ (tw_b 91 j).2 := by
  rcases hj with rfl | rfl <;> exact h
theorem t9_s {σ : tw_M} {s : Int} (hs : 0 ≤ s ∧ s ≤ 1) (hI : tw_I σ) (h : mI σ) (hn : ¬ σ 89 93 + σ 89 95 = 999) : 0 ≤ σ 89 (93 + 2 * s).toNat ∧ σ 89 (93 + 2 * s).toNat ≤ 998 := by
  have h4 := h.2.2.2.1
  have a : (0 : Int) ≤ σ 89 93 ∧ σ 89 93 ≤ 999 := hI 89 93
  have b : (0 : Int) ≤ σ 89 95 ∧ σ 89 95 ≤ 999 := hI 89 95
  have e : (93 + 2 * s).toNat = 93 ∨ (93 + 2 * s).toNat = 95 := by omega
  rcases e with e | e <;> rw [e] <;> omega
/-- what is kept where only the pieces, slings, rack and tries of the climb itself change -/
theorem mI_mk {σ τ : tw_M} (hI : tw_I σ) (h : mI σ) (hc : mc τ 0 (σ 91 0).toNat ≤ 10) (t : τ 89 93 + τ 89 95 ≤ 999) (a : ∀ j, 100 ≤ j → j < 300 → τ 89 j = σ 89 j) (b : ∀ j, τ 90 j = σ 90 j) (c : τ 91 0 = σ 91 0) : mI τ := by
  have ft : (1 : Int) ≤ σ 91 0 ∧ σ 91 0 ≤ 40 := hI 91 0
  obtain ⟨m1, m2, m3, m4, m5, m6⟩ := h
  refine ⟨by rw [c]; exact hc, ?_, ?_, t, ?_, ?_⟩
  · rw [c, b, mc_congr (σ := σ) (b := 100) (fun f h1 h2 => a _ (by omega) (by omega))]; exact m2
  · rw [c, b, mc_congr (σ := σ) (b := 200) (fun f h1 h2 => a _ (by omega) (by omega))]; exact m3
  · rw [a 193 (by omega) (by omega), a 195 (by omega) (by omega)]; exact m5
  · rw [a 293 (by omega) (by omega), a 295 (by omega) (by omega)]; exact m6
theorem mI_tried {σ τ1 τ : tw_M} {s v w : Int} (hs : 0 ≤ s ∧ s ≤ 1) (hI : tw_I σ) (h : mI σ) (hn : ¬ σ 89 93 + σ 89 95 = 999) (hv : v = σ 89 (93 + 2 * s).toNat + 1) (e1 : τ1 = tw_up σ 89 (93 + 2 * s).toNat v) (e2 : τ = tw_up τ1 89 (93 + 2 * s + 1).toNat w) : mI τ := by
  have ft : (1 : Int) ≤ σ 91 0 ∧ σ 91 0 ≤ 40 := hI 91 0
  have k : ∀ c j : Nat, (c ≠ 89 ∨ (j ≠ (93 + 2 * s).toNat ∧ j ≠ (93 + 2 * s + 1).toNat)) → τ c j = σ c j := by
    intro c j q
    rw [tw_ne1 e2 (by omega), tw_ne1 e1 (by omega)]
  refine mI_mk hI h ?_ ?_ (fun j h1 h2 => k 89 j (by omega)) (fun j => k 90 j (by omega)) (k 91 0 (by omega))
  · rw [mc_congr (σ := σ) (b := 0) (fun f h1 h2 => k 89 _ (by omega))]
    exact h.1
  · have h4 := h.2.2.2.1
    rcases (show s = 0 ∨ s = 1 by omega) with q | q
    · subst q
      rw [k 89 95 (by omega), tw_ne1 e2 (by omega), tw_eq2 e1 (by omega), hv, show (93 + 2 * (0 : Int)).toNat = 93 by rfl]
      omega
    · subst q
      rw [k 89 93 (by omega), tw_ne1 e2 (by omega), tw_eq2 e1 (by omega), hv, show (93 + 2 * (1 : Int)).toNat = 95 by rfl]
      omega
theorem mI_image {σ τ1 τ2 τ3 τ : tw_M} {P : Nat → Nat → Prop} {i : Int} {v5 v6 : Int} (hi : 0 ≤ i ∧ i ≤ 1) (hI : tw_I σ) (h : mI σ) (e1 : τ1 = tw_up σ 90 i.toNat 1) (e2 : τ2 = tw_up τ1 89 97 v5) (e3 : τ3 = tw_up τ2 89 98 v6)
    (hg : tw_F P τ3 τ) (hP : ∀ c j : Nat, (¬ c = 89 ∨ (j : Int) < 100 + 100 * i ∨ 200 + 100 * i ≤ (j : Int)) → ¬ P c j) (q : ∀ j : Nat, (j : Int) < 100 → τ 89 (100 + 100 * i + (j : Int)).toNat = τ3 89 (0 + (j : Int)).toNat) : mI τ := by
  have ft : (1 : Int) ≤ σ 91 0 ∧ σ 91 0 ≤ 40 := hI 91 0
  obtain ⟨m1, m2, m3, m4, m5, m6⟩ := h
  have k3 : ∀ c j : Nat, (c ≠ 90) → (c ≠ 89 ∨ (j ≠ 97 ∧ j ≠ 98)) → τ3 c j = σ c j := by
    intro c j q0 q
    rw [tw_ne1 e3 (by omega), tw_ne1 e2 (by omega), tw_ne1 e1 (by omega)]
  have k : ∀ c j : Nat, c ≠ 90 → (c ≠ 89 ∨ (j ≠ 97 ∧ j ≠ 98 ∧ ((j : Int) < 100 + 100 * i ∨ 200 + 100 * i ≤ (j : Int)))) → τ c j = σ c j := by
    intro c j q0 q
    rw [hg c j (hP c j (by omega)), k3 c j q0 (by omega)]
  have ki : ∀ j : Nat, ¬ (j : Int) = i → τ 90 j = σ 90 j := by
    intro j q
    rw [hg 90 j (hP 90 j (by omega)), tw_ne1 e3 (by omega), tw_ne1 e2 (by omega), tw_ne1 e1 (by omega)]
  have kc : ∀ j : Nat, (j : Int) < 97 → τ 89 (100 + 100 * i + (j : Int)).toNat = σ 89 j := by
    intro j hj
    rw [q j (by omega), k3 _ _ (by omega) (by omega)]
    congr 1
    omega
  have cm : ∀ b : Int, b = 100 + 100 * i → mc τ b (σ 91 0).toNat ≤ 10 := by
    intro b hb
    rw [mc_congr (σ := σ) (b := 0) (fun f h1 h2 => by
      have := kc f.toNat (by omega)
      rw [show (b + f).toNat = (100 + 100 * i + (f.toNat : Int)).toNat by omega, this]
      congr 1
      omega)]
    exact m1
  have t0 : τ 89 93 + τ 89 95 ≤ 999 := by rw [k 89 93 (by omega) (by omega), k 89 95 (by omega) (by omega)]; exact m4
  have c0 : mc τ 0 (σ 91 0).toNat ≤ 10 := by rw [mc_congr (σ := σ) (b := 0) (fun f h1 h2 => k 89 _ (by omega) (by omega))]; exact m1
  have e91 : τ 91 0 = σ 91 0 := k 91 0 (by omega) (by omega)
  rcases (show i = 0 ∨ i = 1 by omega) with r | r
  · subst r
    have x1 := kc 93 (by omega)
    have x2 := kc 95 (by omega)
    refine ⟨by rw [e91]; exact c0, fun _ => by rw [e91]; exact cm 100 (by omega), ?_, t0, ?_, ?_⟩
    · rw [e91, ki 1 (by omega), mc_congr (σ := σ) (b := 200) (fun f h1 h2 => k 89 _ (by omega) (by omega))]; exact m3
    · show τ 89 (100 + 100 * 0 + ((93 : Nat) : Int)).toNat + τ 89 (100 + 100 * 0 + ((95 : Nat) : Int)).toNat ≤ 999
      rw [x1, x2]; exact m4
    · rw [k 89 293 (by omega) (by omega), k 89 295 (by omega) (by omega)]; exact m6
  · subst r
    have x1 := kc 93 (by omega)
    have x2 := kc 95 (by omega)
    refine ⟨by rw [e91]; exact c0, ?_, fun _ => by rw [e91]; exact cm 200 (by omega), t0, ?_, ?_⟩
    · rw [e91, ki 0 (by omega), mc_congr (σ := σ) (b := 100) (fun f h1 h2 => k 89 _ (by omega) (by omega))]; exact m2
    · rw [k 89 193 (by omega) (by omega), k 89 195 (by omega) (by omega)]; exact m5
    · show τ 89 (100 + 100 * 1 + ((93 : Nat) : Int)).toNat + τ 89 (100 + 100 * 1 + ((95 : Nat) : Int)).toNat ≤ 999
      rw [x1, x2]; exact m4
theorem mI_back {σ τ1 τ : tw_M} {P : Nat → Nat → Prop} {i : Int} (hi : 0 ≤ i ∧ i ≤ 1) (hI : tw_I σ) (h : mI σ) (hk : ¬ σ 90 i.toNat = 0) (hg : tw_F P σ τ1) (hP : ∀ c j : Nat, (¬ c = 89 ∨ 100 ≤ j) → ¬ P c j)
    (q : ∀ j : Nat, (j : Int) < 100 → τ1 89 (0 + (j : Int)).toNat = σ 89 (100 + 100 * i + (j : Int)).toNat) (a : ∀ c j : Nat, (¬ c = 91 ∨ j = 0) → τ c j = τ1 c j) : mI τ := by
  have ft : (1 : Int) ≤ σ 91 0 ∧ σ 91 0 ≤ 40 := hI 91 0
  have k : ∀ c j : Nat, (¬ c = 91 ∨ j = 0) → (¬ c = 89 ∨ 100 ≤ j) → τ c j = σ c j := by
    intro c j q0 q1
    rw [a c j q0, hg c j (hP c j q1)]
  have kc : ∀ j : Nat, (j : Int) < 100 → τ 89 j = σ 89 (100 + 100 * i + (j : Int)).toNat := by
    intro j hj
    rw [a 89 j (by omega), ← q j hj]
    congr 1
    omega
  have m := h
  obtain ⟨m1, m2, m3, m4, m5, m6⟩ := h
  have cm : mc τ 0 (σ 91 0).toNat = mc σ (100 + 100 * i) (σ 91 0).toNat := mc_congr (fun f h1 h2 => by
    have := kc f.toNat (by omega)
    rw [show (0 + f).toNat = f.toNat by omega, this]
    congr 1
    omega)
  have x1 := kc 93 (by omega)
  have x2 := kc 95 (by omega)
  refine mI_mk hI m ?_ ?_ (fun j h1 h2 => k 89 j (by omega) (by omega)) (fun j => k 90 j (by omega) (by omega)) (k 91 0 (by omega) (by omega))
  · rw [cm]
    rcases (show i = 0 ∨ i = 1 by omega) with r | r
    · subst r; exact m2 hk
    · subst r; exact m3 hk
  · rw [x1, x2]
    rcases (show i = 0 ∨ i = 1 by omega) with r | r
    · subst r; exact m5
    · subst r; exact m6
theorem mc_le {σ τ : tw_M} {b : Int} : ∀ {h : Nat}, (∀ f : Int, 1 ≤ f → f ≤ (h : Int) → τ 89 (b + f).toNat = σ 89 (b + f).toNat ∨ τ 89 (b + f).toNat ≤ 0) → mc τ b h ≤ mc σ b h
  | 0, _ => Int.le_refl _
  | h + 1, H => by
    have ih := mc_le (σ := σ) (τ := τ) (b := b) (h := h) (fun f h1 h2 => H f h1 (by omega))
    have q := H ((h + 1 : Nat) : Int) (by omega) (by omega)
    simp only [mc]
    split <;> split <;> omega
theorem PT_0 {τ τ' : tw_M} {t : Int} {ok : Int → Int → Prop} (e : τ' = tw_up τ 88 30 (τ 99 0)) (H : TOK t ok (τ 99) 0) (ht : 0 ≤ t) : τ' 88 30 = -4 ∨ ((0 : Int) ≤ τ' 88 30 ∧ τ' 99 (0 : Int).toNat = τ' 88 30 - (0 : Int)) := by
  have e1 : τ' 88 30 = τ 99 0 := tw_eq1 e
  have e2 : τ' 99 (0 : Int).toNat = τ 99 0 := tw_ne1 e (Or.inl (by decide))
  by_cases q : τ 99 0 = -4
  · exact Or.inl (by omega)
  · have b := TOK_in H ht q
    have b1 : 0 ≤ τ 99 0 := b.1
    exact Or.inr ⟨by omega, by rw [e2, e1]; omega⟩
theorem IC_1 {σ σ1 : tw_M} {h b x z : Int} (H : ∀ j, σ1 92 j = σ 92 j) (s : SI σ1 z x h) (ez : z = tw_w32 (h - mD σ h b)) (hx : x = -4) : ((1 : Int) = 1 ∧ mIC σ h b) ∨ ((1 : Int) = 0 ∧ ¬ mIC σ h b) := by
  rcases s with ⟨_, s⟩ | ⟨s, _⟩
  · refine Or.inl ⟨rfl, ?_⟩
    unfold mIC
    rw [← ez]
    exact (NSt_congr H).mp s
  · exact absurd hx s
theorem IC_0 {σ σ1 : tw_M} {h b x z : Int} (H : ∀ j, σ1 92 j = σ 92 j) (s : SI σ1 z x h) (ez : z = tw_w32 (h - mD σ h b)) (hx : ¬ x = -4) : ((0 : Int) = 1 ∧ mIC σ h b) ∨ ((0 : Int) = 0 ∧ ¬ mIC σ h b) := by
  rcases s with ⟨s, _⟩ | ⟨_, s⟩
  · exact absurd s hx
  · refine Or.inr ⟨rfl, ?_⟩
    unfold mIC
    rw [← ez]
    exact fun q => s ((NSt_congr H).mpr q)
theorem okB_congr {σ τ : tw_M} {b c : Int} (H : ∀ j, τ 92 j = σ 92 j) (H2 : τ 91 4 = σ 91 4) : okB τ b c ↔ okB σ b c := by
  unfold okB
  rw [mAC_congr H H2, mIC_congr H H2]
theorem TOKB_c {σ σ1 : tw_M} {T : Nat → Int} {j : Int} (H : ∀ j, σ1 92 j = σ 92 j) (H4 : σ1 91 4 = σ 91 4) (H0 : σ1 91 0 = σ 91 0) (K : j ≤ σ1 91 0 → TOK (σ1 91 0) (okB σ1) T j) (hj : j ≤ σ 91 0) : TOK (σ 91 0) (okB σ) T j := by
  rw [H0] at K
  have k := K hj
  unfold TOK at *
  simp only [okB_congr H H4] at k
  exact k
