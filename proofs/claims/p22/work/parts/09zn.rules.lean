/-! A RULE FOLLOWED, foot by foot: the pieces, and the foot of the last. -/
def KPS (W rk : PTG) (e : Int) : Nat → PTG × Int
  | 0 => (fun _ => 0, 0)
  | h + 1 => if 0 < cW W (h + 1) ∧ cnt (cW W) (h + 1) ≤ 10 ∧ e ≤ ((h + 1 : Nat) : Int) - (KPS W rk e h).2 ∧ csz (KPS W rk e h).1 (cW W (h + 1)) 40 < rk (cW W (h + 1)).toNat then (pg (KPS W rk e h).1 (h + 1) (cW W (h + 1)), ((h + 1 : Nat) : Int)) else KPS W rk e h
theorem cW_10 {W : PTG} (hW : WOK W) {f : Nat} : cW W f ≤ 10 := by
  unfold cW
  split
  · have h1 := hW.1
    have h2 := hW.2 (f : Int) (by omega) (by omega)
    omega
  · omega
section KP
variable {W rk : PTG} {e : Int}
theorem KPS_s {f : Int} (h1 : 1 ≤ f) : ((0 < cW W f.toNat ∧ cnt (cW W) f.toNat ≤ 10 ∧ e ≤ f - (KPS W rk e (f - 1).toNat).2 ∧ csz (KPS W rk e (f - 1).toNat).1 (cW W f.toNat) 40 < rk (cW W f.toNat).toNat) ∧ KPS W rk e f.toNat = (pg (KPS W rk e (f - 1).toNat).1 f.toNat (cW W f.toNat), f)) ∨
    (¬ (0 < cW W f.toNat ∧ cnt (cW W) f.toNat ≤ 10 ∧ e ≤ f - (KPS W rk e (f - 1).toNat).2 ∧ csz (KPS W rk e (f - 1).toNat).1 (cW W f.toNat) 40 < rk (cW W f.toNat).toNat) ∧ KPS W rk e f.toNat = KPS W rk e (f - 1).toNat) := by
  obtain ⟨n, rfl⟩ : ∃ n : Nat, f = ((n + 1 : Nat) : Int) := ⟨(f - 1).toNat, by omega⟩
  rw [show (((n + 1 : Nat) : Int)).toNat = n + 1 by omega, show (((n + 1 : Nat) : Int) - 1).toNat = n by omega]
  simp only [KPS]
  split
  · rename_i h; exact Or.inl ⟨h, rfl⟩
  · rename_i h; exact Or.inr ⟨h, rfl⟩
theorem KPS_const {a : Nat} : ∀ {b : Nat}, a ≤ b → (cnt (cW W) b = cnt (cW W) a ∨ 10 ≤ cnt (cW W) a) → KPS W rk e b = KPS W rk e a
  | 0, h, _ => by rw [show a = 0 by omega]
  | b + 1, h, k => by
    by_cases q : a = b + 1
    · rw [q]
    · have m := cnt_mono (cW W) (show a ≤ b by omega)
      have m2 := cnt_mono (cW W) (show b ≤ b + 1 by omega)
      have ih := KPS_const (a := a) (b := b) (by omega) (by omega)
      have s := cnt_s (g := cW W) (f := b + 1) (by omega)
      rw [Nat.add_sub_cancel] at s
      simp only [KPS]
      rw [if_neg (fun z => by omega)]
      exact ih
theorem KPS_sup : ∀ (n f : Nat), n < f ∨ f = 0 → (KPS W rk e n).1 f = 0
  | 0, f, _ => rfl
  | n + 1, f, h => by
    simp only [KPS]
    split
    · show pg (KPS W rk e n).1 (n + 1) (cW W (n + 1)) f = 0
      rw [pg_ne (by omega)]
      exact KPS_sup n f (by omega)
    · exact KPS_sup n f (by omega)
theorem KPS_last : ∀ n : Nat, 0 ≤ (KPS W rk e n).2 ∧ (KPS W rk e n).2 ≤ (n : Int)
  | 0 => ⟨Int.le_refl _, Int.le_refl _⟩
  | n + 1 => by
    have ih := KPS_last n
    simp only [KPS]
    split
    · show (0 : Int) ≤ ((n + 1 : Nat) : Int) ∧ ((n + 1 : Nat) : Int) ≤ ((n + 1 : Nat) : Int)
      omega
    · omega
theorem KPS_val : ∀ n f : Nat, (KPS W rk e n).1 f = 0 ∨ (0 < cW W f ∧ (KPS W rk e n).1 f = cW W f)
  | 0, f => Or.inl rfl
  | n + 1, f => by
    simp only [KPS]
    split
    · rename_i h
      show pg (KPS W rk e n).1 (n + 1) (cW W (n + 1)) f = 0 ∨ (0 < cW W f ∧ pg (KPS W rk e n).1 (n + 1) (cW W (n + 1)) f = cW W f)
      by_cases q : f = n + 1
      · rw [q, pg_eq]; exact Or.inr ⟨h.1, rfl⟩
      · rw [pg_ne q]; exact KPS_val n f
    · exact KPS_val n f
theorem KPS_out {n f : Nat} (hf : W 100 < (f : Int)) : (KPS W rk e n).1 f = 0 := by
  rcases KPS_val (W := W) (rk := rk) (e := e) n f with h | ⟨h, _⟩
  · exact h
  · have := cW_in h
    omega
theorem KPS_cnt : ∀ n : Nat, ∀ m : Nat, cnt (KPS W rk e n).1 m ≤ cnt (cW W) m
  | n, 0 => Int.le_refl _
  | n, m + 1 => by
    have ih := KPS_cnt n m
    have s := cnt_s (g := cW W) (f := m + 1) (by omega)
    have t := cnt_s (g := (KPS W rk e n).1) (f := m + 1) (by omega)
    rw [Nat.add_sub_cancel] at s t
    have v := KPS_val (W := W) (rk := rk) (e := e) n (m + 1)
    omega
theorem KPS_few {n : Nat} : cnt (KPS W rk e n).1 40 ≤ cnt (cW W) n := by
  by_cases q : n ≤ 40
  · have a := KPS_cnt (W := W) (rk := rk) (e := e) n n
    rw [cnt_zero (m := n) q (fun f f1 f2 => by rw [KPS_sup n f (Or.inl f1)]; exact Int.le_refl _)]
    exact a
  · have a := KPS_cnt (W := W) (rk := rk) (e := e) n 40
    have b := cnt_mono (cW W) (show 40 ≤ n by omega)
    omega
theorem pg_zero {h : Nat} : pg (fun _ => 0) h 0 = fun _ => (0 : Int) := by
  funext x
  by_cases q : x = h
  · rw [q, pg_eq]
  · rw [pg_ne q]
/-- the class, before it looks at crack c -/
def FOL (W rk : PTG) (e c l : Int) (τ : tw_M) : Prop := ∃ h : Nat, ((c = 0 ∧ h = 0) ∨ (0 < c ∧ (h : Int) = τ 66 (c - 1).toNat)) ∧ CRK W τ ∧ c ≤ kk W ∧ RG 61 (KPS W rk e h).1 (fun _ => 0) τ ∧ l = (KPS W rk e h).2 ∧ ∀ s : Int, 1 ≤ s → s ≤ 10 → τ 65 s.toNat = rk s.toNat - csz (KPS W rk e h).1 s 40 ∧ 0 ≤ τ 65 s.toNat
theorem FOL_h {c l : Int} {τ : tw_M} {h : Nat} (hc : 0 ≤ c) (a : (c = 0 ∧ h = 0) ∨ (0 < c ∧ (h : Int) = τ 66 (c - 1).toNat)) (K : CRK W τ) (ck : c ≤ kk W) : cnt (cW W) h = c := by
  rcases a with ⟨a1, a2⟩ | ⟨a1, a2⟩
  · rw [a2, a1]; rfl
  · obtain ⟨_, k2, _, _⟩ := K.2 (c - 1).toNat (by omega)
    rw [show (τ 66 (c - 1).toNat).toNat = h by omega] at k2
    omega
theorem FOL_f {c l : Int} {τ : tw_M} (H : FOL W rk e c l τ) (hc : 0 ≤ c) (hk : c < kk W) (hW : WOK W) :
    RG 61 (KPS W rk e (τ 66 c.toNat - 1).toNat).1 (fun _ => 0) τ ∧ l = (KPS W rk e (τ 66 c.toNat - 1).toNat).2 ∧ (∀ s : Int, 1 ≤ s → s ≤ 10 → τ 65 s.toNat = rk s.toNat - csz (KPS W rk e (τ 66 c.toNat - 1).toNat).1 s 40 ∧ 0 ≤ τ 65 s.toNat) ∧
    0 < cW W (τ 66 c.toNat).toNat ∧ cnt (cW W) (τ 66 c.toNat).toNat = c + 1 ∧ 1 ≤ τ 66 c.toNat ∧ τ 66 c.toNat ≤ W 100 ∧ cnt (KPS W rk e (τ 66 c.toNat - 1).toNat).1 40 ≤ c := by
  obtain ⟨h, a, K, ck, R, hl, L⟩ := H
  have ch := FOL_h (l := l) hc a K ck
  obtain ⟨k1, k2, k3, k4⟩ := K.2 c.toNat (by omega)
  have s := cnt_si (g := cW W) (f := τ 66 c.toNat) k3
  have lt : h ≤ (τ 66 c.toNat - 1).toNat := by
    refine Classical.byContradiction (fun q => ?_)
    have m := cnt_mono (cW W) (show (τ 66 c.toNat).toNat ≤ h by omega)
    omega
  have e1 : KPS W rk e (τ 66 c.toNat - 1).toNat = KPS W rk e h := KPS_const lt (Or.inl (by omega))
  have fw := KPS_few (W := W) (rk := rk) (e := e) (n := h)
  rw [e1]
  exact ⟨R, hl, L, k1, by omega, k3, k4, by omega⟩
theorem FOL_0 {τ : tw_M} (K : CRK W τ) (h0 : τ 61 0 = 0) (hL : ∀ s : Int, 1 ≤ s → s ≤ 10 → τ 65 s.toNat = rk s.toNat ∧ 0 ≤ τ 65 s.toNat) : FOL W rk e 0 0 τ := by
  have k := kk_in (W := W)
  refine ⟨0, Or.inl ⟨rfl, rfl⟩, K, k.1, RG_0 h0, rfl, fun s s1 s2 => ?_⟩
  have z := hL s s1 s2
  show τ 65 s.toNat = rk s.toNat - csz (fun _ => 0) s 40 ∧ _
  rw [csz_0 (by omega)]
  exact ⟨by omega, z.2⟩
theorem FOL_no {c l : Int} {τ : tw_M} (H : FOL W rk e c l τ) (hc : 0 ≤ c) (hk : c < kk W) (hW : WOK W) (k : τ 66 c.toNat - l < e ∨ τ 65 (cW W (τ 66 c.toNat).toNat).toNat ≤ 0) : FOL W rk e (c + 1) l τ := by
  obtain ⟨R, hl, L, k1, k2, k3, k4, k5⟩ := FOL_f H hc hk hW
  obtain ⟨_, _, K, _, _, _, _⟩ := H
  have w40 := hW.1
  have cw : cW W (τ 66 c.toNat).toNat ≤ 10 := cW_10 hW
  have e1 : KPS W rk e (τ 66 c.toNat).toNat = KPS W rk e (τ 66 c.toNat - 1).toNat := by
    rcases KPS_s (W := W) (rk := rk) (e := e) k3 with ⟨s1, _⟩ | ⟨_, s2⟩
    · exfalso
      have z := L _ (show (1 : Int) ≤ cW W (τ 66 c.toNat).toNat by omega) cw
      omega
    · exact s2
  refine ⟨(τ 66 c.toNat).toNat, Or.inr ⟨by omega, by rw [show (c + 1 - 1 : Int) = c by omega]; omega⟩, K, by omega, by rw [e1]; exact R, by rw [e1]; exact hl, by rw [e1]; exact L⟩
theorem FOL_put {c l : Int} {τ τ1 τ2 : tw_M} (H : FOL W rk e c l τ) (hc : 0 ≤ c) (hk : c < kk W) (hW : WOK W) (g1 : e ≤ τ 66 c.toNat - l) (g2 : 0 < τ 65 (cW W (τ 66 c.toNat).toNat).toNat) (e1 : τ1 = tw_up τ 65 (cW W (τ 66 c.toNat).toNat).toNat (τ 65 (cW W (τ 66 c.toNat).toNat).toNat - 1))
    (hR : ∀ gg qq : Nat → Int, RG 61 gg qq τ1 → gg (τ 66 c.toNat).toNat = 0 → 1 ≤ τ 66 c.toNat → 1 ≤ cW W (τ 66 c.toNat).toNat → τ1 61 0 < 10 → RG 61 (pg gg (τ 66 c.toNat).toNat (cW W (τ 66 c.toNat).toNat)) (pg qq (τ 66 c.toNat).toNat 0) τ2) (h2 : ∀ x j : Nat, ¬ (61 ≤ x ∧ x < 65) → τ2 x j = τ1 x j) : FOL W rk e (c + 1) (τ 66 c.toNat) τ2 := by
  obtain ⟨R, hl, L, k1, k2, k3, k4, k5⟩ := FOL_f H hc hk hW
  obtain ⟨_, _, K, _, _, _, _⟩ := H
  have kk10 := (kk_in (W := W)).2
  have w40 := hW.1
  have cw : cW W (τ 66 c.toNat).toNat ≤ 10 := cW_10 hW
  have n9 := RG_all40 R
  have r1 : RG 61 (KPS W rk e (τ 66 c.toNat - 1).toNat).1 (fun _ => 0) τ1 := RG_F R (fun x j x1 x2 => tw_ne1 e1 (by omega))
  have s0 := KPS_sup (W := W) (rk := rk) (e := e) (τ 66 c.toNat - 1).toNat (τ 66 c.toNat).toNat (Or.inl (by omega))
  have r2 := hR _ _ r1 s0 k3 (by omega) (by rw [tw_ne1 e1 (by omega)]; omega)
  rw [pg_zero] at r2
  have f66 : ∀ j, τ2 66 j = τ 66 j := fun j => (h2 66 j (by omega)).trans (tw_ne1 e1 (by omega))
  have e3 : KPS W rk e (τ 66 c.toNat).toNat = (pg (KPS W rk e (τ 66 c.toNat - 1).toNat).1 (τ 66 c.toNat).toNat (cW W (τ 66 c.toNat).toNat), τ 66 c.toNat) := by
    rcases KPS_s (W := W) (rk := rk) (e := e) k3 with ⟨_, s2⟩ | ⟨s1, _⟩
    · exact s2
    · exfalso
      have z := L _ (show (1 : Int) ≤ cW W (τ 66 c.toNat).toNat by omega) cw
      exact s1 ⟨k1, by omega, by omega, by omega⟩
  refine ⟨(τ 66 c.toNat).toNat, Or.inr ⟨by omega, by rw [show (c + 1 - 1 : Int) = c by omega, f66]; omega⟩, CRK_F K ((h2 60 5 (by omega)).trans (tw_ne1 e1 (by omega))) f66, by omega, by rw [e3]; exact r2, by rw [e3], fun s s1 s2 => ?_⟩
  rw [e3, h2 65 _ (by omega)]
  show τ1 65 s.toNat = rk s.toNat - csz (pg (KPS W rk e (τ 66 c.toNat - 1).toNat).1 (τ 66 c.toNat).toNat (cW W (τ 66 c.toNat).toNat)) s 40 ∧ _
  have z := L s s1 s2
  by_cases q : s = cW W (τ 66 c.toNat).toNat
  · rw [tw_eq2 e1 (by rw [q]), q, csz_pg (by omega) (by rw [s0]; omega) (by omega)]
    rw [q] at z
    omega
  · rw [tw_ne1 e1 (Or.inr (by omega)), csz_pn (by rw [s0]; omega) (fun w => q w.symm)]
    exact z
theorem FOL_end {c l : Int} {τ : tw_M} (H : FOL W rk e c l τ) (hc : kk W ≤ c) (hW : WOK W) : RG 61 (KPS W rk e 40).1 (fun _ => 0) τ := by
  obtain ⟨h, a, K, ck, R, _, _⟩ := H
  have k := kk_in (W := W)
  have ch := FOL_h (l := l) (by omega) a K ck
  have h40 : h ≤ 40 := by
    rcases a with ⟨_, a2⟩ | ⟨a1, a2⟩
    · omega
    · obtain ⟨_, _, _, k4⟩ := K.2 (c - 1).toNat (by omega)
      have := hW.1
      omega
  have e1 : KPS W rk e 40 = KPS W rk e h := KPS_const h40 (by
    unfold kk at hc ck
    split at hc
    · rename_i q; rw [if_pos q] at ck; exact Or.inl (by omega)
    · exact Or.inr (by omega))
  rw [e1]
  exact R
/-- the reference, before it looks at foot h -/
def FOM (W rk : PTG) (e h l n : Int) (τ : tw_M) : Prop := (∀ f : Int, 1 ≤ f → f ≤ 40 → τ 89 (300 + f).toNat = (KPS W rk e (h - 1).toNat).1 f.toNat) ∧ l = (KPS W rk e (h - 1).toNat).2 ∧ (n = cnt (cW W) (h - 1).toNat ∨ (n = 10 ∧ 10 ≤ cnt (cW W) (h - 1).toNat)) ∧ (∀ x : Int, 1 ≤ x → x ≤ 10 → τ 89 (382 + x).toNat = rk x.toNat - csz (KPS W rk e (h - 1).toNat).1 x 40 ∧ 0 ≤ τ 89 (382 + x).toNat)
theorem FOM_no {h l n n' : Int} {τ : tw_M} (H : FOM W rk e h l n τ) (h1 : 1 ≤ h) (hn : n ≤ 10) (cw : cW W h.toNat ≤ 10) (k : (10 ≤ n ∧ n' = n) ∨ (cW W h.toNat ≤ 0 ∧ n' = n) ∨ (n < 10 ∧ 0 < cW W h.toNat ∧ n' = n + 1 ∧ (h - l < e ∨ τ 89 (382 + cW W h.toNat).toNat = 0))) : FOM W rk e (h + 1) l n' τ := by
  obtain ⟨a, b, c, d⟩ := H
  have s := cnt_si (g := cW W) (f := h) h1
  have e1 : KPS W rk e h.toNat = KPS W rk e (h - 1).toNat := by
    rcases KPS_s (W := W) (rk := rk) (e := e) h1 with ⟨s1, _⟩ | ⟨_, s2⟩
    · exfalso
      have z := d _ (show (1 : Int) ≤ cW W h.toNat by omega) cw
      omega
    · exact s2
  unfold FOM
  rw [show (h + 1 - 1 : Int) = h by omega, e1]
  exact ⟨a, b, by omega, d⟩
theorem FOM_put {h l n : Int} {τ τ1 τ2 : tw_M} (H : FOM W rk e h l n τ) (h1 : 1 ≤ h ∧ h ≤ 40) (hn : n < 10) (hc : 1 ≤ cW W h.toNat ∧ cW W h.toNat ≤ 10) (g1 : e ≤ h - l) (g2 : ¬ τ 89 (382 + cW W h.toNat).toNat = 0) (hb : τ 89 (382 + cW W h.toNat).toNat ≤ 2147483647)
    (e1 : τ1 = tw_up τ 89 (382 + cW W h.toNat).toNat (tw_w32 (τ 89 (382 + cW W h.toNat).toNat - 1))) (e2 : τ2 = tw_up τ1 89 (300 + h).toNat (cW W h.toNat)) : FOM W rk e (h + 1) h (n + 1) τ2 := by
  obtain ⟨a, b, c, d⟩ := H
  have s := cnt_si (g := cW W) (f := h) h1.1
  have z0 := d _ hc.1 hc.2
  have w : tw_w32 (τ 89 (382 + cW W h.toNat).toNat - 1) = τ 89 (382 + cW W h.toNat).toNat - 1 := w32_eq (by omega) (by omega)
  rw [w] at e1
  have s0 := KPS_sup (W := W) (rk := rk) (e := e) (h - 1).toNat h.toNat (Or.inl (by omega))
  have e3 : KPS W rk e h.toNat = (pg (KPS W rk e (h - 1).toNat).1 h.toNat (cW W h.toNat), h) := by
    rcases KPS_s (W := W) (rk := rk) (e := e) h1.1 with ⟨_, s2⟩ | ⟨s1, _⟩
    · exact s2
    · exact absurd ⟨by omega, by omega, by omega, by omega⟩ s1
  unfold FOM
  rw [show (h + 1 - 1 : Int) = h by omega, e3]
  refine ⟨fun f f1 f2 => ?_, rfl, by omega, fun x x1 x2 => ?_⟩
  · show τ2 89 (300 + f).toNat = pg (KPS W rk e (h - 1).toNat).1 h.toNat (cW W h.toNat) f.toNat
    by_cases q : f = h
    · subst q; rw [tw_eq1 e2, pg_eq]
    · rw [tw_ne1 e2 (by omega), tw_ne1 e1 (by omega), pg_ne (by omega)]; exact a f f1 f2
  · show τ2 89 (382 + x).toNat = rk x.toNat - csz (pg (KPS W rk e (h - 1).toNat).1 h.toNat (cW W h.toNat)) x 40 ∧ 0 ≤ τ2 89 (382 + x).toNat
    have z := d x x1 x2
    rw [tw_ne1 e2 (by omega)]
    by_cases q : x = cW W h.toNat
    · rw [tw_eq2 e1 (by rw [q]), q, csz_pg (by omega) (by rw [s0]; omega) (by omega)]
      rw [q] at z
      omega
    · rw [tw_ne1 e1 (by omega), csz_pn (by rw [s0]; omega) (fun w => q w.symm)]
      exact z
theorem FOM_0 {τ : tw_M} (h1 : ∀ x : Int, 1 ≤ x → x ≤ 10 → τ 89 (382 + x).toNat = rk x.toNat ∧ 0 ≤ rk x.toNat) (h2 : ∀ f : Int, 1 ≤ f → f ≤ 40 → τ 89 (300 + f).toNat = 0) : FOM W rk e 1 0 0 τ := by
  refine ⟨fun f f1 f2 => h2 f f1 f2, rfl, Or.inl rfl, fun x x1 x2 => ?_⟩
  have z := h1 x x1 x2
  show τ 89 (382 + x).toNat = rk x.toNat - csz (fun _ => 0) x 40 ∧ _
  rw [csz_0 (by omega)]
  omega
theorem FOM_end {h l n : Int} {τ : tw_M} (H : FOM W rk e h l n τ) (hW : 1 ≤ W 100 ∧ W 100 ≤ 40) (hh : h = W 100 + 1 ∨ (10 ≤ n ∧ 1 ≤ h ∧ h ≤ 41)) : gM 300 τ = (KPS W rk e 40).1 := by
  obtain ⟨a, _, c, _⟩ := H
  have z := cW_zero hW (n := 40) (by omega)
  have e1 : KPS W rk e 40 = KPS W rk e (h - 1).toNat := by
    rcases hh with hh | hh
    · exact KPS_const (by omega) (Or.inl (by rw [z, hh, show (W 100 + 1 - 1 : Int) = W 100 by omega]))
    · exact KPS_const (by omega) (Or.inr (by omega))
  rw [e1]
  funext f
  unfold gM
  by_cases q : 1 ≤ f ∧ f ≤ 40
  · rw [if_pos q]
    have k := a (f : Int) (by omega) (by omega)
    rw [show ((f : Nat) : Int).toNat = f by omega] at k
    exact k
  · rw [if_neg q]
    by_cases q0 : f = 0
    · exact (KPS_sup _ f (Or.inr q0)).symm
    · exact (KPS_sup _ f (Or.inl (by omega))).symm
theorem FOL_put' {c l f s v : Int} {τ τ1 τ2 : tw_M} (H : FOL W rk e c l τ) (hc : 0 ≤ c) (hk : c < kk W) (hW : WOK W) (hf : f = τ 66 c.toNat) (hs : s = cW W f.toNat) (g1 : e ≤ f - l) (g2 : 0 < τ 65 s.toNat) (e1 : τ1 = tw_up τ 65 s.toNat v) (hv : v = τ 65 s.toNat - 1)
    (hR : ∀ gg qq : Nat → Int, RG 61 gg qq τ1 → gg f.toNat = 0 → 1 ≤ f → 1 ≤ s → τ1 61 0 < 10 → RG 61 (pg gg f.toNat s) (pg qq f.toNat 0) τ2 ∧ True) (h2 : ∀ x j : Nat, ¬ (61 ≤ x ∧ x < 65) → τ2 x j = τ1 x j) : FOL W rk e (c + 1) f τ2 := by
  subst hf
  subst hs
  subst hv
  exact FOL_put H hc hk hW g1 g2 e1 (fun gg qq a b c d k => (hR gg qq a b c d k).1) h2
theorem FOL_no' {c l f s : Int} {τ : tw_M} (H : FOL W rk e c l τ) (hc : 0 ≤ c) (hk : c < kk W) (hW : WOK W) (hf : f = τ 66 c.toNat) (hs : s = cW W f.toNat) (k : f - l < e ∨ τ 65 s.toNat ≤ 0) : FOL W rk e (c + 1) l τ := by
  subst hf
  subst hs
  exact FOL_no H hc hk hW k
theorem FOL_k {c l : Int} {τ : tw_M} (H : FOL W rk e c l τ) : τ 60 5 = kk W := by
  obtain ⟨_, _, K, _⟩ := H
  exact K.1
theorem FOL_b {c l : Int} {τ : tw_M} (H : FOL W rk e c l τ) (hc : 0 ≤ c) (hk : c < kk W) : 1 ≤ τ 66 c.toNat ∧ τ 66 c.toNat ≤ W 100 := by
  obtain ⟨_, _, K, _⟩ := H
  obtain ⟨_, _, k3, k4⟩ := K.2 c.toNat (by omega)
  exact ⟨k3, k4⟩
end KP
/-- what one is told of a rule -/
def KEA (W g : PTG) (w r : Int) : Prop := (w = 0 ∧ r = rsk W g 1023 (W 100).toNat) ∨ (w = 1 ∧ r = cnt g 40) ∨ (w = 2 ∧ ((r = 0 ∧ TMs W g (-4) 1 (W 100 + 1) (-4)) ∨ (r = 1 ∧ ∃ t : Int, ¬ t = -4 ∧ TMs W g (-4) 1 (W 100 + 1) t)))
theorem KEA_same {W g : PTG} {w r r' : Int} (a : KEA W g w r) (b : KEA W g w r') : r = r' := by
  rcases a with ⟨a, a'⟩ | ⟨a, a'⟩ | ⟨a, a'⟩ <;> rcases b with ⟨b, b'⟩ | ⟨b, b'⟩ | ⟨b, b'⟩ <;> first | (exfalso; omega) | omega | skip
  rcases a' with ⟨p, q⟩ | ⟨p, t, p1, p2⟩ <;> rcases b' with ⟨p', q'⟩ | ⟨p', t', p1', p2'⟩
  · omega
  · exact absurd (TMs_eq p2' q) p1'
  · exact absurd (TMs_eq p2 q') p1
  · omega
