/-! THE SEARCH FOR A PLAN: what it has found so far, what it may leave out. -/
def WOK (W : PTG) : Prop := (1 ≤ W 100 ∧ W 100 ≤ 40) ∧ ∀ h : Int, 1 ≤ h → h ≤ 40 → (0 ≤ wH W h ∧ wH W h ≤ 10) ∧ 0 ≤ wB W h ∧ wB W h < h ∧ 0 ≤ wC W h ∧ wC W h ≤ 10
def RSK (W : PTG) (S : Int) : Int := rsk W (lay W S) 1023 (W 100).toNat
def NPC (W : PTG) (S : Int) : Int := cnt (lay W S) 40
def FEA (W rk : PTG) (S : Int) : Prop := (∀ s : Int, 1 ≤ s → s ≤ 10 → csz (lay W S) s 40 ≤ rk s.toNat) ∧ ∀ h : Int, 1 ≤ h → h ≤ W 100 → effX W (lay W S) h ≤ W 101
def BET (W : PTG) (p S : Int) : Prop := RSK W p < RSK W S ∨ (RSK W p = RSK W S ∧ (NPC W p < NPC W S ∨ (NPC W p = NPC W S ∧ p ≤ S)))
def CMP (W : PTG) (c b S : Int) : Prop := 0 ≤ S ∧ S < pt (kk W) ∧ S % pt c = b
def CRK (W : PTG) (σ : tw_M) : Prop := σ 60 5 = kk W ∧ ∀ i : Nat, (i : Int) < kk W → 0 < cW W (σ 66 i).toNat ∧ cnt (cW W) (σ 66 i).toNat = (i : Int) + 1 ∧ 1 ≤ σ 66 i ∧ σ 66 i ≤ W 100
def LFT (W rk : PTG) (b : Int) (σ : tw_M) : Prop := ∀ s : Int, 1 ≤ s → s ≤ 10 → σ 65 s.toNat = rk s.toNat - csz (lay W b) s 40 ∧ 0 ≤ σ 65 s.toNat
def BST (W rk : PTG) (T : Int → Prop) (σ : tw_M) : Prop := (σ 60 10 = 0 ∧ ∀ S, T S → ¬ FEA W rk S) ∨
  (σ 60 10 = 1 ∧ T (σ 60 8) ∧ FEA W rk (σ 60 8) ∧ σ 60 11 = RSK W (σ 60 8) ∧ RG 67 (lay W (σ 60 8)) (fun _ => 0) σ ∧ ∀ S, T S → FEA W rk S → BET W (σ 60 8) S)
/-- no more than c cracks up to a foot, the lowest ten counted -/
def F1 (W : PTG) (c F : Int) : Prop := ∀ f : Nat, (f : Int) ≤ F → cnt (cW W) f ≤ c ∨ 10 < cnt (cW W) f
section SE
variable {W rk : PTG}
theorem kk_in : 0 ≤ kk W ∧ kk W ≤ 10 := by
  have h := (cnt_in (cW W) 40).1
  unfold kk
  split <;> omega
theorem CMP_in {c b S : Int} (h : CMP W c b S) : 0 ≤ S ∧ S < 1024 := by
  have k := kk_in (W := W)
  have p := pt_10 k
  exact ⟨h.1, by have := h.2.1; omega⟩
theorem har_nn {h s : Int} (hW : WOK W) (hh : 1 ≤ h ∧ h ≤ 40) : 0 ≤ harS W h s := by
  have a := hW.2 h hh.1 hh.2
  unfold harS
  split <;> omega
theorem rsk_mono {g : PTG} {good : Int} (hW : WOK W) {a : Nat} : ∀ {b : Nat}, a ≤ b → b ≤ 40 → rsk W g good a ≤ rsk W g good b
  | 0, h, _ => by rw [show a = 0 by omega]; exact Int.le_refl _
  | b + 1, h, hb => by
    by_cases e : a = b + 1
    · rw [e]; exact Int.le_refl _
    · have ih := rsk_mono (g := g) (good := good) hW (a := a) (b := b) (by omega) (by omega)
      have a1 := hW.2 ((b + 1 : Nat) : Int) (by omega) (by omega)
      have a2 : 0 ≤ harF W g ((b + 1 : Nat) : Int) good := har_nn hW ⟨by omega, by omega⟩
      have a3 := Int.mul_nonneg a1.1.1 a2
      simp only [rsk]
      split <;> omega
theorem rsk_in {g : PTG} {good : Int} (hW : WOK W) : ∀ {n : Nat}, n ≤ 40 → 0 ≤ rsk W g good n ∧ rsk W g good n ≤ 16000 := by
  have key : ∀ n : Nat, n ≤ 40 → 0 ≤ rsk W g good n ∧ rsk W g good n ≤ 400 * (n : Int) := by
    intro n
    induction n with
    | zero => exact fun _ => ⟨Int.le_refl _, Int.le_refl _⟩
    | succ n ih =>
      intro hn
      have a0 := ih (by omega)
      have a1 := hW.2 ((n + 1 : Nat) : Int) (by omega) (by omega)
      have a2 : 0 ≤ harF W g ((n + 1 : Nat) : Int) good := har_nn hW ⟨by omega, by omega⟩
      have a4 : harF W g ((n + 1 : Nat) : Int) good ≤ 40 := by
        unfold harF harS
        split <;> omega
      have a3 := Int.mul_nonneg a1.1.1 a2
      have a5 := mul_bd (a := wH W ((n + 1 : Nat) : Int)) (b := harF W g ((n + 1 : Nat) : Int) good) a1.1 ⟨by omega, a4⟩
      simp only [rsk]
      split <;> omega
  intro n hn
  have := key n hn
  omega
theorem F1_top {F : Int} (h : F ≤ 40) : F1 W (kk W) F := by
  intro f hf
  have m := cnt_mono (cW W) (show f ≤ 40 by omega)
  unfold kk
  split <;> omega
theorem F1_c {σ : tw_M} {c : Int} (hC : CRK W σ) (hc : 0 ≤ c ∧ c < kk W) : F1 W c (σ 66 c.toNat - 1) := by
  intro f hf
  obtain ⟨a1, a2, a3, a4⟩ := hC.2 c.toNat (by omega)
  have s := cnt_s (g := cW W) (f := (σ 66 c.toNat).toNat) (by omega)
  have m := cnt_mono (cW W) (show f ≤ (σ 66 c.toNat).toNat - 1 by omega)
  left; omega
section LOC
variable {c b S F : Int} (hc : 0 ≤ c ∧ c ≤ kk W) (hF : F1 W c F) (hS : CMP W c b S)
theorem seg_lay {f : Nat} (hc : 0 ≤ c ∧ c ≤ kk W) (hF : F1 W c F) (hS : CMP W c b S) (hf : (f : Int) ≤ F) : lay W S f = lay W b f :=
  (lay_loc (CMP_in hS) ⟨hc.1, by have := kk_in (W := W); omega⟩ hS.2.2 (hF f hf)).symm
theorem seg_eff {h : Int} (hc : 0 ≤ c ∧ c ≤ kk W) (hF : F1 W c F) (hS : CMP W c b S) (h1 : 1 ≤ h) (hh : h ≤ F) : effX W (lay W S) h = effX W (lay W b) h :=
  effX_congr h1 (fun x x1 x2 => seg_lay hc hF hS (by omega))
theorem seg_rsk {h : Nat} (hc : 0 ≤ c ∧ c ≤ kk W) (hF : F1 W c F) (hS : CMP W c b S) (hh : (h : Int) ≤ F) : rsk W (lay W S) 1023 h = rsk W (lay W b) 1023 h :=
  rsk_congr (fun x x1 x2 => seg_lay hc hF hS (by omega))
theorem PL_much {t : Int} (hc : 0 ≤ c ∧ c ≤ kk W) (hF : F1 W c F) (hT : F ≤ W 100) (h1 : 1 ≤ t ∧ t ≤ F) (ht : W 101 < effX W (lay W b) t) (S : Int) (hS : CMP W c b S) : ¬ FEA W rk S := by
  intro q
  have e := q.2 t h1.1 (by omega)
  rw [seg_eff hc hF hS h1.1 h1.2] at e
  omega
theorem PL_prune {p v : Int} (hW : WOK W) (hc : 0 ≤ c ∧ c ≤ kk W) (hF : F1 W c F) (hT : 0 ≤ F ∧ F ≤ W 100) (hv : v = rsk W (lay W b) 1023 F.toNat) (hp : RSK W p < v) (S : Int) (hS : CMP W c b S) : BET W p S := by
  have e := seg_rsk (h := F.toNat) hc hF hS (by omega)
  have hw := hW.1
  have m := rsk_mono (g := lay W S) (good := 1023) hW (a := F.toNat) (b := (W 100).toNat) (by omega) (by omega)
  left
  unfold RSK at *
  omega
end LOC
theorem BST_F {T : Int → Prop} {σ τ : tw_M} (H : BST W rk T σ) (h : ∀ j, τ 60 j = σ 60 j) (h2 : ∀ c j, 67 ≤ c → c < 71 → τ c j = σ c j) : BST W rk T τ := by
  unfold BST at *
  rw [h, h, h]
  rcases H with H | ⟨a, b, c, d, e, f⟩
  · exact Or.inl H
  · exact Or.inr ⟨a, b, c, d, RG_F e (fun x j x1 x2 => h2 x j (by omega) (by omega)), f⟩
theorem BST_G {T : Int → Prop} {σ τ : tw_M} (H : BST W rk T σ) (h8 : τ 60 8 = σ 60 8) (h10 : τ 60 10 = σ 60 10) (h11 : τ 60 11 = σ 60 11) (h2 : ∀ c j, 67 ≤ c → c < 71 → τ c j = σ c j) : BST W rk T τ := by
  unfold BST at *
  rw [h8, h10, h11]
  rcases H with H | ⟨a, b, c, d, e, f⟩
  · exact Or.inl H
  · exact Or.inr ⟨a, b, c, d, RG_F e (fun x j x1 x2 => h2 x j (by omega) (by omega)), f⟩
theorem BST_eqv {T T' : Int → Prop} {σ : tw_M} (H : BST W rk T σ) (h : ∀ S, T S ↔ T' S) : BST W rk T' σ := by
  rcases H with ⟨a, b⟩ | ⟨a, b, c, d, e, f⟩
  · exact Or.inl ⟨a, fun S hS => b S ((h S).mpr hS)⟩
  · exact Or.inr ⟨a, (h _).mp b, c, d, e, fun S hS => f S ((h S).mpr hS)⟩
theorem BST_skip {T Q : Int → Prop} {σ : tw_M} (H : BST W rk T σ) (h : ∀ S, Q S → ¬ FEA W rk S ∨ (σ 60 10 = 1 ∧ (σ 60 11 = RSK W (σ 60 8) → BET W (σ 60 8) S))) : BST W rk (fun S => T S ∨ Q S) σ := by
  rcases H with ⟨a, b⟩ | ⟨a, b, c, d, e, f⟩
  · refine Or.inl ⟨a, fun S hS => ?_⟩
    rcases hS with hS | hS
    · exact b S hS
    · rcases h S hS with k | k
      · exact k
      · omega
  · refine Or.inr ⟨a, Or.inl b, c, d, e, fun S hS hf => ?_⟩
    rcases hS with hS | hS
    · exact f S hS hf
    · rcases h S hS with k | k
      · exact absurd hf k
      · exact k.2 d
/-- one that is whole is looked at -/
theorem PL_keep {T : Int → Prop} {σ τ : tw_M} {b v : Int} (H : BST W rk T σ) (hf : FEA W rk b) (hv : v = RSK W b) (hR : RG 61 (lay W b) (fun _ => 0) σ)
    (h1 : (¬ (σ 60 10 = 0 ∨ v < σ 60 11 ∨ (v = σ 60 11 ∧ (σ 61 0 < σ 67 0 ∨ (σ 61 0 = σ 67 0 ∧ b < σ 60 8)))) ∧ τ 60 10 = σ 60 10 ∧ τ 60 8 = σ 60 8 ∧ τ 60 11 = σ 60 11) ∨
      ((σ 60 10 = 0 ∨ v < σ 60 11 ∨ (v = σ 60 11 ∧ (σ 61 0 < σ 67 0 ∨ (σ 61 0 = σ 67 0 ∧ b < σ 60 8)))) ∧ τ 60 10 = 1 ∧ τ 60 8 = b ∧ τ 60 11 = v))
    (h2 : ∀ gg qq : Nat → Int, (σ 60 10 = 0 ∨ v < σ 60 11 ∨ (v = σ 60 11 ∧ (σ 61 0 < σ 67 0 ∨ (σ 61 0 = σ 67 0 ∧ b < σ 60 8)))) → RG 61 gg qq σ → RG 67 gg qq τ)
    (h3 : ∀ gg qq : Nat → Int, ¬ (σ 60 10 = 0 ∨ v < σ 60 11 ∨ (v = σ 60 11 ∧ (σ 61 0 < σ 67 0 ∨ (σ 61 0 = σ 67 0 ∧ b < σ 60 8)))) → RG 67 gg qq σ → RG 67 gg qq τ) : BST W rk (fun S => T S ∨ S = b) τ := by
  have n1 : NPC W b = σ 61 0 := RG_all40 hR
  rcases H with ⟨a1, a2⟩ | ⟨a1, a2, a3, a4, a5, a6⟩
  · rcases h1 with ⟨k, _⟩ | ⟨k, x1, x2, x3⟩
    · exact absurd (Or.inl a1) k
    · refine Or.inr ⟨x1, by rw [x2]; exact Or.inr rfl, by rw [x2]; exact hf, by rw [x2, x3]; exact hv, by rw [x2]; exact h2 _ _ k hR, fun S hS hS2 => ?_⟩
      rcases hS with hS | hS
      · exact absurd hS2 (a2 S hS)
      · rw [x2, hS]; exact Or.inr ⟨rfl, Or.inr ⟨rfl, Int.le_refl _⟩⟩
  · have n2 : NPC W (σ 60 8) = σ 67 0 := RG_all40 a5
    rcases h1 with ⟨k, x1, x2, x3⟩ | ⟨k, x1, x2, x3⟩
    · refine Or.inr ⟨by omega, by rw [x2]; exact Or.inl a2, by rw [x2]; exact a3, by rw [x2, x3]; exact a4, by rw [x2]; exact h3 _ _ k a5, fun S hS hS2 => ?_⟩
      rcases hS with hS | hS
      · rw [x2]; exact a6 S hS hS2
      · rw [x2, hS]
        unfold BET
        omega
    · refine Or.inr ⟨x1, by rw [x2]; exact Or.inr rfl, by rw [x2]; exact hf, by rw [x2, x3]; exact hv, by rw [x2]; exact h2 _ _ k hR, fun S hS hS2 => ?_⟩
      rcases hS with hS | hS
      · have z := a6 S hS hS2
        rw [x2]
        unfold BET at z ⊢
        omega
      · rw [x2, hS]; exact Or.inr ⟨rfl, Or.inr ⟨rfl, Int.le_refl _⟩⟩
/-- a choice split by the next crack -/
theorem CMP_split {c b S : Int} (hc : 0 ≤ c ∧ c < kk W) (hb : 0 ≤ b ∧ b < pt c) : CMP W c b S ↔ CMP W (c + 1) (b + pt c) S ∨ CMP W (c + 1) b S := by
  have k := kk_in (W := W)
  constructor
  · intro h
    rcases bt_split (CMP_in h) (c := c) ⟨hc.1, by omega⟩ h.2.2 with z | z
    · exact Or.inr ⟨h.1, h.2.1, z.1⟩
    · exact Or.inl ⟨h.1, h.2.1, z.1⟩
  · rintro (h | h)
    · exact ⟨h.1, h.2.1, pt_mod ⟨hc.1, by omega⟩ (Or.inr h.2.2) hb⟩
    · exact ⟨h.1, h.2.1, pt_mod ⟨hc.1, by omega⟩ (Or.inl h.2.2) hb⟩
theorem CMP_full {b S : Int} (hb : 0 ≤ b ∧ b < pt (kk W)) : CMP W (kk W) b S ↔ S = b := by
  constructor
  · intro h
    rw [← h.2.2, Int.emod_eq_of_lt h.1 h.2.1]
  · rintro rfl
    exact ⟨hb.1, hb.2, Int.emod_eq_of_lt hb.1 hb.2⟩
theorem CMP_all {S : Int} : CMP W 0 0 S ↔ 0 ≤ S ∧ S < pt (kk W) := by
  have e : S % pt 0 = 0 := by
    rw [show pt 0 = 1 from rfl]; omega
  exact ⟨fun h => ⟨h.1, h.2.1⟩, fun h => ⟨h.1, h.2, e⟩⟩
/-- the rack has none of this size left: no set with this crack will do -/
theorem PL_none {σ : tw_M} {c b : Int} {f : Nat} (hL : LFT W rk b σ) (hW : WOK W) (hc : 0 ≤ c ∧ c < kk W) (hb : 0 ≤ b ∧ b < pt c) (h0 : 0 < cW W f) (hf : cnt (cW W) f = c + 1) (hn : σ 65 (cW W f).toNat ≤ 0) (S : Int) (hS : CMP W (c + 1) (b + pt c) S) : ¬ FEA W rk S := by
  intro q
  have k := kk_in (W := W)
  have fi := cW_in h0
  have hw := hW.1
  have c10 : 1 ≤ cW W f ∧ cW W f ≤ 10 := by
    have a := hW.2 (f : Int) (by omega) (by omega)
    have e : cW W f = wC W (f : Int) := if_pos fi
    omega
  have l := hL (cW W f) c10.1 c10.2
  have r := q.1 (cW W f) c10.1 c10.2
  have lp := lay_put (W := W) (b := b) (c := c) (f := f) ⟨hc.1, by omega⟩ hb h0 hf
  have m : csz (lay W (b + pt c)) (cW W f) 40 ≤ csz (lay W S) (cW W f) 40 := csz_mono (fun x x1 x2 e => lay_sub (CMP_in hS) (c := c + 1) ⟨by omega, by omega⟩ hS.2.2 c10.1 e)
  rw [lp.1, csz_pg (by omega) (by rw [lp.2]; omega) (by omega)] at m
  omega
/-- the rack, one put in -/
theorem LFT_put {σ τ : tw_M} {c b v : Int} {f : Nat} (hL : LFT W rk b σ) (hW : WOK W) (hc : 0 ≤ c ∧ c < kk W) (hb : 0 ≤ b ∧ b < pt c) (h0 : 0 < cW W f) (hf : cnt (cW W) f = c + 1) (e : τ = tw_up σ 65 (cW W f).toNat v) (hv : v = σ 65 (cW W f).toNat - 1) (hn : 0 < σ 65 (cW W f).toNat) : LFT W rk (b + pt c) τ := by
  intro s s1 s2
  have k := kk_in (W := W)
  have fi := cW_in h0
  have l := hL s s1 s2
  have lp := lay_put (W := W) (b := b) (c := c) (f := f) ⟨hc.1, by omega⟩ hb h0 hf
  by_cases q : s = cW W f
  · rw [lp.1, q, csz_pg (by omega) (by rw [lp.2]; omega) (by have := hW.1; omega), tw_eq1 e]
    rw [q] at l
    omega
  · rw [lp.1, csz_pn (by rw [lp.2]; omega) (fun z => q z.symm), tw_ne1 e (by omega)]
    exact l
/-- and taken out again -/
theorem LFT_take {σ τ : tw_M} {c b v : Int} {f : Nat} (hL : LFT W rk (b + pt c) σ) (hW : WOK W) (hc : 0 ≤ c ∧ c < kk W) (hb : 0 ≤ b ∧ b < pt c) (h0 : 0 < cW W f) (hf : cnt (cW W) f = c + 1) (e : τ = tw_up σ 65 (cW W f).toNat v) (hv : v = σ 65 (cW W f).toNat + 1) : LFT W rk b τ := by
  intro s s1 s2
  have k := kk_in (W := W)
  have fi := cW_in h0
  have l := hL s s1 s2
  have lp := lay_put (W := W) (b := b) (c := c) (f := f) ⟨hc.1, by omega⟩ hb h0 hf
  rw [lp.1] at l
  by_cases q : s = cW W f
  · rw [q, csz_pg (by omega) (by rw [lp.2]; omega) (by have := hW.1; omega)] at l
    rw [q, tw_eq1 e]
    omega
  · rw [csz_pn (by rw [lp.2]; omega) (fun z => q z.symm)] at l
    rw [tw_ne1 e (by omega)]
    exact l
end SE
