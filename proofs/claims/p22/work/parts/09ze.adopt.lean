/-! A PLAN IS PUT, piece by piece. -/
def upg (g : PTG) (k : Int) : PTG := fun f => if cnt g f ≤ k then g f else 0
def CPY (u t : Nat) (σ τ : tw_M) : Prop := τ (u + 1) 0 = σ (t + 1) 0 ∧ (∀ k j : Nat, 1 ≤ k → k < 4 → j < 10 → τ (u + 1 + k) j = σ (t + 1 + k) j) ∧ (∀ j : Nat, j < 11 → τ (u + 5) j = σ (t + 5) j) ∧ τ u 4 = σ t 4 ∧ τ u 5 = σ t 5
section UPS
variable {g : PTG} (hn : ∀ f, 0 ≤ g f) (h0 : g 0 = 0)
theorem upg_0 (hn : ∀ f, 0 ≤ g f) (h0 : g 0 = 0) : upg g 0 = fun _ => 0 := by
  funext f
  unfold upg
  by_cases z : f = 0
  · rw [z, h0]; split <;> rfl
  · have s := cnt_s (g := g) (f := f) (by omega)
    have n := (cnt_in g (f - 1)).1
    have p := hn f
    split <;> omega
theorem upg_s {k : Int} {f : Nat} (hn : ∀ f, 0 ≤ g f) (h0 : g 0 = 0) (hf : 0 < g f) (hk : cnt g f = k + 1) : upg g (k + 1) = pg (upg g k) f (g f) ∧ upg g k f = 0 := by
  have f1 : 1 ≤ f := by
    by_cases z : f = 0
    · rw [z, h0] at hf; omega
    · omega
  constructor
  · funext x
    by_cases q : x = f
    · rw [q, pg_eq]; exact if_pos (by omega)
    · rw [pg_ne q]
      unfold upg
      by_cases z : cnt g x ≤ k
      · rw [if_pos z, if_pos (by omega)]
      · rw [if_neg z]
        by_cases w : cnt g x ≤ k + 1
        · rw [if_pos w]
          have p := hn x
          by_cases y : 0 < g x
          · have x1 : 1 ≤ x := by
              by_cases z : x = 0
              · rw [z, h0] at y; omega
              · omega
            exact absurd (cnt_inj y hf x1 f1 (by omega)) q
          · omega
        · rw [if_neg w]
  · exact if_neg (by omega)
theorem upg_all {k : Int} (hk : cnt g 40 ≤ k) (hz : ∀ f : Nat, 40 < f → g f = 0) : upg g k = g := by
  funext f
  unfold upg
  by_cases z : f ≤ 40
  · have m := cnt_mono g z
    rw [if_pos (by omega)]
  · rw [hz f (by omega)]; split <;> rfl
theorem upg_sub {k s : Int} (hs : ¬ s = 0) : csz (upg g k) s 40 ≤ csz g s 40 := csz_mono (fun f f1 f2 e => by
  unfold upg at e
  by_cases z : cnt g f ≤ k
  · rw [if_pos z] at e; exact e
  · rw [if_neg z] at e; exact absurd e.symm hs)
end UPS
/-- what adopt asks of what stands ahead -/
def ADQ (rk : PTG) (σ : tw_M) : Prop := WOK (wW 1 σ) ∧ (∀ s : Int, 1 ≤ s → s ≤ 10 → σ 3 s.toNat = rk s.toNat ∧ rk s.toNat ≤ 5) ∧ (¬ σ 60 6 = 0 → PLN (wW 1 σ) rk σ) ∧ ∃ gg qq : PTG, RG 24 gg qq σ ∧ CNR rk gg 28 σ
/-- in the midst of it -/
def ADI (W rk : PTG) (k : Int) (τ : tw_M) : Prop := (τ 60 10 = 1 ∧ τ 60 6 = 1) ∧ PLN W rk τ ∧ RG 24 (upg (lay W (τ 60 8)) k) (fun _ => 0) τ ∧ (∀ x : Int, 1 ≤ x → x ≤ 10 → τ 28 x.toNat = rk x.toNat - csz (upg (lay W (τ 60 8)) k) x 40) ∧ τ 24 0 = k
/-- what it leaves -/
def ADE (W rk : PTG) (r : Int) (σ τ : tw_M) : Prop := PLN W rk τ ∧ τ 60 6 = 1 ∧ ((τ 60 10 = 0 ∧ r = -4 ∧ ∀ c j : Nat, 23 ≤ c → c < 31 → τ c j = σ c j) ∨
  (τ 60 10 = 1 ∧ RG 24 (lay W (τ 60 8)) (fun _ => 0) τ ∧ (∀ x : Int, 1 ≤ x → x ≤ 10 → τ 28 x.toNat = rk x.toNat - csz (lay W (τ 60 8)) x 40) ∧ r = τ 24 0))
section ADS
variable {W rk : PTG} {k : Int} {σ τ : tw_M}
theorem PLN_plan (H : PLN W rk τ) (h : τ 60 10 = 1) : FEA W rk (τ 60 8) ∧ RG 67 (lay W (τ 60 8)) (fun _ => 0) τ := by
  rcases H with ⟨a, _⟩ | ⟨a, b, c, d, e, f⟩
  · omega
  · exact ⟨c, e⟩
theorem lay_nn {S : Int} : (∀ f, 0 ≤ lay W S f) ∧ lay W S 0 = 0 ∧ ∀ f : Nat, W 100 < (f : Int) → lay W S f = 0 := by
  refine ⟨fun f => ?_, ?_, fun f hf => ?_⟩
  · unfold lay; split <;> omega
  · unfold lay; rw [if_neg (fun q => by have := cW_in q.1; omega)]
  · unfold lay; rw [if_neg (fun q => by have := cW_in q.1; omega)]
theorem ADI_0 (hW : WOK W) (h1 : τ 60 10 = 1 ∧ τ 60 6 = 1) (hP : PLN W rk τ) (h24 : τ 24 0 = 0) (h28 : ∀ x : Int, 1 ≤ x → x ≤ 10 → τ 28 x.toNat = rk x.toNat) : ADI W rk 0 τ := by
  have n := lay_nn (W := W) (S := τ 60 8)
  have e := upg_0 n.1 n.2.1
  refine ⟨h1, hP, by rw [e]; exact RG_0 h24, fun x x1 x2 => ?_, h24⟩
  rw [e, csz_0 (by omega) 40, h28 x x1 x2]
  omega
/-- the next one may be put -/
theorem ADI_ok (hW : WOK W) (H : ADI W rk k τ) (hk : 0 ≤ k ∧ k < τ 67 0) : whyS W (upg (lay W (τ 60 8)) k (τ 68 k.toNat).toNat) (τ 24 0) (τ 28 (τ 69 k.toNat).toNat) (τ 68 k.toNat) (τ 69 k.toNat) = 0 ∧ 0 ≤ τ 28 (τ 69 k.toNat).toNat ∧
    upg (lay W (τ 60 8)) (k + 1) = pg (upg (lay W (τ 60 8)) k) (τ 68 k.toNat).toNat (τ 69 k.toNat) ∧ upg (lay W (τ 60 8)) k (τ 68 k.toNat).toNat = 0 ∧ (1 ≤ τ 69 k.toNat ∧ τ 69 k.toNat ≤ 10) ∧ cnt (upg (lay W (τ 60 8)) k) (τ 68 k.toNat).toNat = k := by
  obtain ⟨⟨a1, a2⟩, a3, a4, a5, a6⟩ := H
  obtain ⟨f1, f2⟩ := PLN_plan a3 a1
  have n := lay_nn (W := W) (S := τ 60 8)
  obtain ⟨b1, b2, b3, b4, b5⟩ := f2.2.1 k.toNat (by omega)
  have c := RG_cnt f2 k.toNat (by omega)
  have n67 := f2.1
  have e68 : τ (67 + 1) k.toNat = τ 68 k.toNat := rfl
  have e69 : τ (67 + 2) k.toNat = τ 69 k.toNat := rfl
  rw [e68] at b1 b2 b4 c
  rw [e69] at b3 b4
  have lp := lay_pos (W := W) (S := τ 60 8) (f := (τ 68 k.toNat).toNat) (by omega)
  have ci := cW_in lp.1
  have cw : cW W (τ 68 k.toNat).toNat = wC W (τ 68 k.toNat) := by
    unfold cW
    rw [if_pos ci, show (((τ 68 k.toNat).toNat : Nat) : Int) = τ 68 k.toNat by omega]
  have s10 : wC W (τ 68 k.toNat) ≤ 10 := by
    have := hW.2 (τ 68 k.toNat) b1 b2
    omega
  obtain ⟨u1, u2⟩ := upg_s (k := k) (f := (τ 68 k.toNat).toNat) n.1 n.2.1 (by omega) (by omega)
  have x10 : 1 ≤ τ 69 k.toNat ∧ τ 69 k.toNat ≤ 10 := ⟨b3, by omega⟩
  have rs := a5 _ x10.1 x10.2
  have fe := f1.1 _ x10.1 x10.2
  have sub := upg_sub (g := lay W (τ 60 8)) (k := k + 1) (s := τ 69 k.toNat) (by omega)
  rw [u1, show lay W (τ 60 8) (τ 68 k.toNat).toNat = τ 69 k.toNat by omega, csz_pg (by omega) (by rw [u2]; omega) (by omega)] at sub
  have n24 : cnt (upg (lay W (τ 60 8)) k) (τ 68 k.toNat).toNat = k := by
    have x1 := RG_all40 a4
    have x2 := cnt_mono (upg (lay W (τ 60 8)) k) (show (τ 68 k.toNat).toNat ≤ 40 by omega)
    have x3 : cnt (upg (lay W (τ 60 8)) k) 40 = cnt (upg (lay W (τ 60 8)) k) (τ 68 k.toNat).toNat := cnt_zero (by omega) (fun f g1 g2 => by
      have m := cnt_mono (lay W (τ 60 8)) (show (τ 68 k.toNat).toNat ≤ f by omega)
      unfold upg
      rw [if_neg (by omega)]
      exact Int.le_refl _)
    omega
  refine ⟨?_, by omega, by rw [u1, show lay W (τ 60 8) (τ 68 k.toNat).toNat = τ 69 k.toNat by omega], u2, x10, n24⟩
  exact why_0 ⟨b1, by omega, x10.1, x10.2⟩ (by omega) (by omega) (by omega)
theorem ADI_s {τ' : tw_M} (hW : WOK W) (H : ADI W rk k τ) (hk : 0 ≤ k ∧ k < τ 67 0) (hf : ∀ c j : Nat, 60 ≤ c → c < 71 → τ' c j = τ c j)
    (hR : RG 24 (pg (upg (lay W (τ 60 8)) k) (τ 68 k.toNat).toNat (τ 69 k.toNat)) (pg (fun _ => 0) (τ 68 k.toNat).toNat 0) τ') (h1 : τ' 28 (τ 69 k.toNat).toNat = τ 28 (τ 69 k.toNat).toNat - 1) (h2 : ∀ j : Nat, ¬ j = (τ 69 k.toNat).toNat → τ' 28 j = τ 28 j) : ADI W rk (k + 1) τ' := by
  obtain ⟨o1, o2, o3, o4, o5, o6⟩ := ADI_ok hW H hk
  obtain ⟨⟨a1, a2⟩, a3, a4, a5, a6⟩ := H
  have e8 : τ' 60 8 = τ 60 8 := hf 60 8 (by omega) (by omega)
  have q0 : pg (fun _ => (0 : Int)) (τ 68 k.toNat).toNat 0 = fun _ => 0 := by
    funext x
    unfold pg
    split <;> rfl
  rw [q0, ← o3] at hR
  have n1 := RG_all40 a4
  have n2 := RG_all40 hR
  have f67 := PLN_plan a3 a1
  have b1 := (f67.2.2.1 k.toNat (by omega)).1
  have b2 := (f67.2.2.1 k.toNat (by omega)).2.1
  have e68 : τ (67 + 1) k.toNat = τ 68 k.toNat := rfl
  rw [e68] at b1 b2
  refine ⟨⟨by rw [hf 60 10 (by omega) (by omega)]; exact a1, by rw [hf 60 6 (by omega) (by omega)]; exact a2⟩, BST_F a3 (fun j => hf 60 j (by omega) (by omega)) (fun c j c1 c2 => hf c j (by omega) (by omega)), by rw [e8]; exact hR, fun x x1 x2 => ?_, ?_⟩
  · rw [e8, o3]
    have y := a5 x x1 x2
    by_cases z : x = τ 69 k.toNat
    · rw [z, h1, csz_pg (by omega) (by rw [o4]; omega) (by omega)]
      rw [z] at y
      omega
    · rw [h2 _ (by omega), csz_pn (by rw [o4]; omega) (fun w => z w.symm)]
      exact y
  · rw [← n2, o3]
    have key : ∀ n : Nat, (τ 68 k.toNat).toNat ≤ n → cnt (pg (upg (lay W (τ 60 8)) k) (τ 68 k.toNat).toNat (τ 69 k.toNat)) n = cnt (upg (lay W (τ 60 8)) k) n + 1 := by
      intro n
      induction n with
      | zero => intro h; omega
      | succ n ih =>
        intro h
        by_cases z : (τ 68 k.toNat).toNat = n + 1
        · have e : cnt (pg (upg (lay W (τ 60 8)) k) (τ 68 k.toNat).toNat (τ 69 k.toNat)) n = cnt (upg (lay W (τ 60 8)) k) n := cnt_congr (fun f f1 f2 => pg_ne (by omega))
          simp only [cnt]
          rw [e, ← z, pg_eq, o4, if_pos (by omega), if_neg (by omega)]
          omega
        · have := ih (by omega)
          simp only [cnt]
          rw [pg_ne (fun w => z w.symm)]
          omega
    rw [key 40 (by omega), n1]
    omega
theorem ADI_end {r : Int} (hW : WOK W) (H : ADI W rk k τ) (hk : τ 67 0 ≤ k) (hr : r = τ 24 0) : ADE W rk r σ τ := by
  obtain ⟨⟨a1, a2⟩, a3, a4, a5, a6⟩ := H
  have f67 := PLN_plan a3 a1
  have n := lay_nn (W := W) (S := τ 60 8)
  have n1 := RG_all40 f67.2
  have w := hW.1
  have e : upg (lay W (τ 60 8)) k = lay W (τ 60 8) := upg_all (by omega) (fun f hf => n.2.2 f (by omega))
  rw [e] at a4 a5
  exact ⟨a3, a2, Or.inr ⟨a1, a4, a5, hr⟩⟩
end ADS
