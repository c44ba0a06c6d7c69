/-! THE SEARCH, step by step. -/
def f0F (c : Int) (σ : tw_M) : Int := if c = 0 then 1 else σ 66 (c - 1).toNat
def CHP (W rk : PTG) (c b e k : Int) (σ : tw_M) : Prop := CRK W σ ∧ (0 ≤ c ∧ c ≤ kk W) ∧ (0 ≤ b ∧ b < pt c) ∧ RG 61 (lay W b) (fun _ => 0) σ ∧ LFT W rk b σ ∧
  e = eff W (lay W b) (f0F c σ - 1).toNat ∧ k = rsk W (lay W b) 1023 (f0F c σ - 1).toNat ∧ ∀ h : Int, 1 ≤ h → h < f0F c σ → effX W (lay W b) h ≤ W 101
def CHQ (W rk : PTG) (b : Int) (σ : tw_M) : Prop := CRK W σ ∧ RG 61 (lay W b) (fun _ => 0) σ ∧ LFT W rk b σ
def GOP (W rk : PTG) (c b e k : Int) (σ : tw_M) : Prop := CRK W σ ∧ (0 ≤ c ∧ c < kk W) ∧ (0 ≤ b ∧ b < pt c) ∧ RG 61 (lay W b) (fun _ => 0) σ ∧ LFT W rk b σ ∧
  e = eff W (lay W b) (σ 66 c.toNat - 1).toNat ∧ k = rsk W (lay W b) 1023 (σ 66 c.toNat - 1).toNat ∧ ∀ h : Int, 1 ≤ h → h < σ 66 c.toNat → effX W (lay W b) h ≤ W 101
section CHS
variable {W rk : PTG} {T : Int → Prop} {σ τ : tw_M} {c b e k f1 : Int}
theorem CRK_F (H : CRK W σ) (h : τ 60 5 = σ 60 5) (h2 : ∀ j, τ 66 j = σ 66 j) : CRK W τ := by
  unfold CRK at *
  simp only [h, h2]
  exact H
theorem LFT_F (H : LFT W rk b σ) (h : ∀ j, τ 65 j = σ 65 j) : LFT W rk b τ := by
  unfold LFT at *
  simp only [h]
  exact H
theorem CHQ_F (H : CHQ W rk b σ) (h : τ 60 5 = σ 60 5) (h2 : ∀ x j, 61 ≤ x → x < 67 → τ x j = σ x j) : CHQ W rk b τ :=
  ⟨CRK_F H.1 h (fun j => h2 66 j (by omega) (by omega)), RG_F H.2.1 (fun x j x1 x2 => h2 x j (by omega) (by omega)), LFT_F H.2.2 (fun j => h2 65 j (by omega) (by omega))⟩
theorem CHP_Q (H : CHP W rk c b e k σ) : CHQ W rk b σ := ⟨H.1, H.2.2.2.1, H.2.2.2.2.1⟩
theorem CR_lt (H : CRK W σ) {i j : Nat} (hij : i < j) (hj : (j : Int) < kk W) : σ 66 i < σ 66 j := by
  obtain ⟨a1, a2, a3, a4⟩ := H.2 i (by omega)
  obtain ⟨b1, b2, b3, b4⟩ := H.2 j hj
  rcases (show σ 66 i < σ 66 j ∨ σ 66 j ≤ σ 66 i by omega) with q | q
  · exact q
  · have m := cnt_mono (cW W) (show (σ 66 j).toNat ≤ (σ 66 i).toNat by omega)
    omega
theorem CH_f0 (H : CHP W rk c b e k σ) (hW : WOK W) : 1 ≤ f0F c σ ∧ f0F c σ ≤ W 100 := by
  have w := hW.1
  unfold f0F
  by_cases q : c = 0
  · rw [if_pos q]; omega
  · rw [if_neg q]
    obtain ⟨a1, a2, a3, a4⟩ := H.1.2 (c - 1).toNat (by have := H.2.1; omega)
    exact ⟨a3, a4⟩
theorem CH_f1 (H : CHP W rk c b e k σ) (hW : WOK W) (h1 : (c = σ 60 5 ∧ f1 = W 100) ∨ (¬ c = σ 60 5 ∧ f1 = σ 66 c.toNat - 1)) : F1 W c f1 ∧ f0F c σ - 1 ≤ f1 ∧ f1 ≤ W 100 ∧ 0 ≤ f1 := by
  have w := hW.1
  have z := CH_f0 H hW
  have n := H.1.1
  have c1 := H.2.1
  rcases h1 with ⟨x1, x2⟩ | ⟨x1, x2⟩
  · have ec : c = kk W := by omega
    refine ⟨?_, by omega, by omega, by omega⟩
    rw [ec, x2]
    exact F1_top w.2
  · have ec : c < kk W := by omega
    obtain ⟨a1, a2, a3, a4⟩ := H.1.2 c.toNat (by omega)
    refine ⟨?_, ?_, by omega, by omega⟩
    · rw [x2]; exact F1_c H.1 ⟨c1.1, ec⟩
    · unfold f0F at z ⊢
      by_cases q : c = 0
      · rw [if_pos q]; omega
      · rw [if_neg q]
        have l := CR_lt H.1 (i := (c - 1).toNat) (j := c.toNat) (by omega) (by omega)
        omega
theorem fin_much {t : Int} (hW : WOK W) (hP : CHP W rk c b e k σ) (hB : BST W rk T σ) (h1 : (c = σ 60 5 ∧ f1 = W 100) ∨ (¬ c = σ 60 5 ∧ f1 = σ 66 c.toNat - 1)) (ht : TMs W (lay W b) 0 (f0F c σ) (f1 + 1) t) (h0 : 0 < t)
    (hF : ∀ x j, 60 ≤ x → x < 71 → τ x j = σ x j) : CHQ W rk b τ ∧ BST W rk (fun S => T S ∨ CMP W c b S) τ := by
  have z := CH_f0 hP hW
  obtain ⟨a1, a2, a3, a4⟩ := CH_f1 hP hW h1
  refine ⟨CHQ_F (CHP_Q hP) (hF 60 5 (by omega) (by omega)) (fun x j x1 x2 => hF x j (by omega) (by omega)), BST_F (BST_skip hB (fun S hS => Or.inl ?_)) (fun j => hF 60 j (by omega) (by omega)) (fun x j x1 x2 => hF x j (by omega) (by omega))⟩
  rcases ht with ⟨t1, t2⟩ | ⟨t1, t2, t3, t4⟩
  · omega
  · exact PL_much hP.2.1 a1 a3 ⟨by omega, by omega⟩ t3 S hS
theorem fin_prune {v : Int} (hW : WOK W) (hP : CHP W rk c b e k σ) (hB : BST W rk T σ) (h1 : (c = σ 60 5 ∧ f1 = W 100) ∨ (¬ c = σ 60 5 ∧ f1 = σ 66 c.toNat - 1)) (hv : v = rsk W (lay W b) 1023 f1.toNat) (hp : ¬ σ 60 10 = 0) (hr : σ 60 11 < v)
    (hF : ∀ x j, 60 ≤ x → x < 71 → τ x j = σ x j) : CHQ W rk b τ ∧ BST W rk (fun S => T S ∨ CMP W c b S) τ := by
  obtain ⟨a1, a2, a3, a4⟩ := CH_f1 hP hW h1
  have pl : σ 60 10 = 1 := by
    rcases hB with ⟨q, _⟩ | ⟨q, _⟩
    · exact absurd q hp
    · exact q
  refine ⟨CHQ_F (CHP_Q hP) (hF 60 5 (by omega) (by omega)) (fun x j x1 x2 => hF x j (by omega) (by omega)), BST_F (BST_skip hB (fun S hS => Or.inr ⟨pl, fun er => ?_⟩)) (fun j => hF 60 j (by omega) (by omega)) (fun x j x1 x2 => hF x j (by omega) (by omega))⟩
  exact PL_prune hW hP.2.1 a1 ⟨a4, a3⟩ hv (by omega) S hS
/-- all that is chosen is not too much, so far -/
theorem CH_ok {t : Int} (hW : WOK W) (hP : CHP W rk c b e k σ) (ht : TMs W (lay W b) 0 (f0F c σ) (f1 + 1) t) (h0 : t ≤ 0) : ∀ h : Int, 1 ≤ h → h ≤ f1 → effX W (lay W b) h ≤ W 101 := by
  have z := CH_f0 hP hW
  intro h x1 x2
  rcases ht with ⟨t1, t2⟩ | ⟨t1, t2, t3, t4⟩
  · by_cases q : h < f0F c σ
    · exact hP.2.2.2.2.2.2.2 h x1 q
    · exact t2 h (by omega) (by omega)
  · omega
theorem fin_keep {μ : tw_M} {t v : Int} (hW : WOK W) (hP : CHP W rk c b e k σ) (hB : BST W rk T σ) (hc : c = σ 60 5) (h1 : f1 = W 100) (ht : TMs W (lay W b) 0 (f0F c σ) (f1 + 1) t) (h0 : t ≤ 0) (hv : v = rsk W (lay W b) 1023 f1.toNat)
    (hF : ∀ x j, 60 ≤ x → x < 71 → μ x j = σ x j)
    (k1 : (¬ (μ 60 10 = 0 ∨ v < μ 60 11 ∨ (v = μ 60 11 ∧ (μ 61 0 < μ 67 0 ∨ (μ 61 0 = μ 67 0 ∧ b < μ 60 8)))) ∧ τ 60 10 = μ 60 10 ∧ τ 60 8 = μ 60 8 ∧ τ 60 11 = μ 60 11) ∨
      ((μ 60 10 = 0 ∨ v < μ 60 11 ∨ (v = μ 60 11 ∧ (μ 61 0 < μ 67 0 ∨ (μ 61 0 = μ 67 0 ∧ b < μ 60 8)))) ∧ τ 60 10 = 1 ∧ τ 60 8 = b ∧ τ 60 11 = v))
    (k2 : ∀ gg qq : Nat → Int, (μ 60 10 = 0 ∨ v < μ 60 11 ∨ (v = μ 60 11 ∧ (μ 61 0 < μ 67 0 ∨ (μ 61 0 = μ 67 0 ∧ b < μ 60 8)))) → RG 61 gg qq μ → RG 67 gg qq τ)
    (k3 : ∀ gg qq : Nat → Int, ¬ (μ 60 10 = 0 ∨ v < μ 60 11 ∨ (v = μ 60 11 ∧ (μ 61 0 < μ 67 0 ∨ (μ 61 0 = μ 67 0 ∧ b < μ 60 8)))) → RG 67 gg qq μ → RG 67 gg qq τ)
    (hG : τ 60 5 = μ 60 5) (hH : ∀ x j, 61 ≤ x → x < 67 → τ x j = μ x j) : CHQ W rk b τ ∧ BST W rk (fun S => T S ∨ CMP W c b S) τ := by
  have ok := CH_ok hW hP ht h0
  have ec : c = kk W := hc.trans hP.1.1
  have f : FEA W rk b := by
    refine ⟨fun s s1 s2 => ?_, fun h x1 x2 => ok h x1 (by omega)⟩
    have l := hP.2.2.2.2.1 s s1 s2
    omega
  have hv2 : v = RSK W b := by rw [hv, h1]; rfl
  have B2 : BST W rk T μ := BST_F hB (fun j => hF 60 j (by omega) (by omega)) (fun x j x1 x2 => hF x j (by omega) (by omega))
  have Q2 : CHQ W rk b μ := CHQ_F (CHP_Q hP) (hF 60 5 (by omega) (by omega)) (fun x j x1 x2 => hF x j (by omega) (by omega))
  refine ⟨CHQ_F Q2 hG hH, BST_eqv (PL_keep B2 f hv2 Q2.2.1 k1 k2 k3) (fun S => ?_)⟩
  rw [ec, CMP_full (by have := hP.2.2.1; rw [ec] at this; exact this)]
theorem ch_go {t v e' : Int} {μ : tw_M} (hW : WOK W) (hP : CHP W rk c b e k σ) (hc : ¬ c = σ 60 5) (h1 : f1 = σ 66 c.toNat - 1) (ht : TMs W (lay W b) 0 (f0F c σ) (f1 + 1) t) (h0 : t ≤ 0) (hv : v = rsk W (lay W b) 1023 f1.toNat) (he : e' = eff W (lay W b) f1.toNat)
    (hF : ∀ x j, 60 ≤ x → x < 71 → μ x j = σ x j) : GOP W rk c b e' v μ := by
  have ok := CH_ok hW hP ht h0
  have n := hP.1.1
  have c1 := hP.2.1
  have Q2 : CHQ W rk b μ := CHQ_F (CHP_Q hP) (hF 60 5 (by omega) (by omega)) (fun x j x1 x2 => hF x j (by omega) (by omega))
  have e6 : μ 66 c.toNat = σ 66 c.toNat := hF 66 _ (by omega) (by omega)
  refine ⟨Q2.1, ⟨c1.1, by omega⟩, hP.2.2.1, Q2.2.1, Q2.2.2, ?_, ?_, fun h x1 x2 => ok h x1 (by omega)⟩
  · rw [e6, ← h1]; exact he
  · rw [e6, ← h1]; exact hv
/-- ahead of a crack, one put into it changes nothing -/
theorem go_below {f : Nat} {v : Int} (hc : 0 ≤ c ∧ c ≤ 9) (hb : 0 ≤ b ∧ b < pt c) (h0 : 0 < cW W f) (hf : cnt (cW W) f = c + 1) {x : Nat} (hx : x < f) : lay W (b + pt c) x = lay W b x := by
  rw [(lay_put (W := W) (b := b) (c := c) (f := f) hc hb h0 hf).1, pg_ne (by omega)]
/-- the first choice: with a piece there -/
theorem go_1 {μ : tw_M} {b' : Int} (hP : GOP W rk c b e k σ) (hb' : b' = b + pt c) (hR : RG 61 (pg (lay W b) (σ 66 c.toNat).toNat (cW W (σ 66 c.toNat).toNat)) (pg (fun _ => 0) (σ 66 c.toNat).toNat 0) μ) (hL : LFT W rk b' μ)
    (hF : μ 60 5 = σ 60 5 ∧ ∀ j, μ 66 j = σ 66 j) : CHP W rk (c + 1) b' e k μ := by
  subst hb'
  have k1 := kk_in (W := W)
  obtain ⟨a1, a2, a3, a4, a5, a6, a7, a8⟩ := hP
  obtain ⟨c1, c2, c3, c4⟩ := a1.2 c.toNat (by omega)
  have hcc : cnt (cW W) (σ 66 c.toNat).toNat = c + 1 := by omega
  have p := pt_10 (k := c) ⟨a2.1, by omega⟩
  have lp := lay_put (W := W) (b := b) (c := c) ⟨a2.1, by omega⟩ a3 c1 hcc
  have e0 : f0F (c + 1) μ = σ 66 c.toNat := by
    unfold f0F
    rw [if_neg (by omega), hF.2, show c + 1 - 1 = c by omega]
  have q0 : pg (fun _ => (0 : Int)) (σ 66 c.toNat).toNat 0 = fun _ => 0 := by
    funext x
    unfold pg
    split <;> rfl
  rw [q0, ← lp.1] at hR
  have lo : ∀ x : Nat, 1 ≤ x → x ≤ (σ 66 c.toNat - 1).toNat → lay W (b + pt c) x = lay W b x := fun x x1 x2 => go_below (v := 0) ⟨a2.1, by omega⟩ a3 c1 hcc (by omega)
  refine ⟨CRK_F a1 hF.1 hF.2, ⟨by omega, by omega⟩, ⟨by omega, by omega⟩, hR, hL, ?_, ?_, fun h x1 x2 => ?_⟩
  · rw [e0, a6]; exact (eff_congr lo).symm
  · rw [e0, a7]; exact (rsk_congr lo).symm
  · rw [e0] at x2
    rw [effX_congr x1 (fun x y1 y2 => lo x y1 (by omega))]
    exact a8 h x1 x2
/-- the second one: without -/
theorem go_2 {μ : tw_M} (hP : GOP W rk c b e k σ) (hQ : CHQ W rk b μ) (hF : μ 66 c.toNat = σ 66 c.toNat) : CHP W rk (c + 1) b e k μ := by
  have k1 := kk_in (W := W)
  obtain ⟨a1, a2, a3, a4, a5, a6, a7, a8⟩ := hP
  have p := pt_10 (k := c) ⟨a2.1, by omega⟩
  have e0 : f0F (c + 1) μ = σ 66 c.toNat := by
    unfold f0F
    rw [if_neg (by omega), show c + 1 - 1 = c by omega, hF]
  refine ⟨hQ.1, ⟨by omega, by omega⟩, ⟨by omega, by omega⟩, hQ.2.1, hQ.2.2, by rw [e0]; exact a6, by rw [e0]; exact a7, fun h x1 x2 => a8 h x1 (by rw [e0] at x2; exact x2)⟩
/-- it is taken out again -/
theorem go_3 {μ τ : tw_M} {i : Int} (hP : GOP W rk c b e k σ) (hi : i = cnt (lay W b) (σ 66 c.toNat).toNat) (hR : RG 61 (lay W (b + pt c)) (fun _ => 0) μ) (hr : ∀ gg qq : Nat → Int, RG 61 gg qq μ → 0 ≤ i → i < μ 61 0 → RG 61 (pg gg (μ 62 i.toNat).toNat 0) qq τ) : RG 61 (lay W b) (fun _ => 0) τ := by
  have k1 := kk_in (W := W)
  obtain ⟨a1, a2, a3, a4, a5, a6, a7, a8⟩ := hP
  obtain ⟨c1, c2, c3, c4⟩ := a1.2 c.toNat (by omega)
  have hcc : cnt (cW W) (σ 66 c.toNat).toNat = c + 1 := by omega
  have lp := lay_put (W := W) (b := b) (c := c) ⟨a2.1, by omega⟩ a3 c1 hcc
  have v : lay W (b + pt c) (σ 66 c.toNat).toNat = cW W (σ 66 c.toNat).toNat := by rw [lp.1, pg_eq]
  have t := RG_at hR (f := (σ 66 c.toNat).toNat) (by omega)
  have s1 := cnt_s (g := lay W (b + pt c)) (f := (σ 66 c.toNat).toNat) (by omega)
  have s2 := cnt_s (g := lay W b) (f := (σ 66 c.toNat).toNat) (by omega)
  have e1 : cnt (lay W (b + pt c)) ((σ 66 c.toNat).toNat - 1) = cnt (lay W b) ((σ 66 c.toNat).toNat - 1) := cnt_congr (fun x x1 x2 => go_below (v := 0) ⟨a2.1, by omega⟩ a3 c1 hcc (by omega))
  have n := (cnt_in (lay W b) ((σ 66 c.toNat).toNat - 1)).1
  have z := lp.2
  have ei : i = cnt (lay W (b + pt c)) (σ 66 c.toNat).toNat - 1 := by omega
  have r := hr _ _ hR (by omega) (by omega)
  have e2 : μ 62 i.toNat = ((σ 66 c.toNat).toNat : Int) := by rw [ei]; exact t.2.2.1
  rw [e2] at r
  have e3 : pg (lay W (b + pt c)) (((σ 66 c.toNat).toNat : Int)).toNat 0 = lay W b := by
    funext x
    rw [lp.1]
    by_cases q : x = (σ 66 c.toNat).toNat
    · rw [q, show (((σ 66 c.toNat).toNat : Int)).toNat = (σ 66 c.toNat).toNat by omega, pg_eq, z]
    · rw [pg_ne (by omega), pg_ne q]
  rw [e3] at r
  exact r
theorem go_end {T1 T2 : Int → Prop} (hP : GOP W rk c b e k σ) (H : BST W rk T2 τ) (h1 : ∀ S, T2 S ↔ (T1 S ∨ CMP W (c + 1) (b + pt c) S) ∨ CMP W (c + 1) b S) : BST W rk (fun S => T1 S ∨ CMP W c b S) τ := by
  refine BST_eqv H (fun S => ?_)
  rw [h1 S, CMP_split hP.2.1 hP.2.2.1, or_assoc]
theorem go_none {f : Nat} (hP : GOP W rk c b e k σ) (hW : WOK W) (hf : (f : Int) = σ 66 c.toNat) (hn : σ 65 (cW W f).toNat ≤ 0) (hB : BST W rk T σ) : BST W rk (fun S => T S ∨ CMP W (c + 1) (b + pt c) S) σ := by
  obtain ⟨a1, a2, a3, a4, a5, a6, a7, a8⟩ := hP
  obtain ⟨c1, c2, c3, c4⟩ := a1.2 c.toNat (by omega)
  have ef : (σ 66 c.toNat).toNat = f := by omega
  rw [ef] at c1 c2
  exact BST_skip hB (fun S hS => Or.inl (PL_none a5 hW a2 a3 c1 (by omega) hn S hS))
theorem CR_eq {i : Nat} (H : CRK W σ) (H2 : CRK W τ) (hi : (i : Int) < kk W) : τ 66 i = σ 66 i := by
  obtain ⟨a1, a2, a3, a4⟩ := H.2 i hi
  obtain ⟨b1, b2, b3, b4⟩ := H2.2 i hi
  have e := cnt_inj b1 a1 (by omega) (by omega) (b2.trans a2.symm)
  omega
theorem lay_cnt (hc : 0 ≤ c ∧ c ≤ 10) (hb : 0 ≤ b ∧ b < pt c) : ∀ n : Nat, cnt (lay W b) n ≤ cnt (cW W) n ∧ cnt (lay W b) n ≤ c
  | 0 => ⟨Int.le_refl _, hc.1⟩
  | n + 1 => by
    have ih := lay_cnt hc hb n
    have s := cnt_s (g := lay W b) (f := n + 1) (by omega)
    have s2 := cnt_s (g := cW W) (f := n + 1) (by omega)
    rw [Nat.add_sub_cancel] at s s2
    rcases s with ⟨x1, x2⟩ | ⟨x1, x2⟩
    · have l := lay_pos x1
      have u : cnt (cW W) (n + 1) ≤ c := by
        rcases (show cnt (cW W) (n + 1) ≤ c ∨ c < cnt (cW W) (n + 1) by omega) with u | u
        · exact u
        · exact absurd (bt_hi hb ⟨hc.1, by omega⟩ (by omega)) l.2.2.1
      omega
    · omega
theorem go_put {m1 m2 : tw_M} {b' sz v r : Int} (hW : WOK W) (hP : GOP W rk c b e k σ) (hB : BST W rk T σ) (hsz : sz = cW W (σ 66 c.toNat).toNat) (e1 : m1 = tw_up σ 65 sz.toNat v) (hv : v = σ 65 sz.toNat - 1) (hl : 0 < σ 65 sz.toNat)
    (hin : ∀ gg qq : Nat → Int, RG 61 gg qq m1 → gg (σ 66 c.toNat).toNat = 0 → 1 ≤ σ 66 c.toNat → 1 ≤ sz → m1 61 0 < 10 → RG 61 (pg gg (σ 66 c.toNat).toNat sz) (pg qq (σ 66 c.toNat).toNat 0) m2 ∧ r = cnt gg (σ 66 c.toNat).toNat)
    (hF : ∀ x j, ¬ (61 ≤ x ∧ x < 65) → m2 x j = m1 x j) (hb' : b' = tw_or b (tw_shl 1 c)) : CHP W rk (c + 1) b' e k m2 ∧ BST W rk T m2 ∧ b' = b + pt c ∧ r = cnt (lay W b) (σ 66 c.toNat).toNat := by
  have k1 := kk_in (W := W)
  have hP0 := hP
  obtain ⟨a1, a2, a3, a4, a5, a6, a7, a8⟩ := hP
  obtain ⟨c1, c2, c3, c4⟩ := a1.2 c.toNat (by omega)
  have hcc : cnt (cW W) (σ 66 c.toNat).toNat = c + 1 := by omega
  have lp := lay_put (W := W) (b := b) (c := c) ⟨a2.1, by omega⟩ a3 c1 hcc
  have eb : b' = b + pt c := by rw [hb']; exact or_bit ⟨a2.1, by omega⟩ a3
  have n1 := RG_all40 a4
  have n2 := (lay_cnt (W := W) (b := b) (c := c) ⟨a2.1, by omega⟩ a3 40).2
  have f1 : ∀ x j, ¬ x = 65 → m1 x j = σ x j := fun x j h => tw_ne1 e1 (Or.inl h)
  have R1 : RG 61 (lay W b) (fun _ => 0) m1 := RG_F a4 (fun x j x1 x2 => f1 x j (by omega))
  obtain ⟨R2, er⟩ := hin _ _ R1 lp.2 c3 (by omega) (by rw [f1 61 0 (by omega)]; omega)
  have L1 : LFT W rk (b + pt c) m1 := LFT_put a5 hW a2 a3 c1 hcc (by rw [← hsz]; exact e1) (by rw [← hsz]; exact hv) (by rw [← hsz]; exact hl)
  have L2 : LFT W rk (b + pt c) m2 := LFT_F L1 (fun j => hF 65 j (by omega))
  refine ⟨go_1 hP0 eb (by rw [← hsz]; exact R2) (by rw [eb]; exact L2) ⟨by rw [hF 60 5 (by omega), f1 60 5 (by omega)], fun j => by rw [hF 66 j (by omega), f1 66 j (by omega)]⟩, ?_, eb, er⟩
  exact BST_F hB (fun j => by rw [hF 60 j (by omega), f1 60 j (by omega)]) (fun x j x1 x2 => by rw [hF x j (by omega), f1 x j (by omega)])
theorem go_back {T2 : Int → Prop} {m3 m4 m5 : tw_M} {b' sz v r : Int} (hW : WOK W) (hP : GOP W rk c b e k σ) (hQ : CHQ W rk b' m3) (hB : BST W rk T2 m3) (hb' : b' = b + pt c) (hr : r = cnt (lay W b) (σ 66 c.toNat).toNat) (hsz : sz = cW W (σ 66 c.toNat).toNat)
    (hrem : ∀ gg qq : Nat → Int, RG 61 gg qq m3 → 0 ≤ r → r < m3 61 0 → RG 61 (pg gg (m3 62 r.toNat).toNat 0) qq m4) (hF : ∀ x j, ¬ (61 ≤ x ∧ x < 65) → m4 x j = m3 x j) (e5 : m5 = tw_up m4 65 sz.toNat v) (hv0 : m4 65 sz.toNat + 1 < -2147483648 ∨ 2147483647 < m4 65 sz.toNat + 1 ∨ v = m4 65 sz.toNat + 1) (hs : σ 65 sz.toNat ≤ 2147483647) : CHP W rk (c + 1) b e k m5 ∧ BST W rk T2 m5 := by
  have k1 := kk_in (W := W)
  have hP0 := hP
  obtain ⟨a1, a2, a3, a4, a5, a6, a7, a8⟩ := hP
  obtain ⟨c1, c2, c3, c4⟩ := a1.2 c.toNat (by omega)
  have hcc : cnt (cW W) (σ 66 c.toNat).toNat = c + 1 := by omega
  rw [hb'] at hQ
  have f5 : ∀ x j, ¬ x = 65 → m5 x j = m4 x j := fun x j h => tw_ne1 e5 (Or.inl h)
  have R4 : RG 61 (lay W b) (fun _ => 0) m4 := go_3 hP0 hr hQ.2.1 hrem
  have R5 : RG 61 (lay W b) (fun _ => 0) m5 := RG_F R4 (fun x j x1 x2 => f5 x j (by omega))
  have L4 : LFT W rk (b + pt c) m4 := LFT_F hQ.2.2 (fun j => hF 65 j (by omega))
  have lp := lay_put (W := W) (b := b) (c := c) ⟨a2.1, by omega⟩ a3 c1 hcc
  have s10 : 1 ≤ sz ∧ sz ≤ 10 := by
    have a := hW.2 (σ 66 c.toNat) c3 (by have := hW.1; omega)
    have e : cW W (σ 66 c.toNat).toNat = wC W (((σ 66 c.toNat).toNat : Nat) : Int) := if_pos ⟨by omega, by omega⟩
    rw [show (((σ 66 c.toNat).toNat : Nat) : Int) = σ 66 c.toNat by omega] at e
    omega
  have hv : v = m4 65 sz.toNat + 1 := by
    have l1 := L4 sz s10.1 s10.2
    have l2 := a5 sz s10.1 s10.2
    rw [lp.1, ← hsz, csz_pg (by omega) (by rw [lp.2]; omega) (by have := hW.1; omega)] at l1
    omega
  have L5 : LFT W rk b m5 := LFT_take L4 hW a2 a3 c1 hcc (by rw [← hsz]; exact e5) (by rw [← hsz]; exact hv)
  have C5 : CRK W m5 := CRK_F hQ.1 (by rw [f5 60 5 (by omega), hF 60 5 (by omega)]) (fun j => by rw [f5 66 j (by omega), hF 66 j (by omega)])
  exact ⟨go_2 hP0 ⟨C5, R5, L5⟩ (CR_eq a1 C5 (by omega)), BST_F hB (fun j => by rw [f5 60 j (by omega), hF 60 j (by omega)]) (fun x j x1 x2 => by rw [f5 x j (by omega), hF x j (by omega)])⟩
/-- in the midst of looking for cracks -/
def CRB (W : PTG) (i : Int) (σ : tw_M) : Prop := (0 ≤ σ 60 5 ∧ σ 60 5 ≤ 10) ∧ σ 60 5 = cnt (cW W) (i - 1).toNat ∧ ∀ j : Nat, (j : Int) < σ 60 5 → 0 < cW W (σ 66 j).toNat ∧ cnt (cW W) (σ 66 j).toNat = (j : Int) + 1 ∧ 1 ≤ σ 66 j ∧ σ 66 j ≤ W 100
theorem CRB_0 (h : σ 60 5 = 0) : CRB W 1 σ := ⟨by omega, by rw [h]; rfl, fun j hj => by omega⟩
theorem CRB_n {i : Int} (H : CRB W i σ) (h1 : 1 ≤ i) (hc : cW W i.toNat ≤ 0) : CRB W (i + 1) σ := by
  have s := cnt_si (g := cW W) h1
  exact ⟨H.1, by rw [show i + 1 - 1 = i by omega]; have := H.2.1; omega, H.2.2⟩
theorem CRB_p {m1 m2 : tw_M} {i n : Int} (H : CRB W i σ) (h1 : 1 ≤ i ∧ i ≤ W 100) (hn : σ 60 5 < 10) (hc : 0 < cW W i.toNat) (e1 : m1 = tw_up σ 60 5 n) (hv : n = σ 60 5 + 1) (e2 : m2 = tw_up m1 66 (σ 60 5).toNat i) : CRB W (i + 1) m2 := by
  have s := cnt_si (g := cW W) h1.1
  obtain ⟨a, b, c⟩ := H
  have x5 : m2 60 5 = σ 60 5 + 1 := by rw [tw_ne1 e2 (by omega), tw_eq1 e1]; exact hv
  refine ⟨by omega, by rw [show i + 1 - 1 = i by omega]; omega, fun j hj => ?_⟩
  by_cases q : (j : Int) = σ 60 5
  · rw [tw_eq2 e2 (by omega)]
    exact ⟨hc, by omega, h1.1, h1.2⟩
  · rw [tw_ne1 e2 (by omega), tw_ne1 e1 (by omega)]
    exact c j (by omega)
theorem cW_zero {n : Nat} (hW : 1 ≤ W 100 ∧ W 100 ≤ 40) (hn : W 100 ≤ (n : Int)) : cnt (cW W) n = cnt (cW W) (W 100).toNat :=
  cnt_zero (by omega) (fun f f1 f2 => by rw [cW_out (by omega)]; exact Int.le_refl _)
theorem CRB_end {i : Int} (H : CRB W i σ) (hW : 1 ≤ W 100 ∧ W 100 ≤ 40) (hi : 1 ≤ i ∧ i ≤ W 100 + 1) (hx : W 100 < i ∨ 10 ≤ σ 60 5) : CRK W σ := by
  obtain ⟨a, b, c⟩ := H
  have z := cW_zero hW (n := 40) (by omega)
  have m := cnt_mono (cW W) (show (i - 1).toNat ≤ (W 100).toNat by omega)
  have e : σ 60 5 = kk W := by
    unfold kk
    rcases (show W 100 < i ∨ i ≤ W 100 by omega) with q | q
    · rw [show i - 1 = W 100 by omega] at b
      rw [z, ← b, if_pos a.2]
    · split <;> omega
  exact ⟨e, fun j hj => c j (by omega)⟩
/-- what stands between the calls: the plan that was found, if one was looked for -/
def PLN (W rk : PTG) (σ : tw_M) : Prop := BST W rk (fun S => 0 ≤ S ∧ S < pt (kk W)) σ
theorem PLN_0 (hW : WOK W) (hC : CRK W σ) (h0 : σ 61 0 = 0) (hL : ∀ s : Int, 1 ≤ s → s ≤ 10 → σ 65 s.toNat = rk s.toNat ∧ 0 ≤ σ 65 s.toNat) : CHP W rk 0 0 0 0 σ := by
  have k1 := kk_in (W := W)
  have e0 : f0F 0 σ = 1 := if_pos rfl
  have el : lay W 0 = fun _ => 0 := by funext x; exact lay_0
  have ez : ∀ s : Int, 1 ≤ s → ∀ n : Nat, csz (fun _ => (0 : Int)) s n = 0 := by
    intro s hs n
    induction n with
    | zero => rfl
    | succ n ih => simp only [csz]; rw [ih, if_neg (by omega)]; rfl
  refine ⟨hC, ⟨Int.le_refl _, k1.1⟩, ⟨Int.le_refl _, by decide⟩, by rw [el]; exact RG_0 h0, fun s s1 s2 => ?_, by rw [e0]; rfl, by rw [e0]; rfl, fun h x1 x2 => by rw [e0] at x2; omega⟩
  have l := hL s s1 s2
  rw [el, ez s s1 40]
  omega
end CHS
