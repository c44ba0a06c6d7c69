/-! FALLS, RISK, RULES, COUNTS: told alike. -/
section MORE
variable {τ m1 m2 : tw_M} {r1 r2 h s : Int}
theorem ST_fall {g w : Int} (H : ST τ) (ht : 1 ≤ τ 91 0 ∧ τ 91 0 ≤ 40)
    (hX : ∀ gg qq : Nat → Int, RG 24 gg qq τ → (r1 = -1 ∧ ¬ ((1 ≤ h ∧ h ≤ τ 2 0) ∧ 0 ≤ g ∧ g < pt (τ 24 0))) ∨ (((1 ≤ h ∧ h ≤ τ 2 0) ∧ 0 ≤ g ∧ g < pt (τ 24 0)) ∧ FAX (wW 1 τ) gg h g w r1))
    (hM : (r2 = -1 ∧ ¬ ((1 ≤ h ∧ h ≤ m1 91 0) ∧ 0 ≤ g ∧ g < pt (cnt (gM 0 m1) (m1 91 0).toNat))) ∨ (((1 ≤ h ∧ h ≤ m1 91 0) ∧ 0 ≤ g ∧ g < pt (cnt (gM 0 m1) (m1 91 0).toNat)) ∧ FAX (wM m1) (gM 0 m1) h g w r2))
    (fX : ∀ c j, ¬ c = 55 → m1 c j = τ c j) : r1 = r2 := by
  have b := H.2.1
  have nn := HR_n b ht
  have eg : gM 0 m1 = gM 0 τ := gM_F (fun f f1 f2 => fX 89 _ (by omega))
  have eM : wM m1 = wM τ := wM_F (fun j _ _ => fX 91 j (by omega)) (fun j => fX 92 j (by omega))
  have e91 : m1 91 0 = τ 91 0 := fX 91 0 (by omega)
  have r0 : wW 1 τ 100 = wM τ 100 := by rw [H.1]
  have r1' : wM τ 100 = τ 91 0 := wM_r (j := 0) (by decide)
  have r2' : wW 1 τ 100 = τ 2 0 := wW_r (w := 1) (j := 0) (by decide)
  have x := hX _ _ b.1
  rw [eg, eM, e91, nn, ← H.1, show τ 91 0 = τ 2 0 by omega] at hM
  rcases x with ⟨x1, x2⟩ | ⟨x1, x2⟩
  · rcases hM with ⟨y1, _⟩ | ⟨y1, _⟩
    · omega
    · exact absurd y1 x2
  · rcases hM with ⟨_, y2⟩ | ⟨_, y2⟩
    · exact absurd x1 y2
    · exact FAX_same x2 y2
theorem ST_risk {w : Int} (H : ST τ) (hX : ∀ gg qq : Nat → Int, RG 24 gg qq τ → RSA (wW 1 τ) gg w r1) (hM : RSA (wM m1) (gM 0 m1) w r2) (fX : ∀ c j, ¬ (56 ≤ c ∧ c < 58) → m1 c j = τ c j) : r1 = r2 := by
  have eg : gM 0 m1 = gM 0 τ := gM_F (fun f f1 f2 => fX 89 _ (by omega))
  have eM : wM m1 = wM τ := wM_F (fun j _ _ => fX 91 j (by omega)) (fun j => fX 92 j (by omega))
  rw [eg, eM, ← H.1] at hM
  exact RSA_same (hX _ _ H.2.1.1) hM
theorem ST_keep {k w : Int} (H : ST τ) (hI : tw_I τ)
    (hX : ∀ rk : Nat → Int, WOK (wW 1 τ) → (∀ s : Int, 1 ≤ s → s ≤ 10 → τ 3 s.toNat = rk s.toNat) → (r1 = -1 ∧ ¬ ((1 ≤ k ∧ k ≤ 40) ∧ 0 ≤ w ∧ w ≤ 2)) ∨ (((1 ≤ k ∧ k ≤ 40) ∧ 0 ≤ w ∧ w ≤ 2) ∧ KEA (wW 1 τ) (KPS (wW 1 τ) rk k 40).1 w r1))
    (hM : ∀ rk : Nat → Int, MOK rk m1 → (r2 = -1 ∧ ¬ ((1 ≤ k ∧ k ≤ 40) ∧ 0 ≤ w ∧ w ≤ 2)) ∨ (((1 ≤ k ∧ k ≤ 40) ∧ 0 ≤ w ∧ w ≤ 2) ∧ KEA (wM m1) (KPS (wM m1) rk k 40).1 w r2))
    (fX : ∀ c j, ¬ (56 ≤ c ∧ c < 71) → m1 c j = τ c j) : r1 = r2 := by
  have ht : (1 : Int) ≤ τ 91 0 ∧ τ 91 0 ≤ 40 := hI 91 0
  have e91 : m1 91 0 = τ 91 0 := fX 91 0 (by omega)
  have eM : wM m1 = wM τ := wM_F (fun j _ _ => fX 91 j (by omega)) (fun j => fX 92 j (by omega))
  have M1 : MOB (τ 3) 0 m1 := MOB_c H.2.1.2.2 (fun j j1 j2 => fX 89 _ (by omega)) e91
  have y := hM _ (MOK_of (by omega) M1)
  have x := hX (τ 3) (by rw [H.1]; exact WOK_M hI) (fun s _ _ => rfl)
  rw [eM, ← H.1] at y
  rcases x with ⟨x1, x2⟩ | ⟨x1, x2⟩
  · rcases y with ⟨y1, _⟩ | ⟨y1, _⟩
    · omega
    · exact absurd y1 x2
  · rcases y with ⟨_, y2⟩ | ⟨_, y2⟩
    · exact absurd x1 y2
    · exact KEA_same x2 y2
end MORE
section CNT
variable {τ : tw_M} {r1 r2 : Int}
theorem nc_cz {σ : tw_M} (hI : tw_I σ) : ∀ n : Nat, nc σ n = cz (fun j => σ 92 (5 * j + 1)) n
  | 0 => rfl
  | n + 1 => by
    have ih := nc_cz hI n
    have s := nc_s (σ := σ) (f := ((n + 1 : Nat) : Int)) (by omega)
    have t := cz_s (f := fun j => σ 92 (5 * j + 1)) (i := ((n + 1 : Nat) : Int)) (by omega)
    have b := mw_10 hI (5 * ((n + 1 : Nat) : Int) + 1).toNat
    unfold mCr at s
    rw [show (((n + 1 : Nat) : Int)).toNat = n + 1 by omega, show (((n + 1 : Nat) : Int) - 1).toNat = n by omega] at s t
    rw [show (5 * ((n + 1 : Nat) : Int) + 1).toNat = 5 * (n + 1) + 1 by omega] at s b
    omega
theorem ST_count {w : Int} (H : ST τ) (hI : tw_I τ) (z : τ 10 10 = τ 88 12) (k0 : τ 31 6 = τ 90 0) (k1 : τ 39 6 = τ 90 1) (t0 : τ 29 0 = τ 89 93) (t1 : τ 29 1 = τ 89 95) (s0 : (τ 80 1 = 0 ∧ τ 104 0 = -4) ∨ (τ 80 1 = 1 ∧ ¬ τ 104 0 = -4 ∧ τ 105 0 = τ 80 3))
    (x : (w = 0 ∧ r1 = τ 24 0) ∨ (w = 1 ∧ r1 = cz (τ 5) (τ 2 0).toNat) ∨ (w = 2 ∧ r1 = cz (τ 6) (τ 2 0).toNat) ∨ (w = 3 ∧ r1 = cz (τ 7) (τ 2 0).toNat) ∨ (w = 4 ∧ r1 = sm (τ 28) 10) ∨ (w = 5 ∧ r1 = τ 29 0 + τ 29 1) ∨ (w = 6 ∧ r1 = τ 31 6 + τ 39 6) ∨ (w = 7 ∧ r1 = τ 10 10) ∨ (w = 8 ∧ ((τ 80 1 = 0 ∧ r1 = -4) ∨ (¬ τ 80 1 = 0 ∧ r1 = τ 80 3))) ∨ (¬ (0 ≤ w ∧ w ≤ 8) ∧ r1 = -1))
    (y : (w = 0 ∧ r2 = cnt (gM 0 τ) (τ 91 0).toNat) ∨ (w = 1 ∧ r2 = nc τ (τ 91 0).toNat) ∨ (w = 2 ∧ r2 = cz (fun j => τ 92 (5 * j + 2)) (τ 91 0).toNat) ∨ (w = 3 ∧ r2 = cz (fun j => τ 92 (5 * j + 3)) (τ 91 0).toNat) ∨ (w = 4 ∧ r2 = sm (fun j => τ 89 (82 + j)) 10) ∨ (w = 5 ∧ r2 = τ 89 93 + τ 89 95) ∨ (w = 6 ∧ r2 = τ 90 0 + τ 90 1) ∨ (w = 7 ∧ r2 = τ 88 12) ∨ (w = 8 ∧ ((τ 104 0 = -4 ∧ r2 = -4) ∨ (¬ τ 104 0 = -4 ∧ r2 = τ 105 0))) ∨ (¬ (0 ≤ w ∧ w ≤ 8) ∧ r2 = -1)) : r1 = r2 := by
  have ht : (1 : Int) ≤ τ 91 0 ∧ τ 91 0 ≤ 40 := hI 91 0
  have nn := HR_n H.2.1 ht
  have r0 : wW 1 τ 100 = wM τ 100 := by rw [H.1]
  have r1' : wM τ 100 = τ 91 0 := wM_r (j := 0) (by decide)
  have r2' : wW 1 τ 100 = τ 2 0 := wW_r (w := 1) (j := 0) (by decide)
  have tt : τ 2 0 = τ 91 0 := by omega
  have c1 : cz (τ 5) (τ 2 0).toNat = nc τ (τ 91 0).toNat := by
    rw [nc_cz hI, tt]
    exact cz_congr (fun j a b => by
      have e := WLS H.1 (h := j) (k := 1) (by omega) (by decide)
      have e' : τ 5 j = τ 92 (5 * j + 1) := e
      rw [e'])
  have c2 : cz (τ 6) (τ 2 0).toNat = cz (fun j => τ 92 (5 * j + 2)) (τ 91 0).toNat := by
    rw [tt]
    exact cz_congr (fun j a b => by
      have e := WLS H.1 (h := j) (k := 2) (by omega) (by decide)
      have e' : τ 6 j = τ 92 (5 * j + 2) := e
      rw [e'])
  have c3 : cz (τ 7) (τ 2 0).toNat = cz (fun j => τ 92 (5 * j + 3)) (τ 91 0).toNat := by
    rw [tt]
    exact cz_congr (fun j a b => by
      have e := WLS H.1 (h := j) (k := 3) (by omega) (by decide)
      have e' : τ 7 j = τ 92 (5 * j + 3) := e
      rw [e'])
  have c4 : sm (τ 28) 10 = sm (fun j => τ 89 (82 + j)) 10 := sm_congr (fun j a b => by
    have e : τ 28 (j : Int).toNat = τ 89 (0 + 82 + (j : Int)).toNat := H.2.1.2.1 (j : Int) (by omega) (by omega)
    rw [show ((j : Nat) : Int).toNat = j by omega, show (0 + 82 + (j : Int)).toNat = 82 + j by omega] at e
    exact e)
  rcases x with ⟨a, b⟩ | ⟨a, b⟩ | ⟨a, b⟩ | ⟨a, b⟩ | ⟨a, b⟩ | ⟨a, b⟩ | ⟨a, b⟩ | ⟨a, b⟩ | ⟨a, b⟩ | ⟨a, b⟩ <;> rcases y with ⟨c, d⟩ | ⟨c, d⟩ | ⟨c, d⟩ | ⟨c, d⟩ | ⟨c, d⟩ | ⟨c, d⟩ | ⟨c, d⟩ | ⟨c, d⟩ | ⟨c, d⟩ | ⟨c, d⟩ <;> omega
end CNT
/-- the best rule, once found, stays found -/
def BQ (τ : tw_M) : Prop := ¬ τ 60 7 = 0 → BSR (wM τ) (τ 3) 40 (τ 60 12) (τ 60 13)
theorem BQ_F {σ τ : tw_M} (H : BQ σ) (h : ∀ c j : Nat, ((0 < c ∧ c < 10) ∨ (c = 60 ∧ (j = 7 ∨ j = 12 ∨ j = 13)) ∨ (c = 91 ∧ ¬ j = 5 ∧ ¬ j = 6) ∨ c = 92) → τ c j = σ c j) : BQ τ := by
  unfold BQ at *
  have eM : wM τ = wM σ := wM_F (fun j a b => h 91 j (by omega)) (fun j => h 92 j (by omega))
  have e3 : τ 3 = σ 3 := funext (fun j => h 3 j (by omega))
  rw [eM, e3, h 60 7 (by omega), h 60 12 (by omega), h 60 13 (by omega)]
  exact H
section BES
variable {τ m1 m2 : tw_M} {r1 r2 : Int}
theorem BQ_text {P y : PTG} (B : BQ τ) (e : m1 0 13 = m2 88 17) (z7 : ¬ m1 0 13 = 0 ∨ m1 60 7 = 0)
    (hX : (m1 0 13 = 0 ∧ wW 1 m1 = P ∧ (∀ j : Nat, j < 11 → m1 3 j = y (200 + j)) ∧ m1 24 0 = 0 ∧ (∀ j : Nat, j < 11 → m1 28 j = y (200 + j)) ∧ m1 23 4 = y 105 ∧ m1 23 5 = y 106 ∧ m1 60 6 = 0) ∨ (¬ m1 0 13 = 0 ∧ ∀ c j : Nat, ((0 < c ∧ c < 10) ∨ (23 ≤ c ∧ c < 88)) → m1 c j = τ c j))
    (hM : (m2 88 17 = 0 ∧ wM m2 = P ∧ (∀ j : Nat, j < 11 → m2 89 (82 + j) = y (200 + j)) ∧ (∀ j : Nat, j < 82 → m2 89 j = 0) ∧ m2 91 5 = y 105 ∧ m2 91 6 = y 106) ∨ (¬ m2 88 17 = 0 ∧ ∀ c j : Nat, 89 ≤ c → c < 93 → m2 c j = m1 c j))
    (fX : ∀ c j : Nat, 80 ≤ c ∨ (c = 0 ∧ j = 14) → m1 c j = τ c j) (fM : ∀ c j : Nat, c < 88 ∨ (c = 88 ∧ j = 38) ∨ 104 ≤ c → m2 c j = m1 c j) : BQ m2 := by
  rcases hX with ⟨x1, _⟩ | ⟨x1, x2⟩
  · intro k
    rw [fM 60 7 (by omega)] at k
    exact absurd (z7.resolve_left (fun z => z x1)) k
  · rcases hM with ⟨y1, _⟩ | ⟨_, y2⟩
    · omega
    · exact BQ_F B (fun c j h => by
        by_cases q : c < 88
        · exact (fM c j (by omega)).trans (x2 c j (by omega))
        · exact (y2 c j (by omega) (by omega)).trans (fX c j (by omega)))
theorem ST_best {w : Int} (H : ST τ) (B : BQ τ) (hI : tw_I τ)
    (hX : ∀ rk : Nat → Int, WOK (wW 1 τ) → (∀ s : Int, 1 ≤ s → s ≤ 10 → τ 3 s.toNat = rk s.toNat) → (¬ τ 60 6 = 0 → PLN (wW 1 τ) rk τ) → (¬ τ 60 7 = 0 → BSR (wW 1 τ) rk 40 (τ 60 12) (τ 60 13)) → (r1 = -1 ∧ ¬ (0 ≤ w ∧ w ≤ 2)) ∨ ((0 ≤ w ∧ w ≤ 2) ∧ PLN (wW 1 τ) rk m1 ∧ BSR (wW 1 τ) rk 40 (m1 60 12) (m1 60 13) ∧ (((m1 60 10 = 0 ∨ m1 60 12 = 0) ∧ r1 = -4) ∨ (¬ m1 60 10 = 0 ∧ ¬ m1 60 12 = 0 ∧ ((w = 0 ∧ r1 = m1 60 12) ∨ (w = 1 ∧ r1 = m1 60 13) ∨ (w = 2 ∧ r1 = tw_w32 (m1 60 13 - m1 60 11)))))))
    (hM : ∀ rk : Nat → Int, MOK rk m1 → WOK (wM m1) → (r2 = -1 ∧ ¬ (0 ≤ w ∧ w ≤ 2)) ∨ ((0 ≤ w ∧ w ≤ 2) ∧ ∃ p v b9 l9 : Int, BMS (wM m1) rk (pt (kk (wM m1))) p v ∧ BSR (wM m1) rk 40 b9 l9 ∧ (((p = -4 ∨ b9 = 0) ∧ r2 = -4) ∨ (¬ p = -4 ∧ ¬ b9 = 0 ∧ ((w = 0 ∧ r2 = b9) ∨ (w = 1 ∧ r2 = l9) ∨ (w = 2 ∧ r2 = tw_w32 (l9 - v)))))))
    (fX : ∀ c j, ¬ (56 ≤ c ∧ c < 71) → m1 c j = τ c j) : r1 = r2 := by
  have ht : (1 : Int) ≤ τ 91 0 ∧ τ 91 0 ≤ 40 := hI 91 0
  have e91 : m1 91 0 = τ 91 0 := fX 91 0 (by omega)
  have eM : wM m1 = wM τ := wM_F (fun j _ _ => fX 91 j (by omega)) (fun j => fX 92 j (by omega))
  have M1 : MOB (τ 3) 0 m1 := MOB_c H.2.1.2.2 (fun j j1 j2 => fX 89 _ (by omega)) e91
  have y := hM _ (MOK_of (by omega) M1) (by rw [eM]; exact WOK_M hI)
  have x := hX (τ 3) (by rw [H.1]; exact WOK_M hI) (fun s _ _ => rfl) (by rw [H.1]; exact H.2.2.2.2.2.1) (by rw [H.1]; exact B)
  rw [eM] at y
  rw [H.1] at x
  rcases x with ⟨x1, x2⟩ | ⟨x1, x2, x3, x4⟩
  · rcases y with ⟨y1, _⟩ | ⟨y1, _⟩
    · omega
    · exact absurd y1 x2
  · rcases y with ⟨_, y2⟩ | ⟨_, p, v, b9, l9, q1, q2, q3⟩
    · exact absurd x1 y2
    · obtain ⟨e1, e2⟩ := BSR_eq x3 q2
      rw [e1, e2] at x4
      rcases PLN_same x2 q1 with ⟨s1, s2⟩ | ⟨s1, s2, _, s4, _⟩
      · clear x3 q2
        omega
      · rw [s4] at x4
        clear x3 q2
        omega
end BES
theorem ST_piece {τ : tw_M} {r1 r2 k w : Int} (H : ST τ) (ht : 1 ≤ τ 91 0 ∧ τ 91 0 ≤ 40)
    (hX : ∀ gg qq : Nat → Int, RG 24 gg qq τ → (r1 = -1 ∧ ¬ (0 ≤ k ∧ k < τ 24 0)) ∨ ((0 ≤ k ∧ k < τ 24 0) ∧ PCA (wW 1 τ) gg qq (τ 24 0) (τ 23 4) (τ 23 5) k w r1))
    (hM : (r2 = -1 ∧ ¬ (0 ≤ k ∧ k < cnt (gM 0 τ) (τ 91 0).toNat)) ∨ ((0 ≤ k ∧ k < cnt (gM 0 τ) (τ 91 0).toNat) ∧ PCA (wM τ) (gM 0 τ) (qM 0 τ) (cnt (gM 0 τ) (τ 91 0).toNat) (τ 91 5) (τ 91 6) k w r2)) : r1 = r2 := by
  have nn := HR_n H.2.1 ht
  have x := hX _ _ H.2.1.1
  rw [nn, ← H.1, ← H.2.2.1.1, ← H.2.2.1.2] at hM
  rcases x with ⟨x1, x2⟩ | ⟨x1, x2⟩
  · rcases hM with ⟨y1, _⟩ | ⟨y1, _⟩
    · omega
    · exact absurd y1 x2
  · rcases hM with ⟨_, y2⟩ | ⟨_, y2⟩
    · exact absurd x1 y2
    · exact PCA_same x2 y2
theorem ST_down {τ m1 : tw_M} {r1 r2 h : Int} (H : ST τ) (hX : (r1 = -1 ∧ ¬ (0 ≤ h ∧ h ≤ τ 2 0)) ∨ ((0 ≤ h ∧ h ≤ τ 2 0) ∧ DAN (wW 1 τ) h r1)) (hM : (r2 = -1 ∧ ¬ (0 ≤ h ∧ h ≤ m1 91 0)) ∨ ((0 ≤ h ∧ h ≤ m1 91 0) ∧ DAN (wM m1) h r2)) (fX : ∀ c j, ¬ c = 73 → m1 c j = τ c j) : r1 = r2 := by
  have eM : wM m1 = wM τ := wM_F (fun j _ _ => fX 91 j (by omega)) (fun j => fX 92 j (by omega))
  have e91 : m1 91 0 = τ 91 0 := fX 91 0 (by omega)
  have r0 : wW 1 τ 100 = wM τ 100 := by rw [H.1]
  have r1' : wM τ 100 = τ 91 0 := wM_r (j := 0) (by decide)
  have r2' : wW 1 τ 100 = τ 2 0 := wW_r (w := 1) (j := 0) (by decide)
  rw [eM, ← H.1] at hM
  unfold DAN at hX hM
  rcases hX with ⟨x1, x2⟩ | ⟨x1, x2⟩ <;> rcases hM with ⟨y1, y2⟩ | ⟨y1, y2⟩ <;> omega
theorem ST_drag {τ : tw_M} {r1 r2 w : Int} (H : ST τ) (ht : 1 ≤ τ 91 0 ∧ τ 91 0 ≤ 40) (hX : ∀ gg qq : Nat → Int, RG 24 gg qq τ → DGA (wW 1 τ) gg qq (τ 24 0) w r1) (hM : DGA (wM τ) (gM 0 τ) (qM 0 τ) (cnt (gM 0 τ) (τ 91 0).toNat) w r2) : r1 = r2 := by
  rw [HR_n H.2.1 ht, ← H.1] at hM
  exact DGA_same (hX _ _ H.2.1.1) hM
theorem ST_story {τ m1 : tw_M} {r1 r2 p q : Int} (H : ST τ) (ht : 1 ≤ τ 91 0 ∧ τ 91 0 ≤ 40)
    (hX : ∀ gg qq : Nat → Int, RG 24 gg qq τ → (r1 = -1 ∧ ¬ ((0 ≤ p ∧ p < pt (τ 24 0)) ∧ 0 ≤ q ∧ q ≤ τ 2 0)) ∨ (((0 ≤ p ∧ p < pt (τ 24 0)) ∧ 0 ≤ q ∧ q ≤ τ 2 0) ∧ r1 = STY (wW 1 τ) gg (tw_and (pt (τ 24 0) - 1) (tw_xor p (-1))) p q (τ 2 0).toNat))
    (hM : (r2 = -1 ∧ ¬ ((0 ≤ p ∧ p < pt (cnt (gM 0 m1) (m1 91 0).toNat)) ∧ 0 ≤ q ∧ q ≤ m1 91 0)) ∨ (((0 ≤ p ∧ p < pt (cnt (gM 0 m1) (m1 91 0).toNat)) ∧ 0 ≤ q ∧ q ≤ m1 91 0) ∧ r2 = STY (wM m1) (gM 0 m1) (tw_and (pt (cnt (gM 0 m1) (m1 91 0).toNat) - 1) (tw_xor p (-1))) p q (m1 91 0).toNat)) (fX : ∀ c j, ¬ c = 55 → m1 c j = τ c j) : r1 = r2 := by
  have b := H.2.1
  have nn := HR_n b ht
  have eg : gM 0 m1 = gM 0 τ := gM_F (fun f f1 f2 => fX 89 _ (by omega))
  have eM : wM m1 = wM τ := wM_F (fun j _ _ => fX 91 j (by omega)) (fun j => fX 92 j (by omega))
  have e91 : m1 91 0 = τ 91 0 := fX 91 0 (by omega)
  have r0 : wW 1 τ 100 = wM τ 100 := by rw [H.1]
  have r1' : wM τ 100 = τ 91 0 := wM_r (j := 0) (by decide)
  have r2' : wW 1 τ 100 = τ 2 0 := wW_r (w := 1) (j := 0) (by decide)
  have x := hX _ _ b.1
  rw [eg, eM, e91, nn, ← H.1, show τ 91 0 = τ 2 0 by omega] at hM
  rcases x with ⟨x1, x2⟩ | ⟨x1, x2⟩ <;> rcases hM with ⟨y1, y2⟩ | ⟨y1, y2⟩
  · omega
  · exact absurd y1 x2
  · exact absurd x1 y2
  · exact x2.trans y2.symm
theorem ST_needless {τ m1 : tw_M} {r1 r2 : Int} (H : ST τ) (ht : 1 ≤ τ 91 0 ∧ τ 91 0 ≤ 40) (hX : ∀ gg qq : Nat → Int, RG 24 gg qq τ → r1 = BTS (NDP (wW 1 τ) gg) (τ 24 0).toNat) (hM : r2 = BTS (NDP (wM m1) (gM 0 m1)) (cnt (gM 0 m1) (m1 91 0).toNat).toNat) (fX : ∀ c j, ¬ (56 ≤ c ∧ c < 58) → m1 c j = τ c j) : r1 = r2 := by
  have eg : gM 0 m1 = gM 0 τ := gM_F (fun f f1 f2 => fX 89 _ (by omega))
  have eM : wM m1 = wM τ := wM_F (fun j _ _ => fX 91 j (by omega)) (fun j => fX 92 j (by omega))
  rw [eg, eM, fX 91 0 (by omega), HR_n H.2.1 ht, ← H.1] at hM
  exact (hX _ _ H.2.1.1).trans hM.symm
