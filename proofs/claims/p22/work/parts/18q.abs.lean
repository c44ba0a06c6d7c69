/-! WHAT BOTH HAVE READ, as a state of numbers. -/
def fX (σ : tw_M) : Int → Int := lk (σ 10 10) (fun j => tw_and (σ 11 j) 255)
def fM (σ : tw_M) : Int → Int := lk (σ 88 12) (fun j => σ 98 j)
theorem fX_at {σ : tw_M} {i : Int} (h : 0 ≤ i ∧ i < σ 10 10) : fX σ i = tw_and (σ 11 i.toNat) 255 := if_pos h
theorem fX_no {σ : tw_M} {i : Int} (h : ¬ (0 ≤ i ∧ i < σ 10 10)) : fX σ i = -1 := if_neg h
theorem fM_at {σ : tw_M} {i : Int} (h : 0 ≤ i ∧ i < σ 88 12) : fM σ i = σ 98 i.toNat := if_pos h
theorem fM_no {σ : tw_M} {i : Int} (h : ¬ (0 ≤ i ∧ i < σ 88 12)) : fM σ i = -1 := if_neg h
theorem fX_F {σ τ : tw_M} (h1 : τ 10 10 = σ 10 10) (h2 : ∀ j, τ 11 j = σ 11 j) : fX τ = fX σ := by
  unfold fX
  rw [h1, show (fun j => tw_and (τ 11 j) 255) = (fun j => tw_and (σ 11 j) 255) from funext (fun j => by rw [h2])]
theorem fM_F {σ τ : tw_M} (h1 : τ 88 12 = σ 88 12) (h2 : ∀ j, τ 98 j = σ 98 j) : fM τ = fM σ := by
  unfold fM
  rw [h1, show (fun j => τ 98 j) = (fun j => σ 98 j) from funext (fun j => h2 j)]
theorem fX_FB {σ : tw_M} (h : 0 ≤ σ 10 10 ∧ σ 10 10 ≤ 400) : FB (fX σ) := by
  intro p
  by_cases hp : 0 ≤ p ∧ p < σ 10 10
  · rw [fX_at hp]
    have := and255 (a := σ 11 p.toNat)
    exact ⟨fun q => by omega, by omega⟩
  · rw [fX_no hp]
    exact ⟨fun _ => rfl, by decide⟩
def drX (σ : tw_M) : PTS := fun n =>
  if n = 6 then σ 10 3 else if n = 7 then σ 10 4
  else if 100 ≤ n ∧ n < 109 then σ 15 (n - 100)
  else if 200 ≤ n ∧ n < 211 then σ 16 (n - 200)
  else if 300 ≤ n ∧ n < 505 then (if (n - 300) % 5 = 0 then σ 17 ((n - 300) / 5) else if (n - 300) % 5 = 1 then σ 18 ((n - 300) / 5) else if (n - 300) % 5 = 2 then σ 19 ((n - 300) / 5) else if (n - 300) % 5 = 3 then σ 20 ((n - 300) / 5) else σ 21 ((n - 300) / 5))
  else if 600 ≤ n ∧ n < 641 then σ 12 (n - 600)
  else if 700 ≤ n ∧ n < 711 then σ 13 (n - 700) else 0
def drM (σ : tw_M) : PTS := fun n =>
  if n = 6 then σ 88 9 else if n = 7 then σ 88 10
  else if 100 ≤ n ∧ n < 109 then σ 93 (n - 100)
  else if 200 ≤ n ∧ n < 211 then σ 95 (n - 200)
  else if 300 ≤ n ∧ n < 505 then σ 94 (n - 300)
  else if 600 ≤ n ∧ n < 641 then σ 96 (n - 600)
  else if 700 ≤ n ∧ n < 711 then σ 97 (n - 700) else 0
def aX (σ : tw_M) : PTS := if σ 10 11 = 0 then ok (σ 10 5) (σ 10 7) (σ 10 6) (σ 10 8) (drX σ) else pF (σ 10 11) (σ 10 12)
def aM (σ : tw_M) : PTS := if σ 88 17 = 0 then ok (σ 88 13) (σ 88 14) (σ 88 15) (σ 88 16) (drM σ) else pF (σ 88 17) (σ 88 18)
theorem drX_F {σ τ : tw_M} (h3 : τ 10 3 = σ 10 3) (h4 : τ 10 4 = σ 10 4) (h : ∀ c j, (c = 12 ∨ c = 13 ∨ (15 ≤ c ∧ c < 22)) → τ c j = σ c j) : drX τ = drX σ := by
  funext n
  unfold drX
  rw [h3, h4, h 15 _ (by omega), h 16 _ (by omega), h 17 _ (by omega), h 18 _ (by omega), h 19 _ (by omega), h 20 _ (by omega), h 21 _ (by omega), h 12 _ (by omega), h 13 _ (by omega)]
theorem drM_F {σ τ : tw_M} (h3 : τ 88 9 = σ 88 9) (h4 : τ 88 10 = σ 88 10) (h : ∀ c j, (93 ≤ c ∧ c < 98) → τ c j = σ c j) : drM τ = drM σ := by
  funext n
  unfold drM
  rw [h3, h4, h 93 _ (by omega), h 95 _ (by omega), h 94 _ (by omega), h 96 _ (by omega), h 97 _ (by omega)]
theorem aX_4 {σ : tw_M} : (aX σ) 4 = σ 10 11 := by
  unfold aX
  split
  · rename_i h; rw [ok_4, h]
  · rw [pF_4]
theorem aM_4 {σ : tw_M} : (aM σ) 4 = σ 88 17 := by
  unfold aM
  split
  · rename_i h; rw [ok_4, h]
  · rw [pF_4]
theorem aX_ok {σ : tw_M} (h : σ 10 11 = 0) : aX σ = ok (σ 10 5) (σ 10 7) (σ 10 6) (σ 10 8) (drX σ) := if_pos h
theorem aM_ok {σ : tw_M} (h : σ 88 17 = 0) : aM σ = ok (σ 88 13) (σ 88 14) (σ 88 15) (σ 88 16) (drM σ) := if_pos h
theorem aX_pF {σ : tw_M} {c w : Int} (hc : ¬ c = 0) (h : σ 10 11 = c) (hw : σ 10 12 = w) : aX σ = pF c w := by
  subst h; subst hw
  exact if_neg hc
theorem aM_pF {σ : tw_M} {c w : Int} (hc : ¬ c = 0) (h : σ 88 17 = c) (hw : σ 88 18 = w) : aM σ = pF c w := by
  subst h; subst hw
  exact if_neg hc
/-- a fault's place is told once -/
theorem aX_fl {σ τ : tw_M} {a b : Int} (ha : ¬ a = 0) (h : (σ 10 11 = 0 ∧ τ 10 11 = a ∧ τ 10 12 = b) ∨ (¬ σ 10 11 = 0 ∧ τ 10 11 = σ 10 11 ∧ τ 10 12 = σ 10 12)) : aX τ = fl a b (aX σ) := by
  unfold fl
  rw [aX_4]
  rcases h with ⟨h1, h2, h3⟩ | ⟨h1, h2, h3⟩
  · rw [if_neg (fun q => q h1)]
    exact aX_pF ha h2 h3
  · rw [if_pos h1, aX_pF h1 rfl rfl]
    exact aX_pF h1 h2 h3
theorem drX_w {σ τ : tw_M} {c j : Nat} {v : Int} {i : Nat} (e : τ = tw_up σ c j v)
    (hi : (c = 10 ∧ j = 3 ∧ i = 6) ∨ (c = 10 ∧ j = 4 ∧ i = 7) ∨ (c = 15 ∧ j < 9 ∧ i = 100 + j) ∨ (c = 16 ∧ j < 11 ∧ i = 200 + j) ∨ (c = 17 ∧ j < 41 ∧ i = 300 + 5 * j) ∨ (c = 18 ∧ j < 41 ∧ i = 301 + 5 * j) ∨ (c = 19 ∧ j < 41 ∧ i = 302 + 5 * j) ∨ (c = 20 ∧ j < 41 ∧ i = 303 + 5 * j) ∨ (c = 21 ∧ j < 41 ∧ i = 304 + 5 * j) ∨ (c = 12 ∧ j < 41 ∧ i = 600 + j) ∨ (c = 13 ∧ j < 11 ∧ i = 700 + j)) : drX τ = pu (drX σ) i v := by
  subst e
  funext n
  by_cases hn : n = i
  · subst hn
    unfold pu drX
    rw [if_pos rfl]
    rcases hi with ⟨rfl, rfl, rfl⟩ | ⟨rfl, rfl, rfl⟩ | ⟨rfl, h, rfl⟩ | ⟨rfl, h, rfl⟩ | ⟨rfl, h, rfl⟩ | ⟨rfl, h, rfl⟩ | ⟨rfl, h, rfl⟩ | ⟨rfl, h, rfl⟩ | ⟨rfl, h, rfl⟩ | ⟨rfl, h, rfl⟩ | ⟨rfl, h, rfl⟩
    · rw [if_pos rfl]; exact tw_up_self _ _ _ _
    · rw [if_neg (by decide), if_pos rfl]; exact tw_up_self _ _ _ _
    · rw [if_neg (by omega), if_neg (by omega), if_pos ⟨by omega, by omega⟩, show 100 + j - 100 = j by omega]; exact tw_up_self _ _ _ _
    · rw [if_neg (by omega), if_neg (by omega), if_neg (by omega), if_pos ⟨by omega, by omega⟩, show 200 + j - 200 = j by omega]; exact tw_up_self _ _ _ _
    · rw [if_neg (by omega), if_neg (by omega), if_neg (by omega), if_neg (by omega), if_pos ⟨by omega, by omega⟩, if_pos (by omega), show (300 + 5 * j - 300) / 5 = j by omega]; exact tw_up_self _ _ _ _
    · rw [if_neg (by omega), if_neg (by omega), if_neg (by omega), if_neg (by omega), if_pos ⟨by omega, by omega⟩, if_neg (by omega), if_pos (by omega), show (301 + 5 * j - 300) / 5 = j by omega]; exact tw_up_self _ _ _ _
    · rw [if_neg (by omega), if_neg (by omega), if_neg (by omega), if_neg (by omega), if_pos ⟨by omega, by omega⟩, if_neg (by omega), if_neg (by omega), if_pos (by omega), show (302 + 5 * j - 300) / 5 = j by omega]; exact tw_up_self _ _ _ _
    · rw [if_neg (by omega), if_neg (by omega), if_neg (by omega), if_neg (by omega), if_pos ⟨by omega, by omega⟩, if_neg (by omega), if_neg (by omega), if_neg (by omega), if_pos (by omega), show (303 + 5 * j - 300) / 5 = j by omega]; exact tw_up_self _ _ _ _
    · rw [if_neg (by omega), if_neg (by omega), if_neg (by omega), if_neg (by omega), if_pos ⟨by omega, by omega⟩, if_neg (by omega), if_neg (by omega), if_neg (by omega), if_neg (by omega), show (304 + 5 * j - 300) / 5 = j by omega]; exact tw_up_self _ _ _ _
    · rw [if_neg (by omega), if_neg (by omega), if_neg (by omega), if_neg (by omega), if_neg (by omega), if_pos ⟨by omega, by omega⟩, show 600 + j - 600 = j by omega]; exact tw_up_self _ _ _ _
    · rw [if_neg (by omega), if_neg (by omega), if_neg (by omega), if_neg (by omega), if_neg (by omega), if_neg (by omega), if_pos ⟨by omega, by omega⟩, show 700 + j - 700 = j by omega]; exact tw_up_self _ _ _ _
  · unfold pu
    rw [if_neg hn]
    have key : ∀ a b : Nat, (a ≠ c ∨ b ≠ j) → tw_up σ c j v a b = σ a b := fun a b h => tw_up_ne h
    unfold drX
    by_cases a6 : n = 6
    · rw [if_pos a6, if_pos a6]; exact key _ _ (by omega)
    · rw [if_neg a6, if_neg a6]
      by_cases a7 : n = 7
      · rw [if_pos a7, if_pos a7]; exact key _ _ (by omega)
      · rw [if_neg a7, if_neg a7]
        by_cases a1 : 100 ≤ n ∧ n < 109
        · rw [if_pos a1, if_pos a1]; exact key _ _ (by omega)
        · rw [if_neg a1, if_neg a1]
          by_cases a2 : 200 ≤ n ∧ n < 211
          · rw [if_pos a2, if_pos a2]; exact key _ _ (by omega)
          · rw [if_neg a2, if_neg a2]
            by_cases a3 : 300 ≤ n ∧ n < 505
            · rw [if_pos a3, if_pos a3]
              by_cases b0 : (n - 300) % 5 = 0
              · rw [if_pos b0, if_pos b0]; exact key _ _ (by omega)
              · rw [if_neg b0, if_neg b0]
                by_cases b1 : (n - 300) % 5 = 1
                · rw [if_pos b1, if_pos b1]; exact key _ _ (by omega)
                · rw [if_neg b1, if_neg b1]
                  by_cases b2 : (n - 300) % 5 = 2
                  · rw [if_pos b2, if_pos b2]; exact key _ _ (by omega)
                  · rw [if_neg b2, if_neg b2]
                    by_cases b3 : (n - 300) % 5 = 3
                    · rw [if_pos b3, if_pos b3]; exact key _ _ (by omega)
                    · rw [if_neg b3, if_neg b3]; exact key _ _ (by omega)
            · rw [if_neg a3, if_neg a3]
              by_cases a4 : 600 ≤ n ∧ n < 641
              · rw [if_pos a4, if_pos a4]; exact key _ _ (by omega)
              · rw [if_neg a4, if_neg a4]
                by_cases a5 : 700 ≤ n ∧ n < 711
                · rw [if_pos a5, if_pos a5]; exact key _ _ (by omega)
                · rw [if_neg a5, if_neg a5]
theorem drM_w {σ τ : tw_M} {c j : Nat} {v : Int} {i : Nat} (e : τ = tw_up σ c j v)
    (hi : (c = 88 ∧ j = 9 ∧ i = 6) ∨ (c = 88 ∧ j = 10 ∧ i = 7) ∨ (c = 93 ∧ j < 9 ∧ i = 100 + j) ∨ (c = 95 ∧ j < 11 ∧ i = 200 + j) ∨ (c = 94 ∧ j < 205 ∧ i = 300 + j) ∨ (c = 96 ∧ j < 41 ∧ i = 600 + j) ∨ (c = 97 ∧ j < 11 ∧ i = 700 + j)) : drM τ = pu (drM σ) i v := by
  subst e
  funext n
  by_cases hn : n = i
  · subst hn
    unfold pu drM
    rw [if_pos rfl]
    rcases hi with ⟨rfl, rfl, rfl⟩ | ⟨rfl, rfl, rfl⟩ | ⟨rfl, h, rfl⟩ | ⟨rfl, h, rfl⟩ | ⟨rfl, h, rfl⟩ | ⟨rfl, h, rfl⟩ | ⟨rfl, h, rfl⟩
    · rw [if_pos rfl]; exact tw_up_self _ _ _ _
    · rw [if_neg (by decide), if_pos rfl]; exact tw_up_self _ _ _ _
    · rw [if_neg (by omega), if_neg (by omega), if_pos ⟨by omega, by omega⟩, show 100 + j - 100 = j by omega]; exact tw_up_self _ _ _ _
    · rw [if_neg (by omega), if_neg (by omega), if_neg (by omega), if_pos ⟨by omega, by omega⟩, show 200 + j - 200 = j by omega]; exact tw_up_self _ _ _ _
    · rw [if_neg (by omega), if_neg (by omega), if_neg (by omega), if_neg (by omega), if_pos ⟨by omega, by omega⟩, show 300 + j - 300 = j by omega]; exact tw_up_self _ _ _ _
    · rw [if_neg (by omega), if_neg (by omega), if_neg (by omega), if_neg (by omega), if_neg (by omega), if_pos ⟨by omega, by omega⟩, show 600 + j - 600 = j by omega]; exact tw_up_self _ _ _ _
    · rw [if_neg (by omega), if_neg (by omega), if_neg (by omega), if_neg (by omega), if_neg (by omega), if_neg (by omega), if_pos ⟨by omega, by omega⟩, show 700 + j - 700 = j by omega]; exact tw_up_self _ _ _ _
  · unfold pu
    rw [if_neg hn]
    have key : ∀ a b : Nat, (a ≠ c ∨ b ≠ j) → tw_up σ c j v a b = σ a b := fun a b h => tw_up_ne h
    unfold drM
    by_cases a6 : n = 6
    · rw [if_pos a6, if_pos a6]; exact key _ _ (by omega)
    · rw [if_neg a6, if_neg a6]
      by_cases a7 : n = 7
      · rw [if_pos a7, if_pos a7]; exact key _ _ (by omega)
      · rw [if_neg a7, if_neg a7]
        by_cases a1 : 100 ≤ n ∧ n < 109
        · rw [if_pos a1, if_pos a1]; exact key _ _ (by omega)
        · rw [if_neg a1, if_neg a1]
          by_cases a2 : 200 ≤ n ∧ n < 211
          · rw [if_pos a2, if_pos a2]; exact key _ _ (by omega)
          · rw [if_neg a2, if_neg a2]
            by_cases a3 : 300 ≤ n ∧ n < 505
            · rw [if_pos a3, if_pos a3]; exact key _ _ (by omega)
            · rw [if_neg a3, if_neg a3]
              by_cases a4 : 600 ≤ n ∧ n < 641
              · rw [if_pos a4, if_pos a4]; exact key _ _ (by omega)
              · rw [if_neg a4, if_neg a4]
                by_cases a5 : 700 ≤ n ∧ n < 711
                · rw [if_pos a5, if_pos a5]; exact key _ _ (by omega)
                · rw [if_neg a5, if_neg a5]
/-- a draft's number is written -/
theorem aX_wr {σ τ : tw_M} {c j : Nat} {v : Int} {i : Nat} (e : τ = tw_up σ c j v)
    (hi : (c = 10 ∧ j = 3 ∧ i = 6) ∨ (c = 10 ∧ j = 4 ∧ i = 7) ∨ (c = 15 ∧ j < 9 ∧ i = 100 + j) ∨ (c = 16 ∧ j < 11 ∧ i = 200 + j) ∨ (c = 17 ∧ j < 41 ∧ i = 300 + 5 * j) ∨ (c = 18 ∧ j < 41 ∧ i = 301 + 5 * j) ∨ (c = 19 ∧ j < 41 ∧ i = 302 + 5 * j) ∨ (c = 20 ∧ j < 41 ∧ i = 303 + 5 * j) ∨ (c = 21 ∧ j < 41 ∧ i = 304 + 5 * j) ∨ (c = 12 ∧ j < 41 ∧ i = 600 + j) ∨ (c = 13 ∧ j < 11 ∧ i = 700 + j)) : aX τ = wr i v (aX σ) := by
  have hd := drX_w e hi
  have h1 : ∀ b, b = 5 ∨ b = 6 ∨ b = 7 ∨ b = 8 ∨ b = 11 ∨ b = 12 → τ 10 b = σ 10 b := fun b hb => tw_ne1 e (by omega)
  unfold aX
  rw [h1 11 (by omega), h1 5 (by omega), h1 7 (by omega), h1 6 (by omega), h1 8 (by omega), h1 12 (by omega), hd]
  by_cases h0 : σ 10 11 = 0
  · rw [if_pos h0, if_pos h0, wr_ok (by omega)]
  · rw [if_neg h0, if_neg h0, wr_pF (by rw [pF_4]; exact h0)]
theorem aM_wr {σ τ : tw_M} {c j : Nat} {v : Int} {i : Nat} (e : τ = tw_up σ c j v)
    (hi : (c = 88 ∧ j = 9 ∧ i = 6) ∨ (c = 88 ∧ j = 10 ∧ i = 7) ∨ (c = 93 ∧ j < 9 ∧ i = 100 + j) ∨ (c = 95 ∧ j < 11 ∧ i = 200 + j) ∨ (c = 94 ∧ j < 205 ∧ i = 300 + j) ∨ (c = 96 ∧ j < 41 ∧ i = 600 + j) ∨ (c = 97 ∧ j < 11 ∧ i = 700 + j)) : aM τ = wr i v (aM σ) := by
  have hd := drM_w e hi
  have h1 : ∀ b, b = 13 ∨ b = 14 ∨ b = 15 ∨ b = 16 ∨ b = 17 ∨ b = 18 → τ 88 b = σ 88 b := fun b hb => tw_ne1 e (by omega)
  unfold aM
  rw [h1 17 (by omega), h1 13 (by omega), h1 14 (by omega), h1 15 (by omega), h1 16 (by omega), h1 18 (by omega), hd]
  by_cases h0 : σ 88 17 = 0
  · rw [if_pos h0, if_pos h0, wr_ok (by omega)]
  · rw [if_neg h0, if_neg h0, wr_pF (by rw [pF_4]; exact h0)]
theorem nv_lt {f : Int → Int} {s k : Int} (h : 0 ≤ k ∧ k < 3) : nv f s (k + 1).toNat = 10 * nv f s k.toNat + f (s + k) - 48 := by
  rw [show (k + 1).toNat = k.toNat + 1 by omega]
  show (if k.toNat < 3 then 10 * nv f s k.toNat + f (s + (k.toNat : Int)) - 48 else nv f s k.toNat) = _
  rw [if_pos (by omega), Int.toNat_of_nonneg h.1]
theorem nv_ge {f : Int → Int} {s k : Int} (h : 3 ≤ k) : nv f s (k + 1).toNat = nv f s k.toNat := by
  rw [show (k + 1).toNat = k.toNat + 1 by omega]
  show (if k.toNat < 3 then 10 * nv f s k.toNat + f (s + (k.toNat : Int)) - 48 else nv f s k.toNat) = _
  rw [if_neg (by omega)]
theorem nm_len {f : Int → Int} {s e : Int} {t : Nat} (h : ¬ e - s = (tw_llen t : Int)) : nm f s e t = 0 := if_neg (fun q => h q.1)
theorem nm_ch {f : Int → Int} {s e : Int} {t k : Nat} (hk : k < tw_llen t) (h : ¬ f (s + (k : Int)) = tw_lch t k) : nm f s e t = 0 := if_neg (fun q => h (q.2 k hk))
theorem nm_1 {f : Int → Int} {s e : Int} {t : Nat} (h : e - s = (tw_llen t : Int)) (h2 : ∀ i : Nat, i < tw_llen t → f (s + (i : Int)) = tw_lch t i) : nm f s e t = 1 := if_pos ⟨h, h2⟩
-- a token is taken, as the class does it
theorem adv_no {σ : tw_M} (h : ¬ σ 10 11 = 0) : aX σ = tok (fX σ) (aX σ) := (tok_pF (by rw [aX_4]; exact h)).symm
theorem adv_end {σ τ : tw_M} (h0 : σ 10 11 = 0) (hd : drX τ = drX σ) (h1 : τ 10 11 = 0) (hs : τ 10 7 = run isS (fX σ) (σ 10 5)) (h : fX σ (τ 10 7) < 0) (hk : τ 10 6 = 0) (hp : τ 10 5 = τ 10 7) : aX τ = tok (fX σ) (aX σ) := by
  rw [aX_ok h0, aX_ok h1, hd, hk, hp]
  exact (tok_end hs h).symm
theorem adv_name {σ τ : tw_M} (h0 : σ 10 11 = 0) (hd : drX τ = drX σ) (h1 : τ 10 11 = 0) (hs : τ 10 7 = run isS (fX σ) (σ 10 5)) (h : 97 ≤ fX σ (τ 10 7) ∧ fX σ (τ 10 7) ≤ 122) (hk : τ 10 6 = 1) (hp : τ 10 5 = run isL (fX σ) (τ 10 7)) : aX τ = tok (fX σ) (aX σ) := by
  rw [aX_ok h0, aX_ok h1, hd, hk]
  exact (tok_name hs h hp).symm
theorem adv_num {σ τ : tw_M} (h0 : σ 10 11 = 0) (hd : drX τ = drX σ) (h1 : τ 10 11 = 0) (hs : τ 10 7 = run isS (fX σ) (σ 10 5)) (h : 48 ≤ fX σ (τ 10 7) ∧ fX σ (τ 10 7) ≤ 57) (hk : τ 10 6 = 2) (hp : τ 10 5 = run isG (fX σ) (τ 10 7)) (hv : τ 10 8 = nv (fX σ) (τ 10 7) (τ 10 5 - τ 10 7).toNat) (h3 : τ 10 5 - τ 10 7 ≤ 3) : aX τ = tok (fX σ) (aX σ) := by
  rw [aX_ok h0, aX_ok h1, hd, hk]
  exact (tok_num hs h hp hv h3).symm
theorem adv_long {σ τ : tw_M} (h0 : σ 10 11 = 0) (h1 : τ 10 11 = 1) (hw : τ 10 12 = τ 10 7) (hs : τ 10 7 = run isS (fX σ) (σ 10 5)) (h : 48 ≤ fX σ (τ 10 7) ∧ fX σ (τ 10 7) ≤ 57) (hp : τ 10 5 = run isG (fX σ) (τ 10 7)) (h3 : 3 < τ 10 5 - τ 10 7) : aX τ = tok (fX σ) (aX σ) := by
  rw [aX_ok h0, aX_pF (by decide) h1 hw]
  exact (tok_long hs h (by rw [← hp]; exact h3)).symm
theorem adv_stop {σ τ : tw_M} (h0 : σ 10 11 = 0) (hd : drX τ = drX σ) (h1 : τ 10 11 = 0) (hs : τ 10 7 = run isS (fX σ) (σ 10 5)) (h : fX σ (τ 10 7) = 59) (hk : τ 10 6 = 3) (hp : τ 10 5 = τ 10 7 + 1) : aX τ = tok (fX σ) (aX σ) := by
  rw [aX_ok h0, aX_ok h1, hd, hk, hp]
  exact (tok_stop hs h).symm
theorem adv_bad {σ τ : tw_M} (h0 : σ 10 11 = 0) (h1 : τ 10 11 = 1) (hw : τ 10 12 = τ 10 7) (hs : τ 10 7 = run isS (fX σ) (σ 10 5)) (h : 0 ≤ fX σ (τ 10 7) ∧ ¬ (97 ≤ fX σ (τ 10 7) ∧ fX σ (τ 10 7) ≤ 122) ∧ ¬ (48 ≤ fX σ (τ 10 7) ∧ fX σ (τ 10 7) ≤ 57) ∧ ¬ fX σ (τ 10 7) = 59) : aX τ = tok (fX σ) (aX σ) := by
  rw [aX_ok h0, aX_pF (by decide) h1 hw]
  exact (tok_bad hs h).symm
-- what is wanted, and a fault where it isn't
theorem aX_need {σ τ : tw_M} {c : Int} {g : Bool} (hc : ¬ c = 0) (hg : σ 10 11 = 0 → g = false) (h : (σ 10 11 = 0 ∧ τ 10 11 = c ∧ τ 10 12 = σ 10 7) ∨ (¬ σ 10 11 = 0 ∧ τ 10 11 = σ 10 11 ∧ τ 10 12 = σ 10 12)) : aX τ = need g c (aX σ) := by
  rw [aX_fl hc h]
  by_cases h0 : σ 10 11 = 0
  · rw [hg h0, need_f, aX_ok h0, ok_1]
  · rw [need_pF (by rw [aX_4]; exact h0), fl_pF (by rw [aX_4]; exact h0)]
theorem aX_needt {σ : tw_M} {c : Int} {g : Bool} (hg : σ 10 11 = 0 → g = true) : aX σ = need g c (aX σ) := by
  by_cases h0 : σ 10 11 = 0
  · rw [hg h0, need_t]
  · rw [need_pF (by rw [aX_4]; exact h0)]
theorem aX_0 {σ : tw_M} (h : σ 10 11 = 0) : (aX σ) 0 = σ 10 5 := by rw [aX_ok h, ok_0]
theorem aX_1 {σ : tw_M} (h : σ 10 11 = 0) : (aX σ) 1 = σ 10 7 := by rw [aX_ok h, ok_1]
theorem aX_2 {σ : tw_M} (h : σ 10 11 = 0) : (aX σ) 2 = σ 10 6 := by rw [aX_ok h, ok_2]
theorem aX_3 {σ : tw_M} (h : σ 10 11 = 0) (h2 : σ 10 6 = 2) : (aX σ) 3 = σ 10 8 := by rw [aX_ok h, ok_3, if_pos h2]
theorem aX_d {σ : tw_M} (h : σ 10 11 = 0) {n : Nat} (hn : 6 ≤ n) : (aX σ) n = drX σ n := by rw [aX_ok h, ok_ge hn]
theorem wr_cg {i : Nat} {v v' : Int} {S : PTS} (h : S 4 = 0 → v = v') : wr i v S = wr i v' S := by
  by_cases h4 : S 4 = 0
  · rw [h h4]
  · rw [wr_pF h4, wr_pF h4]
/-- a number that stands is looked at -/
theorem aX_num_no {σ : tw_M} {a b : Int} (h : ¬ σ 10 11 = 0) : aX σ = numS a b (aX σ) := (numS_pF (by rw [aX_4]; exact h)).symm
theorem aX_num_ok {σ : tw_M} {a b : Int} (h : σ 10 11 = 0) (h2 : σ 10 6 = 2) (hv : a ≤ σ 10 8 ∧ σ 10 8 ≤ b) : aX σ = numS a b (aX σ) := by
  rw [aX_ok h, h2]
  exact (num_ok hv).symm
theorem aX_num_sort {σ τ : tw_M} {a b : Int} (h : σ 10 11 = 0) (h2 : ¬ σ 10 6 = 2) (h3 : τ 10 11 = 2 ∧ τ 10 12 = σ 10 7) : aX τ = numS a b (aX σ) := by
  rw [aX_ok h, aX_pF (by decide) h3.1 h3.2]
  exact (num_sort h2).symm
theorem aX_num_out {σ τ : tw_M} {a b : Int} (h : σ 10 11 = 0) (h2 : σ 10 6 = 2) (hv : ¬ (a ≤ σ 10 8 ∧ σ 10 8 ≤ b)) (h3 : τ 10 11 = 3 ∧ τ 10 12 = σ 10 7) : aX τ = numS a b (aX σ) := by
  rw [aX_ok h, h2, aX_pF (by decide) h3.1 h3.2]
  exact (num_out hv).symm
/-- the number looked at: the sort and the value stand -/
theorem numS_4 {a b : Int} {S : PTS} (h : (numS a b S) 4 = 0) : numS a b S = S ∧ S 4 = 0 ∧ S 2 = 2 := by
  have n1 := need_4 (c := 3) (by decide) h
  have n2 := need_4 (c := 2) (by decide) n1.1
  refine ⟨n1.2.trans n2.2, n2.1, ?_⟩
  by_cases h2 : S 2 = 2
  · exact h2
  · have e : need (decide (S 2 = 2)) 2 S = pF 2 (S 1) := by
      rw [decide_eq_false h2, need_f]
      exact if_neg (fun q => q n2.1)
    have n3 := n1.1
    rw [e, pF_4] at n3
    exact absurd n3 (by decide)
/-- what a number's reading answers is what stands written of it -/
theorem aX_numv {σ τ : tw_M} {a b r : Int} (h : aX τ = numS a b (aX σ)) (hk : τ 10 6 = σ 10 6) (hv : τ 10 8 = σ 10 8) (hr : ¬ τ 10 11 = 0 ∨ r = σ 10 8) : (aX τ) 4 = 0 → r = (aX τ) 3 := by
  intro h4
  have h0 : τ 10 11 = 0 := (aX_4 (σ := τ)).symm.trans h4
  rw [h] at h4
  obtain ⟨e, e4, e2⟩ := numS_4 h4
  have s0 : σ 10 11 = 0 := (aX_4 (σ := σ)).symm.trans e4
  rw [aX_2 s0] at e2
  rw [aX_3 h0 (by omega)]
  omega
-- lines, put together
theorem rackX_of {f : Int → Int} {S0 S1 S2 S3 S4 S5 S6 S7 : PTS} (c1 : S1 = numS 1 10 S0) (c2 : S2 = need (decide (S1 (ci 700 (S1 3)) = 0)) 4 S1) (c3 : S3 = wr (ci 700 (S1 3)) 1 S2) (c4 : S4 = tok f S3) (c5 : S5 = numS 0 5 S4) (c6 : S6 = wr (ci 200 (S1 3)) (S5 3) S5) (c7 : S7 = tok f S6) : S7 = rackX f S0 := by
  subst c1; subst c2; subst c3; subst c4; subst c5; subst c6; subst c7
  rfl
theorem rackX_no {f : Int → Int} {S0 S1 S2 : PTS} (c1 : S1 = numS 1 10 S0) (c2 : S2 = need (decide (S1 (ci 700 (S1 3)) = 0)) 4 S1) (h : S2 4 ≠ 0) : S2 = rackX f S0 := by
  unfold rackX
  simp only
  rw [← c1, ← c2, wr_pF h, tok_pF h, numS_pF h, wr_pF h, tok_pF h]
theorem ruleX_of {f : Int → Int} {k : Int} {S0 S1 S2 S3 S4 S5 S6 : PTS} (c1 : S1 = need (decide (tw_and (tw_shr (S0 6) k) 1 = 0)) 4 S0) (c2 : S2 = wr 6 (tw_or (S0 6) (tw_shl 1 k)) S1) (c3 : S3 = tok f S2) (c4 : S4 = numS (tw_least.getD k.toNat 0).toInt (tw_most.getD k.toNat 0).toInt S3) (c5 : S5 = wr (ci 100 k) (S4 3) S4) (c6 : S6 = tok f S5) (hk : ¬ k = 5) : S6 = ruleX f k S0 := by
  subst c1; subst c2; subst c3; subst c4; subst c5; subst c6
  unfold ruleX
  simp only
  rw [if_neg hk]
theorem ruleX_of5 {f : Int → Int} {k : Int} {S0 S1 S2 S3 S4 S5 S6 S7 S8 S9 : PTS} (c1 : S1 = need (decide (tw_and (tw_shr (S0 6) k) 1 = 0)) 4 S0) (c2 : S2 = wr 6 (tw_or (S0 6) (tw_shl 1 k)) S1) (c3 : S3 = tok f S2) (c4 : S4 = numS (tw_least.getD k.toNat 0).toInt (tw_most.getD k.toNat 0).toInt S3) (c5 : S5 = wr (ci 100 k) (S4 3) S4) (c6 : S6 = tok f S5) (hk : k = 5) (c7 : S7 = numS 0 20 S6) (c8 : S8 = wr 106 (S7 3) S7) (c9 : S9 = tok f S8) : S9 = ruleX f k S0 := by
  subst c1; subst c2; subst c3; subst c4; subst c5; subst c6; subst c7; subst c8; subst c9
  unfold ruleX
  simp only
  rw [if_pos hk]
theorem footX_of {f : Int → Int} {S0 S1 S2 S3 S4 S5 S6 S7 S8 : PTS} {h v : Int} (c1 : S1 = numS 1 40 S0) (c2 : S2 = need (decide (S1 (ci 600 (S1 3)) = 0)) 4 S1) (hh : S2 4 = 0 → h = S1 3) (c3 : S3 = wr (ci 600 h) 1 S2) (c4 : S4 = wr 7 v S3) (hv : S2 4 = 0 → v = if S2 7 < h then h else S2 7) (c5 : S5 = tok f S4) (c6 : S6 = numS 0 9 S5) (c7 : S7 = wr (ci 300 (5 * h)) (S6 3) S6) (c8 : S8 = (it wstopX (wstepX f h) wmes (tok f S7, 0)).1) (h2 : S2 4 = 0) : S8 = footX f S0 := by
  have e1 := hh h2
  have e2 := hv h2
  subst e2
  subst e1
  subst c1; subst c2; subst c3; subst c4; subst c5; subst c6; subst c7; subst c8
  rfl
theorem footX_no {f : Int → Int} {S0 S1 S2 : PTS} (c1 : S1 = numS 1 40 S0) (c2 : S2 = need (decide (S1 (ci 600 (S1 3)) = 0)) 4 S1) (h : S2 4 ≠ 0) : S2 = footX f S0 := by
  unfold footX
  simp only
  rw [← c1, ← c2, wr_pF h, wr_pF h, tok_pF h, numS_pF h, wr_pF h, tok_pF h]
  rw [it_n (by unfold wstopX; rw [decide_eq_true_eq]; exact Or.inl h)]
theorem ci_n {b : Nat} {v : Int} : ci b v = b + v.toNat := rfl
theorem drX_600 {σ : tw_M} {h : Int} (hh : 0 ≤ h ∧ h ≤ 40) : drX σ (ci 600 h) = σ 12 h.toNat := by
  unfold drX ci
  rw [if_neg (by omega), if_neg (by omega), if_neg (by omega), if_neg (by omega), if_neg (by omega), if_pos ⟨by omega, by omega⟩, show 600 + h.toNat - 600 = h.toNat by omega]
theorem drX_700 {σ : tw_M} {s : Int} (hs : 0 ≤ s ∧ s ≤ 10) : drX σ (ci 700 s) = σ 13 s.toNat := by
  unfold drX ci
  rw [if_neg (by omega), if_neg (by omega), if_neg (by omega), if_neg (by omega), if_neg (by omega), if_neg (by omega), if_pos ⟨by omega, by omega⟩, show 700 + s.toNat - 700 = s.toNat by omega]
theorem drX_6 {σ : tw_M} : drX σ 6 = σ 10 3 := rfl
theorem drX_7 {σ : tw_M} : drX σ 7 = σ 10 4 := rfl
theorem drX_100 {σ : tw_M} : drX σ 100 = σ 15 0 := rfl
theorem told_f {σ : tw_M} {s : Int} (h0 : σ 10 11 = 0) (v : (aX σ) 4 = 0 → s = (aX σ) 3) (hs : 0 ≤ s ∧ s ≤ 10) (h : ¬ σ 13 s.toNat = 0) : decide ((aX σ) (ci 700 ((aX σ) 3)) = 0) = false := by
  rw [← v (by rw [aX_4]; exact h0), aX_d h0 (ci_ge (by decide)), drX_700 hs]
  exact decide_eq_false h
theorem told_t {σ : tw_M} {s : Int} (h0 : σ 10 11 = 0) (v : (aX σ) 4 = 0 → s = (aX σ) 3) (hs : 0 ≤ s ∧ s ≤ 10) (h : σ 13 s.toNat = 0) : decide ((aX σ) (ci 700 ((aX σ) 3)) = 0) = true := by
  rw [← v (by rw [aX_4]; exact h0), aX_d h0 (ci_ge (by decide)), drX_700 hs]
  exact decide_eq_true h
theorem toldF_f {σ : tw_M} {s : Int} (h0 : σ 10 11 = 0) (v : (aX σ) 4 = 0 → s = (aX σ) 3) (hs : 0 ≤ s ∧ s ≤ 40) (h : ¬ σ 12 s.toNat = 0) : decide ((aX σ) (ci 600 ((aX σ) 3)) = 0) = false := by
  rw [← v (by rw [aX_4]; exact h0), aX_d h0 (ci_ge (by decide)), drX_600 hs]
  exact decide_eq_false h
theorem toldF_t {σ : tw_M} {s : Int} (h0 : σ 10 11 = 0) (v : (aX σ) 4 = 0 → s = (aX σ) 3) (hs : 0 ≤ s ∧ s ≤ 40) (h : σ 12 s.toNat = 0) : decide ((aX σ) (ci 600 ((aX σ) 3)) = 0) = true := by
  rw [← v (by rw [aX_4]; exact h0), aX_d h0 (ci_ge (by decide)), drX_600 hs]
  exact decide_eq_true h
/-- a write where the place is known by what was looked at -/
theorem wr_at {b : Nat} {s v : Int} {S T : PTS} (hv : T 4 = 0 → s = T 3) (hST : S 4 = 0 → T 4 = 0) : wr (b + s.toNat) v S = wr (ci b (T 3)) v S := by
  by_cases h4 : S 4 = 0
  · rw [← hv (hST h4)]
    rfl
  · rw [wr_pF h4, wr_pF h4]
theorem with_1 {f : Int → Int} {h w : Int} {S0 S1 S2 : PTS} (hw : w = 1) (c1 : S1 = tok f S0) (c2 : S2 = wr (ci 302 (5 * h)) 1 S1) : S2 = withX f h w S0 := by
  subst c1; subst c2
  unfold withX
  simp only
  rw [if_pos hw]
theorem with_2 {f : Int → Int} {h w : Int} {S0 S1 S2 : PTS} (hw : w = 2) (c1 : S1 = tok f S0) (c2 : S2 = wr (ci 303 (5 * h)) 1 S1) : S2 = withX f h w S0 := by
  subst c1; subst c2
  unfold withX
  simp only
  rw [if_neg (by omega), if_pos hw]
theorem with_0 {f : Int → Int} {h w : Int} {S0 S1 S2 S3 S4 : PTS} (hw : w = 0) (c1 : S1 = tok f S0) (c2 : S2 = numS 1 10 S1) (c3 : S3 = wr (ci 301 (5 * h)) (S2 3) S2) (c4 : S4 = tok f S3) : S4 = withX f h w S0 := by
  subst c1; subst c2; subst c3; subst c4
  unfold withX
  simp only
  rw [if_neg (by omega), if_neg (by omega), if_pos hw]
theorem with_3 {f : Int → Int} {h w : Int} {S0 S1 S2 S3 S4 : PTS} (hw : w = 3) (c1 : S1 = tok f S0) (c2 : S2 = numS 0 9 S1) (c3 : S3 = wr (ci 304 (5 * h)) (S2 3) S2) (c4 : S4 = tok f S3) : S4 = withX f h w S0 := by
  subst c1; subst c2; subst c3; subst c4
  unfold withX
  simp only
  rw [if_neg (by omega), if_neg (by omega), if_neg (by omega)]
theorem ci5 {b : Nat} {h : Int} (hh : 0 ≤ h) : b + 5 * h.toNat = ci b (5 * h) := by
  unfold ci
  omega
-- a step of the words of a foot
theorem wstep_no {f : Int → Int} {h t w : Int} {S : PTS} (hw : w = wnm f (S 2) (S 1) (S 0)) (h0 : w < 0) : wstepX f h (S, t) = (need false 2 S, t) := by
  unfold wstepX
  simp only
  rw [← hw, if_pos h0]
theorem wstep_told {f : Int → Int} {h t w : Int} {S : PTS} (hw : w = wnm f (S 2) (S 1) (S 0)) (h0 : ¬ w < 0) (hb : ¬ tw_and (tw_shr t w) 1 = 0) : wstepX f h (S, t) = (need false 4 S, tw_or t (tw_shl 1 w)) := by
  unfold wstepX
  simp only
  rw [← hw, if_neg h0, if_neg hb]
theorem wstep_yes {f : Int → Int} {h t w : Int} {S : PTS} (hw : w = wnm f (S 2) (S 1) (S 0)) (h0 : ¬ w < 0) (hb : tw_and (tw_shr t w) 1 = 0) : wstepX f h (S, t) = (withX f h w S, tw_or t (tw_shl 1 w)) := by
  unfold wstepX
  simp only
  rw [← hw, if_neg h0, if_pos hb]
-- a line, put together
theorem lineX_no {f : Int → Int} {S0 S1 S2 : PTS} (hk : lnm f (S0 2) (S0 1) (S0 0) < 0) (c1 : S1 = need false 2 S0) (c2 : S2 = tok f (need (decide (S1 2 = 3)) 2 S1)) : S2 = lineX f S0 := by
  subst c1; subst c2
  unfold lineX
  simp only
  rw [if_pos hk]
theorem lineX_at {f : Int → Int} {S0 S1 S2 S3 : PTS} (hk : lnm f (S0 2) (S0 1) (S0 0) = 9) (c0 : S1 = tok f S0) (c1 : S2 = footX f S1) (c2 : S3 = tok f (need (decide (S2 2 = 3)) 2 S2)) : S3 = lineX f S0 := by
  subst c0; subst c1; subst c2
  unfold lineX
  simp only
  rw [if_neg (by omega), if_pos hk]
theorem lineX_rack {f : Int → Int} {S0 S1 S2 S3 : PTS} (hk : lnm f (S0 2) (S0 1) (S0 0) = 10) (c0 : S1 = tok f S0) (c1 : S2 = rackX f S1) (c2 : S3 = tok f (need (decide (S2 2 = 3)) 2 S2)) : S3 = lineX f S0 := by
  subst c0; subst c1; subst c2
  unfold lineX
  simp only
  rw [if_neg (by omega), if_neg (by omega), if_pos hk]
theorem lineX_rule {f : Int → Int} {k : Int} {S0 S2 S3 : PTS} (hk : lnm f (S0 2) (S0 1) (S0 0) = k) (h : 0 ≤ k ∧ k ≤ 8) (c1 : S2 = ruleX f k S0) (c2 : S3 = tok f (need (decide (S2 2 = 3)) 2 S2)) : S3 = lineX f S0 := by
  subst c1; subst c2
  unfold lineX
  simp only
  rw [if_neg (by omega), if_neg (by omega), if_neg (by omega), hk]
/-- a line's name, where a fault may stand already -/
theorem lnm_0 {f : Int → Int} {s e : Int} : lnm f 0 s e = -1 := if_pos (by decide)
theorem adv_mon {σ τ : tw_M} (h : aX τ = tok (fX σ) (aX σ)) (hl : 0 ≤ σ 10 10 ∧ σ 10 10 ≤ 400) : ¬ τ 10 11 = 0 ∨ (σ 10 11 = 0 ∧ σ 10 5 ≤ τ 10 5 ∧ (τ 10 6 = 0 ∨ σ 10 5 < τ 10 5)) := by
  by_cases h1 : τ 10 11 = 0
  · right
    have e4 : (tok (fX σ) (aX σ)) 4 = 0 := by rw [← h, aX_4]; exact h1
    have s4 : (aX σ) 4 = 0 := by
      by_cases z : (aX σ) 4 = 0
      · exact z
      · rw [tok_pF z] at e4; exact e4
    have s0 : σ 10 11 = 0 := (aX_4 (σ := σ)).symm.trans s4
    have a1 := tok_le e4
    rw [← h, aX_0 h1, aX_0 s0] at a1
    refine ⟨s0, a1, ?_⟩
    by_cases h2 : τ 10 6 = 0
    · exact Or.inl h2
    · have a2 := tok_go (fX_FB hl) e4 (by rw [← h, aX_2 h1]; exact h2)
      rw [← h, aX_0 h1, aX_0 s0] at a2
      exact Or.inr a2.1
  · exact Or.inl h1
theorem stop_t {σ : tw_M} (h : σ 10 6 = 3) : aX σ = need (decide ((aX σ) 2 = 3)) 2 (aX σ) := aX_needt (fun h0 => by rw [aX_2 h0]; exact decide_eq_true h)
theorem stop_f {σ τ : tw_M} (h : ¬ σ 10 6 = 3) (hf : (σ 10 11 = 0 ∧ τ 10 11 = 2 ∧ τ 10 12 = σ 10 7) ∨ (¬ σ 10 11 = 0 ∧ τ 10 11 = σ 10 11 ∧ τ 10 12 = σ 10 12)) : aX τ = need (decide ((aX σ) 2 = 3)) 2 (aX σ) := aX_need (by decide) (fun h0 => by rw [aX_2 h0]; exact decide_eq_false h) hf
theorem wstopX_f {τ : tw_M} {t : Int} (h0 : τ 10 11 = 0) (h : ¬ τ 10 6 = 3) : wstopX (aX τ, t) = false := by
  unfold wstopX
  rw [decide_eq_false_iff_not]
  show ¬ (¬ (aX τ) 4 = 0 ∨ (aX τ) 2 = 3)
  rw [aX_4, aX_2 h0]
  omega
theorem wstopX_t {τ : tw_M} {t : Int} (h : ¬ τ 10 11 = 0 ∨ τ 10 6 = 3) : wstopX (aX τ, t) = true := by
  unfold wstopX
  rw [decide_eq_true_eq]
  show ¬ (aX τ) 4 = 0 ∨ (aX τ) 2 = 3
  rw [aX_4]
  by_cases h0 : τ 10 11 = 0
  · rw [aX_2 h0]; omega
  · exact Or.inl h0
theorem wnm_aX {f : Int → Int} {τ : tw_M} {w : Int} (h0 : τ 10 11 = 0) (h : w = wnm f (τ 10 6) (τ 10 7) (τ 10 5)) : w = wnm f ((aX τ) 2) ((aX τ) 1) ((aX τ) 0) := by
  rw [aX_2 h0, aX_1 h0, aX_0 h0]
  exact h
theorem bit_f {σ : tw_M} {z n : Int} (h0 : σ 10 11 = 0) (b : z = tw_and (tw_shr (σ 10 3) n) 1) (h : ¬ z = 0) : decide (tw_and (tw_shr ((aX σ) 6) n) 1 = 0) = false := by
  rw [aX_d h0 (by decide), drX_6, ← b]
  exact decide_eq_false h
theorem bit_t {σ : tw_M} {z n : Int} (h0 : σ 10 11 = 0) (b : z = tw_and (tw_shr (σ 10 3) n) 1) (h : z = 0) : decide (tw_and (tw_shr ((aX σ) 6) n) 1 = 0) = true := by
  rw [aX_d h0 (by decide), drX_6, ← b]
  exact decide_eq_true h
theorem bit_w {σ : tw_M} {z n : Int} (h0 : σ 10 11 = 0) (b : z = tw_or (σ 10 3) (tw_shl 1 n)) : z = tw_or ((aX σ) 6) (tw_shl 1 n) := by
  rw [aX_d h0 (by decide), drX_6]
  exact b
/-! THE TEXT. -/
def D0 : PTS := fun n =>
  if 100 ≤ n ∧ n < 109 then (tw_first.getD (n - 100) 0).toInt
  else if 300 ≤ n ∧ n < 505 then (if (n - 300) % 5 = 0 then 1 else if (n - 300) % 5 = 4 then 5 else 0) else 0
def lstop (x : PTS × Int) : Bool := decide (¬ x.1 4 = 0 ∨ x.1 2 = 0)
def lstep (f : Int → Int) (x : PTS × Int) : PTS × Int := (lineX f x.1, x.2 + 1)
def lns (f : Int → Int) : PTS × Int := itK lstop (lstep f) 500 (tok f (ok 0 0 0 0 D0), 0)
def parse (f : Int → Int) : PTS × Int := (need (decide ((lns f).1 7 ≤ (lns f).1 100)) 5 (lns f).1, (lns f).2)
def txt (y : PTS × Int) : Int := if y.1 4 = 0 then y.2 else -10 - y.1 5
theorem itK_n {α : Type} {stop : α → Bool} {step : α → α} {k : Nat} {x : α} (h : stop x = true) : itK stop step k x = x := by
  cases k with
  | zero => rfl
  | succ k => simp [itK, h]
theorem itK_s {α : Type} {stop : α → Bool} {step : α → α} {k : Nat} {x : α} (h : stop x = false) : itK stop step (k + 1) x = itK stop step k (step x) := by
  simp [itK, h]
theorem tok_g {f : Int → Int} {p s k v s' k' v' : Int} {D : PTS} : tok f (ok p s k v D) = tok f (ok p s' k' v' D) := by
  unfold tok
  simp only [ok_4, ok_0, ok_ok, ne_eq, eq_self, not_true_eq_false, ↓reduceIte]
theorem lstop_t {τ : tw_M} {n : Int} (h : ¬ τ 10 11 = 0 ∨ τ 10 6 = 0) : lstop (aX τ, n) = true := by
  unfold lstop
  rw [decide_eq_true_eq]
  show ¬ (aX τ) 4 = 0 ∨ (aX τ) 2 = 0
  rw [aX_4]
  by_cases h0 : τ 10 11 = 0
  · rw [aX_2 h0]; omega
  · exact Or.inl h0
theorem lstop_f {τ : tw_M} {n : Int} (h0 : τ 10 11 = 0) (h : ¬ τ 10 6 = 0) : lstop (aX τ, n) = false := by
  unfold lstop
  rw [decide_eq_false_iff_not]
  show ¬ (¬ (aX τ) 4 = 0 ∨ (aX τ) 2 = 0)
  rw [aX_4, aX_2 h0]
  omega
/-- no line yet -/
theorem lns_0 {f : Int → Int} {S : PTS} {s k v n : Int} (cb : S = tok f (ok 0 s k v D0)) (hn : n = 0) : itK lstop (lstep f) (500 - (0 : Int)).toNat (S, n) = lns f := by
  rw [cb, hn, show (500 - (0 : Int)).toNat = 500 from by decide, tok_g (s' := 0) (k' := 0) (v' := 0)]
  unfold lns
  rfl
/-- one line more -/
theorem lns_s {f : Int → Int} {σ τ : tw_M} {i n m : Int} {Z : PTS × Int} (h : itK lstop (lstep f) (500 - i).toNat (aX σ, n) = Z) (hi : 0 ≤ i ∧ i < 450) (h0 : σ 10 11 = 0) (hk : ¬ σ 10 6 = 0) (c : aX τ = lineX f (aX σ)) (hm : m = n + 1) : itK lstop (lstep f) (500 - (i + 1)).toNat (aX τ, m) = Z := by
  rw [← h, show (500 - i).toNat = (500 - (i + 1)).toNat + 1 by omega, itK_s (lstop_f h0 hk), c, hm]
  rfl
theorem parse_t {f : Int → Int} {σ : tw_M} {n k : Int} (h : itK lstop (lstep f) k.toNat (aX σ, n) = lns f) (hs : ¬ σ 10 11 = 0 ∨ (σ 10 6 = 0 ∧ σ 10 4 ≤ σ 15 0)) : (aX σ, n) = parse f := by
  have e : lns f = (aX σ, n) := by rw [← h]; exact itK_n (lstop_t (by omega))
  unfold parse
  rw [e]
  show (aX σ, n) = (need (decide ((aX σ) 7 ≤ (aX σ) 100)) 5 (aX σ), n)
  by_cases h0 : σ 10 11 = 0
  · rw [aX_d h0 (n := 7) (by decide), aX_d h0 (n := 100) (by decide), drX_7, drX_100, decide_eq_true (by omega), need_t]
  · rw [need_pF (by rw [aX_4]; exact h0)]
theorem parse_f {f : Int → Int} {σ τ : tw_M} {n k : Int} (h : itK lstop (lstep f) k.toNat (aX σ, n) = lns f) (h0 : σ 10 11 = 0) (hk : σ 10 6 = 0) (hs : ¬ σ 10 4 ≤ σ 15 0) (hf : τ 10 11 = 5 ∧ τ 10 12 = σ 10 7) : (aX τ, n) = parse f := by
  have e : lns f = (aX σ, n) := by rw [← h]; exact itK_n (lstop_t (by omega))
  unfold parse
  rw [e]
  show (aX τ, n) = (need (decide ((aX σ) 7 ≤ (aX σ) 100)) 5 (aX σ), n)
  rw [aX_d h0 (n := 7) (by decide), aX_d h0 (n := 100) (by decide), drX_7, drX_100, decide_eq_false (by omega), need_f, fl, aX_4, if_neg (fun q => q h0), aX_1 h0, aX_pF (by decide) hf.1 hf.2]
theorem drX_D0 {σ : tw_M} (h3 : σ 10 3 = 0) (h4 : σ 10 4 = 0) (h15 : Cn 15 (fun j => (tw_first.getD j 0).toInt) σ 9) (h16 : Cn 16 (fun _ => 0) σ 11) (h17 : Cn 17 (fun _ => 1) σ 41) (h18 : Cn 18 (fun _ => 0) σ 41) (h19 : Cn 19 (fun _ => 0) σ 41) (h20 : Cn 20 (fun _ => 0) σ 41) (h21 : Cn 21 (fun _ => 5) σ 41) (h12 : Cn 12 (fun _ => 0) σ 41) (h13 : Cn 13 (fun _ => 0) σ 11) : drX σ = D0 := by
  funext n
  unfold drX D0
  by_cases a6 : n = 6
  · subst a6; rw [if_pos rfl, h3, if_neg (by omega), if_neg (by omega)]
  · rw [if_neg a6]
    by_cases a7 : n = 7
    · subst a7; rw [if_pos rfl, h4, if_neg (by omega), if_neg (by omega)]
    · rw [if_neg a7]
      by_cases a1 : 100 ≤ n ∧ n < 109
      · rw [if_pos a1, if_pos a1]; exact h15 _ (by omega)
      · rw [if_neg a1, if_neg a1]
        by_cases a2 : 200 ≤ n ∧ n < 211
        · rw [if_pos a2, if_neg (by omega)]; exact h16 _ (by omega)
        · rw [if_neg a2]
          by_cases a3 : 300 ≤ n ∧ n < 505
          · rw [if_pos a3, if_pos a3]
            by_cases b0 : (n - 300) % 5 = 0
            · rw [if_pos b0, if_pos b0]; exact h17 _ (by omega)
            · rw [if_neg b0, if_neg b0]
              by_cases b1 : (n - 300) % 5 = 1
              · rw [if_pos b1, if_neg (by omega)]; exact h18 _ (by omega)
              · rw [if_neg b1]
                by_cases b2 : (n - 300) % 5 = 2
                · rw [if_pos b2, if_neg (by omega)]; exact h19 _ (by omega)
                · rw [if_neg b2]
                  by_cases b3 : (n - 300) % 5 = 3
                  · rw [if_pos b3, if_neg (by omega)]; exact h20 _ (by omega)
                  · rw [if_neg b3, if_pos (by omega)]; exact h21 _ (by omega)
          · rw [if_neg a3, if_neg a3]
            by_cases a4 : 600 ≤ n ∧ n < 641
            · rw [if_pos a4]; exact h12 _ (by omega)
            · rw [if_neg a4]
              by_cases a5 : 700 ≤ n ∧ n < 711
              · rw [if_pos a5]; exact h13 _ (by omega)
              · rw [if_neg a5]
/-- the number of lines isn't in the state -/
theorem aX_13 {σ τ : tw_M} {v : Int} (e : τ = tw_up σ 10 13 v) : aX τ = aX σ := by
  have h1 : ∀ b, b ≠ 13 → τ 10 b = σ 10 b := fun b hb => tw_ne1 e (Or.inr hb)
  unfold aX
  rw [h1 11 (by decide), h1 5 (by decide), h1 7 (by decide), h1 6 (by decide), h1 8 (by decide), h1 12 (by decide), drX_F (h1 3 (by decide)) (h1 4 (by decide)) (fun c j h => tw_ne1 e (Or.inl (by omega)))]
theorem txt_t {s : tw_M} {n : Int} (h : s 10 11 = 0) : txt (aX s, n) = n := by
  unfold txt
  exact if_pos (by show (aX s) 4 = 0; rw [aX_4]; exact h)
theorem txt_f {s : tw_M} {n : Int} (h : ¬ s 10 11 = 0) : txt (aX s, n) = -10 - s 10 12 := by
  unfold txt
  rw [if_neg (show ¬ (aX s) 4 = 0 by rw [aX_4]; exact h)]
  show -10 - (aX s) 5 = _
  rw [aX_pF h rfl rfl]
  rfl
