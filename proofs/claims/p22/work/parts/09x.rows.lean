/-! A PIECE IS PUT INTO A ROW, OR TAKEN OUT. -/
theorem pg_eq {D : PTG} {i : Nat} {v : Int} : pg D i v i = v := if_pos rfl
theorem pg_ne {D : PTG} {i n : Nat} {v : Int} (h : n ≠ i) : pg D i v n = D n := if_neg h
/-- in the midst of putting one in: those above have moved up -/
def InI (o : Nat) (h k : Int) (σ τ : tw_M) : Prop := τ o 0 = σ o 0 ∧ k ≤ σ o 0 ∧
  (∀ c : Nat, c = o + 1 ∨ c = o + 2 ∨ c = o + 3 → (∀ j : Nat, (j : Int) < k → τ c j = σ c j) ∧ (∀ j : Nat, k ≤ (j : Int) → (j : Int) < σ o 0 → τ c (j + 1) = σ c j)) ∧
  (∀ j : Nat, k ≤ (j : Int) → (j : Int) < σ o 0 → h < σ (o + 1) j)
theorem InI_0 {σ : tw_M} {o : Nat} {h : Int} : InI o h (σ o 0) σ σ :=
  ⟨rfl, Int.le_refl _, fun c hc => ⟨fun j hj => rfl, fun j h1 h2 => by exfalso; omega⟩, fun j h1 h2 => by exfalso; omega⟩
theorem InI_s {σ τ τ1 τ2 τ3 : tw_M} {o : Nat} {h k a b c : Int} (H : InI o h k σ τ) (hk : 0 < k) (hl : h < τ (o + 1) (k - 1).toNat) (e1 : τ1 = tw_up τ (o + 1) k.toNat a) (e2 : τ2 = tw_up τ1 (o + 2) k.toNat b) (e3 : τ3 = tw_up τ2 (o + 3) k.toNat c)
    (ha : a = τ (o + 1) (k - 1).toNat) (hb : b = τ (o + 2) (k - 1).toNat) (hc : c = τ (o + 3) (k - 1).toNat) : InI o h (k - 1) σ τ3 := by
  obtain ⟨h0, hn, hA, hh⟩ := H
  have x1 : ∀ j : Nat, τ3 (o + 1) j = τ1 (o + 1) j := fun j => (tw_ne1 e3 (by omega)).trans (tw_ne1 e2 (by omega))
  have x2 : ∀ j : Nat, τ3 (o + 2) j = τ2 (o + 2) j := fun j => tw_ne1 e3 (by omega)
  have y2 : ∀ j : Nat, τ2 (o + 2) j = (if j = k.toNat then b else τ (o + 2) j) := fun j => by
    by_cases q : j = k.toNat
    · rw [if_pos q, tw_eq2 e2 q]
    · rw [if_neg q, tw_ne1 e2 (Or.inr q)]; exact tw_ne1 e1 (by omega)
  have y1 : ∀ j : Nat, τ1 (o + 1) j = (if j = k.toNat then a else τ (o + 1) j) := fun j => by
    by_cases q : j = k.toNat
    · rw [if_pos q, tw_eq2 e1 q]
    · rw [if_neg q]; exact tw_ne1 e1 (Or.inr q)
  have y3 : ∀ j : Nat, τ3 (o + 3) j = (if j = k.toNat then c else τ (o + 3) j) := fun j => by
    by_cases q : j = k.toNat
    · rw [if_pos q, tw_eq2 e3 q]
    · rw [if_neg q, tw_ne1 e3 (Or.inr q)]; exact (tw_ne1 e2 (by omega)).trans (tw_ne1 e1 (by omega))
  have key : ∀ d : Nat, d = o + 1 ∨ d = o + 2 ∨ d = o + 3 → ∀ j : Nat, τ3 d j = (if j = k.toNat then τ d (k - 1).toNat else τ d j) := by
    intro d hd j
    rcases hd with rfl | rfl | rfl
    · rw [x1, y1, ha]
    · rw [x2, y2, hb]
    · rw [y3, hc]
  refine ⟨by rw [tw_ne1 e3 (by omega), tw_ne1 e2 (by omega), tw_ne1 e1 (by omega)]; exact h0, by omega, fun d hd => ⟨fun j hj => ?_, fun j h1 h2 => ?_⟩, fun j h1 h2 => ?_⟩
  · rw [key d hd, if_neg (by omega)]
    exact (hA d hd).1 j (by omega)
  · rw [key d hd]
    by_cases q : j + 1 = k.toNat
    · rw [if_pos q, show (k - 1).toNat = j by omega]
      exact (hA d hd).1 j (by omega)
    · rw [if_neg q]
      exact (hA d hd).2 j (by omega) h2
  · by_cases q : k ≤ (j : Int)
    · exact hh j q h2
    · have e := (hA (o + 1) (by omega)).1 (k - 1).toNat (by omega)
      rw [show j = (k - 1).toNat by omega]
      omega
theorem InI_F {σ τ τ' : tw_M} {o : Nat} {h k : Int} (H : InI o h k σ τ) (e : ∀ c j, o ≤ c → c < o + 4 → τ' c j = τ c j) : InI o h k σ τ' := by
  obtain ⟨h0, hn, hA, hh⟩ := H
  exact ⟨(e o 0 (by omega) (by omega)).trans h0, hn, fun d hd => ⟨fun j hj => (e d j (by omega) (by omega)).trans ((hA d hd).1 j hj), fun j h1 h2 => (e d _ (by omega) (by omega)).trans ((hA d hd).2 j h1 h2)⟩, hh⟩
/-- the row, one put in -/
theorem RG_ins {σ τ τ1 τ2 τ3 τ4 : tw_M} {o : Nat} {g q : Nat → Int} {h k s n : Int} (H : RG o g q σ) (hg : g h.toNat = 0) (hh : 1 ≤ h ∧ h ≤ 40) (hs : 1 ≤ s) (h10 : σ o 0 < 10) (I : InI o h k σ τ) (hk : 0 ≤ k) (hl : k = 0 ∨ τ (o + 1) (k - 1).toNat ≤ h)
    (e1 : τ1 = tw_up τ (o + 1) k.toNat h) (e2 : τ2 = tw_up τ1 (o + 2) k.toNat s) (e3 : τ3 = tw_up τ2 (o + 3) k.toNat 0) (e4 : τ4 = tw_up τ3 o 0 n) (hn : n = σ o 0 + 1) : RG o (pg g h.toNat s) (pg q h.toNat 0) τ4 ∧ k = cnt g h.toNat := by
  obtain ⟨i0, iN, iA, ih⟩ := I
  obtain ⟨w, hw⟩ : ∃ w : Nat → Int, w = fun c => if c = o + 1 then h else if c = o + 2 then s else 0 := ⟨_, rfl⟩
  have w1 : w (o + 1) = h := by rw [hw]; exact if_pos rfl
  have w2 : w (o + 2) = s := by rw [hw]; show (if o + 2 = o + 1 then h else if o + 2 = o + 2 then s else 0) = s; rw [if_neg (by omega), if_pos rfl]
  have w3 : w (o + 3) = 0 := by rw [hw]; show (if o + 3 = o + 1 then h else if o + 3 = o + 2 then s else 0) = 0; rw [if_neg (by omega), if_neg (by omega)]
  have t0 : τ4 o 0 = σ o 0 + 1 := (tw_eq1 e4).trans hn
  have key : ∀ d : Nat, d = o + 1 ∨ d = o + 2 ∨ d = o + 3 → ∀ j : Nat, τ4 d j = (if j = k.toNat then w d else τ d j) := by
    intro d hd j
    have z4 : τ4 d j = τ3 d j := tw_ne1 e4 (by omega)
    rw [z4]
    rcases hd with rfl | rfl | rfl
    · rw [tw_ne1 e3 (by omega), tw_ne1 e2 (by omega), w1]
      by_cases z : j = k.toNat
      · rw [if_pos z, tw_eq2 e1 z]
      · rw [if_neg z, tw_ne1 e1 (Or.inr z)]
    · rw [tw_ne1 e3 (by omega), w2]
      by_cases z : j = k.toNat
      · rw [if_pos z, tw_eq2 e2 z]
      · rw [if_neg z, tw_ne1 e2 (Or.inr z), tw_ne1 e1 (by omega)]
    · rw [w3]
      by_cases z : j = k.toNat
      · rw [if_pos z, tw_eq2 e3 z]
      · rw [if_neg z, tw_ne1 e3 (Or.inr z), tw_ne1 e2 (by omega), tw_ne1 e1 (by omega)]
  have lo : ∀ d : Nat, d = o + 1 ∨ d = o + 2 ∨ d = o + 3 → ∀ j : Nat, (j : Int) < k → τ4 d j = σ d j := fun d hd j hj => by
    rw [key d hd, if_neg (by omega)]; exact (iA d hd).1 j hj
  have mi : ∀ d : Nat, d = o + 1 ∨ d = o + 2 ∨ d = o + 3 → τ4 d k.toNat = w d := fun d hd => by rw [key d hd, if_pos rfl]
  have hi : ∀ d : Nat, d = o + 1 ∨ d = o + 2 ∨ d = o + 3 → ∀ j : Nat, k ≤ (j : Int) → (j : Int) < σ o 0 → τ4 d (j + 1) = σ d j := fun d hd j h1 h2 => by
    rw [key d hd, if_neg (by omega)]; exact (iA d hd).2 j h1 h2
  have low : ∀ j : Nat, (j : Int) < k → σ (o + 1) j < h := by
    intro j hj
    have a1 : σ (o + 1) j ≤ σ (o + 1) (k - 1).toNat := RG_mono H (by omega) (by omega)
    have a2 := (iA (o + 1) (by omega)).1 (k - 1).toNat (by omega)
    have a3 : σ (o + 1) j ≤ h := by omega
    rcases (show σ (o + 1) j < h ∨ h ≤ σ (o + 1) j by omega) with u | u
    · exact u
    · obtain ⟨b1, b2, b3, b4, b5⟩ := H.2.1 j (by omega)
      rw [show (σ (o + 1) j).toNat = h.toNat by omega] at b4
      omega
  have n1 : ∀ j : Nat, (j : Int) < σ o 0 + 1 → ((j : Int) < k ∧ (∀ d : Nat, d = o + 1 ∨ d = o + 2 ∨ d = o + 3 → τ4 d j = σ d j)) ∨ ((j : Int) = k ∧ (∀ d : Nat, d = o + 1 ∨ d = o + 2 ∨ d = o + 3 → τ4 d j = w d)) ∨ (k < (j : Int) ∧ (∀ d : Nat, d = o + 1 ∨ d = o + 2 ∨ d = o + 3 → τ4 d j = σ d (j - 1)) ∧ h < σ (o + 1) (j - 1)) := by
    intro j hj
    rcases (show (j : Int) < k ∨ (j : Int) = k ∨ k < (j : Int) by omega) with u | u | u
    · exact Or.inl ⟨u, fun d hd => lo d hd j u⟩
    · exact Or.inr (Or.inl ⟨u, fun d hd => by rw [show j = k.toNat by omega]; exact mi d hd⟩)
    · refine Or.inr (Or.inr ⟨u, fun d hd => ?_, ih (j - 1) (by omega) (by omega)⟩)
      have := hi d hd (j - 1) (by omega) (by omega)
      rw [show j - 1 + 1 = j by omega] at this
      exact this
  have pne : ∀ (D : PTG) (v x : Int), 1 ≤ x → x ≠ h → pg D h.toNat v x.toNat = D x.toNat := fun D v x h1 h2 => pg_ne (by omega)
  refine ⟨⟨by omega, fun j hj => ?_, fun i j hij hj => ?_, fun f => ?_⟩, ?_⟩
  · rw [t0] at hj
    rcases n1 j hj with ⟨u, E⟩ | ⟨u, E⟩ | ⟨u, E, v⟩
    · obtain ⟨b1, b2, b3, b4, b5⟩ := H.2.1 j (by omega)
      have l1 := low j u
      rw [E (o + 1) (by omega), E (o + 2) (by omega), E (o + 3) (by omega), pne g s _ b1 (by omega), pne q 0 _ b1 (by omega)]
      exact ⟨b1, b2, b3, b4, b5⟩
    · rw [E (o + 1) (by omega), E (o + 2) (by omega), E (o + 3) (by omega), w1, w2, w3, pg_eq, pg_eq]
      exact ⟨hh.1, hh.2, hs, rfl, rfl⟩
    · obtain ⟨b1, b2, b3, b4, b5⟩ := H.2.1 (j - 1) (by omega)
      rw [E (o + 1) (by omega), E (o + 2) (by omega), E (o + 3) (by omega), pne g s _ b1 (by omega), pne q 0 _ b1 (by omega)]
      exact ⟨b1, b2, b3, b4, b5⟩
  · rw [t0] at hj
    rcases n1 i (by omega) with ⟨u, E⟩ | ⟨u, E⟩ | ⟨u, E, v⟩ <;> rcases n1 j hj with ⟨u', E'⟩ | ⟨u', E'⟩ | ⟨u', E', v'⟩
    · rw [E (o + 1) (by omega), E' (o + 1) (by omega)]; exact H.2.2.1 i j hij (by omega)
    · rw [E (o + 1) (by omega), E' (o + 1) (by omega), w1]; exact low i u
    · rw [E (o + 1) (by omega), E' (o + 1) (by omega)]; have := low i u; omega
    · omega
    · omega
    · rw [E (o + 1) (by omega), E' (o + 1) (by omega), w1]; exact v'
    · omega
    · omega
    · rw [E (o + 1) (by omega), E' (o + 1) (by omega)]; exact H.2.2.1 (i - 1) (j - 1) (by omega) (by omega)
  · by_cases z : f = h.toNat
    · rw [z, pg_eq]
      exact Or.inr ⟨by omega, k.toNat, by omega, by rw [mi (o + 1) (by omega), w1]; omega⟩
    · rw [pg_ne z]
      rcases H.2.2.2 f with d | ⟨d1, i, d2, d3⟩
      · exact Or.inl d
      · refine Or.inr ⟨d1, ?_⟩
        by_cases u : (i : Int) < k
        · exact ⟨i, by omega, by rw [lo (o + 1) (by omega) i u]; exact d3⟩
        · exact ⟨i + 1, by omega, by rw [hi (o + 1) (by omega) i (by omega) d2]; exact d3⟩
  · have up : cnt g h.toNat ≤ k := by
      by_cases z : k < σ o 0
      · have l := (not_congr (RG_le H (i := k.toNat) (h := h.toNat) (by omega))).mp (by have := ih k.toNat (by omega) (by omega); omega)
        omega
      · have := RG_n H h.toNat; omega
    have dn : k ≤ cnt g h.toNat := by
      by_cases z : k = 0
      · have := (cnt_in g h.toNat).1; omega
      · have l := (RG_le H (i := (k - 1).toNat) (h := h.toNat) (by omega)).mp (by have := low (k - 1).toNat (by omega); omega)
        omega
    omega
/-- in the midst of taking one out: those above have moved down -/
def RmI (o : Nat) (q i : Int) (σ τ : tw_M) : Prop := τ o 0 = σ o 0 - 1 ∧ q ≤ i ∧
  (∀ c : Nat, c = o + 1 ∨ c = o + 2 ∨ c = o + 3 → (∀ j : Nat, (j : Int) < q → τ c j = σ c j) ∧ (∀ j : Nat, q ≤ (j : Int) → (j : Int) < i → τ c j = σ c (j + 1)) ∧ (∀ j : Nat, i ≤ (j : Int) → τ c j = σ c j))
theorem RmI_0 {σ τ : tw_M} {o : Nat} {q n : Int} (e : τ = tw_up σ o 0 n) (hn : n = σ o 0 - 1) : RmI o q q σ τ :=
  ⟨(tw_eq1 e).trans hn, Int.le_refl _, fun c hc => ⟨fun j hj => tw_ne1 e (by omega), fun j h1 h2 => by exfalso; omega, fun j hj => tw_ne1 e (by omega)⟩⟩
theorem RmI_s {σ τ τ1 τ2 τ3 : tw_M} {o : Nat} {q i a b c : Int} (H : RmI o q i σ τ) (hq : 0 ≤ i) (e1 : τ1 = tw_up τ (o + 1) i.toNat a) (e2 : τ2 = tw_up τ1 (o + 2) i.toNat b) (e3 : τ3 = tw_up τ2 (o + 3) i.toNat c)
    (ha : a = τ (o + 1) (i + 1).toNat) (hb : b = τ (o + 2) (i + 1).toNat) (hc : c = τ (o + 3) (i + 1).toNat) : RmI o q (i + 1) σ τ3 := by
  obtain ⟨h0, hn, hA⟩ := H
  have key : ∀ d : Nat, d = o + 1 ∨ d = o + 2 ∨ d = o + 3 → ∀ j : Nat, τ3 d j = (if j = i.toNat then τ d (i + 1).toNat else τ d j) := by
    intro d hd j
    rcases hd with rfl | rfl | rfl
    · rw [tw_ne1 e3 (by omega), tw_ne1 e2 (by omega)]
      by_cases z : j = i.toNat
      · rw [if_pos z, tw_eq2 e1 z, ha]
      · rw [if_neg z, tw_ne1 e1 (Or.inr z)]
    · rw [tw_ne1 e3 (by omega)]
      by_cases z : j = i.toNat
      · rw [if_pos z, tw_eq2 e2 z, hb]
      · rw [if_neg z, tw_ne1 e2 (Or.inr z), tw_ne1 e1 (by omega)]
    · by_cases z : j = i.toNat
      · rw [if_pos z, tw_eq2 e3 z, hc]
      · rw [if_neg z, tw_ne1 e3 (Or.inr z), tw_ne1 e2 (by omega), tw_ne1 e1 (by omega)]
  refine ⟨by rw [tw_ne1 e3 (by omega), tw_ne1 e2 (by omega), tw_ne1 e1 (by omega)]; exact h0, by omega, fun d hd => ⟨fun j hj => ?_, fun j h1 h2 => ?_, fun j hj => ?_⟩⟩
  · rw [key d hd, if_neg (by omega)]; exact (hA d hd).1 j hj
  · rw [key d hd]
    by_cases z : j = i.toNat
    · rw [if_pos z, show (i + 1).toNat = j + 1 by omega]
      exact (hA d hd).2.2 (j + 1) (by omega)
    · rw [if_neg z]
      exact (hA d hd).2.1 j h1 (by omega)
  · rw [key d hd, if_neg (by omega)]
    exact (hA d hd).2.2 j (by omega)
theorem RmI_F {σ τ τ' : tw_M} {o : Nat} {q i : Int} (H : RmI o q i σ τ) (e : ∀ c j, o ≤ c → c < o + 4 → τ' c j = τ c j) : RmI o q i σ τ' := by
  obtain ⟨h0, hn, hA⟩ := H
  exact ⟨(e o 0 (by omega) (by omega)).trans h0, hn, fun d hd => ⟨fun j hj => (e d j (by omega) (by omega)).trans ((hA d hd).1 j hj), fun j h1 h2 => (e d _ (by omega) (by omega)).trans ((hA d hd).2.1 j h1 h2), fun j h1 => (e d _ (by omega) (by omega)).trans ((hA d hd).2.2 j h1)⟩⟩
/-- the row, one taken out -/
theorem RG_rem {σ τ : tw_M} {o : Nat} {g q : Nat → Int} {k i : Int} (H : RG o g q σ) (hk : 0 ≤ k ∧ k < σ o 0) (I : RmI o k i σ τ) (hi : σ o 0 - 1 ≤ i) : RG o (pg g (σ (o + 1) k.toNat).toNat 0) q τ := by
  obtain ⟨i0, iN, iA⟩ := I
  have hn := H.1
  have n1 : ∀ j : Nat, (j : Int) < σ o 0 - 1 → ∃ j' : Nat, (j' : Int) < σ o 0 ∧ ¬ j' = k.toNat ∧ ((j' = j ∧ (j : Int) < k) ∨ (j' = j + 1 ∧ k ≤ (j : Int))) ∧ (∀ d : Nat, d = o + 1 ∨ d = o + 2 ∨ d = o + 3 → τ d j = σ d j') := by
    intro j hj
    by_cases z : (j : Int) < k
    · exact ⟨j, by omega, by omega, Or.inl ⟨rfl, z⟩, fun d hd => (iA d hd).1 j z⟩
    · exact ⟨j + 1, by omega, by omega, Or.inr ⟨rfl, by omega⟩, fun d hd => (iA d hd).2.1 j (by omega) (by omega)⟩
  obtain ⟨k1, k2, k3, k4, k5⟩ := H.2.1 k.toNat (by omega)
  have ne : ∀ j : Nat, (j : Int) < σ o 0 → ¬ j = k.toNat → (σ (o + 1) j).toNat ≠ (σ (o + 1) k.toNat).toNat := by
    intro j hj hjk e
    obtain ⟨b1, b2, b3, b4, b5⟩ := H.2.1 j hj
    have u1 := RG_inj H (i := j) (j := k.toNat) hj (by omega) (by omega)
    have u2 := RG_inj H (i := k.toNat) (j := j) (by omega) hj (by omega)
    omega
  refine ⟨by omega, fun j hj => ?_, fun a b hab hb => ?_, fun f => ?_⟩
  · rw [i0] at hj
    obtain ⟨j', j1, j2, j3, E⟩ := n1 j hj
    rw [E (o + 1) (by omega), E (o + 2) (by omega), E (o + 3) (by omega), pg_ne (ne j' j1 j2)]
    exact H.2.1 j' j1
  · rw [i0] at hb
    obtain ⟨a', a1, a2, a3, E⟩ := n1 a (by omega)
    obtain ⟨b', b1, b2, b3, E'⟩ := n1 b hb
    rw [E (o + 1) (by omega), E' (o + 1) (by omega)]
    exact H.2.2.1 a' b' (by omega) b1
  · by_cases z : f = (σ (o + 1) k.toNat).toNat
    · rw [z, pg_eq]; exact Or.inl rfl
    · rw [pg_ne z]
      rcases H.2.2.2 f with d | ⟨d1, j, d2, d3⟩
      · exact Or.inl d
      · have jk : ¬ j = k.toNat := fun e => z (by rw [← e]; omega)
        refine Or.inr ⟨d1, ?_⟩
        by_cases u : (j : Int) < k
        · exact ⟨j, by omega, by rw [(iA (o + 1) (by omega)).1 j u]; exact d3⟩
        · refine ⟨j - 1, by omega, ?_⟩
          have := (iA (o + 1) (by omega)).2.1 (j - 1) (by omega) (by omega)
          rw [this, show j - 1 + 1 = j by omega]
          exact d3
