/-! ONE WITHOUT WHICH there is no more risk. -/
theorem fallG_w {W g g' : PTG} {h good good' : Int} : ∀ {f : Nat} {p p' : Int}, (∀ x : Nat, 1 ≤ x → x ≤ f → ((0 < g x ∧ ¬ bt good (cnt g x - 1) = 0) ↔ (0 < g' x ∧ ¬ bt good' (cnt g' x - 1) = 0)) ∧ ((0 < g x ∧ ¬ bt good (cnt g x - 1) = 0) → g' x = g x)) → (fallG W g h good f p).1 = (fallG W g' h good' f p').1
  | 0, _, _, _ => rfl
  | f + 1, p, p', H => by
    have e := H (f + 1) (by omega) (by omega)
    have ih : ∀ a b : Int, (fallG W g h good f a).1 = (fallG W g' h good' f b).1 := fun a b => fallG_w (fun x x1 x2 => H x x1 (by omega))
    simp only [fallG]
    by_cases q : 0 < g (f + 1) ∧ ¬ bt good (cnt g (f + 1) - 1) = 0
    · have q' := e.1.mp q
      rw [if_pos q.1, if_pos q'.1, e.2 q]
      by_cases z : pullS h (dropS W h ((f + 1 : Nat) : Int)) ≤ g (f + 1) + W 107
      · rw [if_pos ⟨q.2, z⟩, if_pos ⟨q'.2, z⟩]
      · rw [if_neg (fun y => z y.2), if_neg (fun y => z y.2)]
        exact ih _ _
    · have q' : ¬ (0 < g' (f + 1) ∧ ¬ bt good' (cnt g' (f + 1) - 1) = 0) := fun y => q (e.1.mpr y)
      have L : ∀ a : Int, (if 0 < g (f + 1) then (if ¬ bt good (cnt g (f + 1) - 1) = 0 ∧ pullS h (dropS W h ((f + 1 : Nat) : Int)) ≤ g (f + 1) + W 107 then (tw_w32 (h - dropS W h ((f + 1 : Nat) : Int)), cnt g (f + 1) - 1, pullS h (dropS W h ((f + 1 : Nat) : Int)), a) else fallG W g h good f (tw_or a (tw_shl 1 (cnt g (f + 1) - 1)))) else fallG W g h good f a).1 = (fallG W g h good f 0).1 := fun a => by
        by_cases y : 0 < g (f + 1)
        · rw [if_pos y, if_neg (fun w => q ⟨y, w.1⟩), ih _ 0, ih 0 0]
        · rw [if_neg y, ih _ 0, ih 0 0]
      have R : ∀ a : Int, (if 0 < g' (f + 1) then (if ¬ bt good' (cnt g' (f + 1) - 1) = 0 ∧ pullS h (dropS W h ((f + 1 : Nat) : Int)) ≤ g' (f + 1) + W 107 then (tw_w32 (h - dropS W h ((f + 1 : Nat) : Int)), cnt g' (f + 1) - 1, pullS h (dropS W h ((f + 1 : Nat) : Int)), a) else fallG W g' h good' f (tw_or a (tw_shl 1 (cnt g' (f + 1) - 1)))) else fallG W g' h good' f a).1 = (fallG W g h good f 0).1 := fun a => by
        by_cases y : 0 < g' (f + 1)
        · rw [if_pos y, if_neg (fun w => q' ⟨y, w.1⟩), ← ih 0 _]
        · rw [if_neg y, ← ih 0 _]
      rw [L, R]
theorem rsk_w {W g g' : PTG} {good good' : Int} : ∀ {n : Nat}, (∀ x : Nat, 1 ≤ x → x ≤ n → ((0 < g x ∧ ¬ bt good (cnt g x - 1) = 0) ↔ (0 < g' x ∧ ¬ bt good' (cnt g' x - 1) = 0)) ∧ ((0 < g x ∧ ¬ bt good (cnt g x - 1) = 0) → g' x = g x)) → rsk W g good n = rsk W g' good' n
  | 0, _ => rfl
  | n + 1, H => by
    simp only [rsk]
    rw [rsk_w (n := n) (fun x x1 x2 => H x x1 (by omega))]
    have e : harF W g ((n + 1 : Nat) : Int) good = harF W g' ((n + 1 : Nat) : Int) good' := by
      unfold harF
      rw [show (((n + 1 : Nat) : Int)).toNat = n + 1 by omega, fallG_w (p := 0) (p' := 0) H]
    rw [e]
theorem but_bt : ∀ n : Nat, n < 11 → ∀ k : Nat, k < n → ∀ j : Nat, j < n → (bt (tw_and (pt (n : Int) - 1) (tw_xor (tw_shl 1 (k : Int)) (-1))) (j : Int) = 0 ↔ j = k) := by decide +kernel
theorem cnt_pg {g : PTG} {f : Nat} (h1 : 1 ≤ f) (hg : 0 < g f) : ∀ x : Nat, (f ≤ x → cnt (pg g f 0) x = cnt g x - 1) ∧ (x < f → cnt (pg g f 0) x = cnt g x)
  | 0 => ⟨fun h => by omega, fun _ => rfl⟩
  | x + 1 => by
    have ih := cnt_pg h1 hg x
    have s := cnt_s (g := g) (f := x + 1) (by omega)
    have t := cnt_s (g := pg g f 0) (f := x + 1) (by omega)
    rw [Nat.add_sub_cancel] at s t
    by_cases q : x + 1 = f
    · have e : pg g f 0 (x + 1) = 0 := by rw [q, pg_eq]
      have e2 : g (x + 1) = g f := by rw [q]
      have i2 := ih.2 (by omega)
      exact ⟨fun h => by omega, fun h => by omega⟩
    · have e : pg g f 0 (x + 1) = g (x + 1) := pg_ne q
      refine ⟨fun h => ?_, fun h => ?_⟩
      · have i1 := ih.1 (by omega)
        omega
      · have i2 := ih.2 (by omega)
        omega
/-- all but the k-th are good: as if it weren't there -/
theorem rsk_but {W g : PTG} {n k : Int} {f H : Nat} (hn : n = cnt g 40) (h10 : n ≤ 10) (hk : 0 ≤ k ∧ k < n) (h1 : 1 ≤ f ∧ f ≤ 40) (hg : 0 < g f) (hc : cnt g f = k + 1) (hH : H ≤ 40) : rsk W g (tw_and (pt n - 1) (tw_xor (tw_shl 1 k) (-1))) H = rsk W (pg g f 0) 1023 H := by
  refine rsk_w (fun x x1 x2 => ?_)
  have m := cnt_mono g (show x ≤ 40 by omega)
  by_cases q : x = f
  · subst q
    have b := but_bt n.toNat (by omega) k.toNat (by omega) k.toNat (by omega)
    rw [show ((n.toNat : Nat) : Int) = n by omega, show ((k.toNat : Nat) : Int) = k by omega] at b
    rw [hc, show k + 1 - 1 = k by omega, pg_eq]
    exact ⟨⟨fun z => absurd (b.mpr rfl) z.2, fun z => by omega⟩, fun z => absurd (b.mpr rfl) z.2⟩
  · rw [pg_ne q]
    refine ⟨⟨fun z => ⟨z.1, ?_⟩, fun z => ⟨z.1, ?_⟩⟩, fun _ => rfl⟩
    · have c0 := cnt_si (g := g) (f := (x : Int)) (by omega)
      have c1 := (cnt_in g ((x : Int) - 1).toNat).1
      rw [show ((x : Nat) : Int).toNat = x by omega] at c0
      have c2 := cnt_pg h1.1 hg x
      have c3 : 0 ≤ cnt (pg g f 0) x - 1 ∧ cnt (pg g f 0) x - 1 < 10 := by
        by_cases y : f ≤ x
        · have c2 := c2.1 y
          have c4 := cnt_mono g (show f ≤ x - 1 by omega)
          rw [show ((x : Int) - 1).toNat = x - 1 by omega] at c0
          omega
        · have c2 := c2.2 (by omega)
          omega
      have b := (bt_all 10 (by decide) (cnt (pg g f 0) x - 1).toNat (by omega)).2
      rw [show (((cnt (pg g f 0) x - 1).toNat : Nat) : Int) = cnt (pg g f 0) x - 1 by omega] at b
      exact b
    · have c0 := cnt_si (g := g) (f := (x : Int)) (by omega)
      have c1 := (cnt_in g ((x : Int) - 1).toNat).1
      rw [show ((x : Nat) : Int).toNat = x by omega] at c0
      have b := but_bt n.toNat (by omega) k.toNat (by omega) (cnt g x - 1).toNat (by omega)
      rw [show ((n.toNat : Nat) : Int) = n by omega, show ((k.toNat : Nat) : Int) = k by omega, show (((cnt g x - 1).toNat : Nat) : Int) = cnt g x - 1 by omega] at b
      intro y
      have e := b.mp y
      exact q (cnt_inj z.1 hg x1 h1.1 (by omega))
def NDP (W g : PTG) (k : Int) : Int := if rsk W (pg g (fok g k 40).toNat 0) 1023 (W 100).toNat ≤ rsk W g 1023 (W 100).toNat then 1 else 0
theorem NDP_of {W g : PTG} {k a b x : Int} (ha : a = rsk W (pg g (fok g k 40).toNat 0) 1023 (W 100).toNat) (hb : b = rsk W g 1023 (W 100).toNat) (hx : (x = 1 ∧ a ≤ b) ∨ (x = 0 ∧ ¬ a ≤ b)) : x = NDP W g k := by
  unfold NDP
  rw [← ha, ← hb]
  rcases hx with ⟨h1, h2⟩ | ⟨h1, h2⟩
  · rw [if_pos h2]; exact h1
  · rw [if_neg h2]; exact h1
