/-! THE WORST FALL, and what one is told of risk. -/
def wst (W g : PTG) : Nat → Int × Int
  | 0 => (0, 0)
  | n + 1 => if (wst W g n).2 < harF W g ((n + 1 : Nat) : Int) 1023 then (((n + 1 : Nat) : Int), harF W g ((n + 1 : Nat) : Int) 1023) else wst W g n
theorem wst_s {W g : PTG} {h : Int} (h1 : 1 ≤ h) : ((wst W g (h - 1).toNat).2 < harF W g h 1023 ∧ wst W g h.toNat = (h, harF W g h 1023)) ∨ (¬ (wst W g (h - 1).toNat).2 < harF W g h 1023 ∧ wst W g h.toNat = wst W g (h - 1).toNat) := by
  obtain ⟨n, rfl⟩ : ∃ n : Nat, h = ((n + 1 : Nat) : Int) := ⟨(h - 1).toNat, by omega⟩
  rw [show (((n + 1 : Nat) : Int)).toNat = n + 1 by omega, show (((n + 1 : Nat) : Int) - 1).toNat = n by omega]
  simp only [wst]
  by_cases q : (wst W g n).2 < harF W g ((n + 1 : Nat) : Int) 1023
  · rw [if_pos q]; exact Or.inl ⟨q, rfl⟩
  · rw [if_neg q]; exact Or.inr ⟨q, rfl⟩
/-- the class's: foot 0 as yet; the reference's: -4 -/
def WSI (W g : PTG) (z h v m : Int) : Prop := m = (wst W g (h - 1).toNat).2 ∧ 0 ≤ (wst W g (h - 1).toNat).1 ∧ (((wst W g (h - 1).toNat).1 = 0 ∧ v = z) ∨ (0 < (wst W g (h - 1).toNat).1 ∧ v = (wst W g (h - 1).toNat).1))
theorem WSI_0 {W g : PTG} {z : Int} : WSI W g z 1 z 0 := ⟨rfl, Int.le_refl _, Or.inl ⟨rfl, rfl⟩⟩
theorem WSI_s {W g : PTG} {z h v m v' m' x : Int} (H : WSI W g z h v m) (h1 : 1 ≤ h) (hx : x = harF W g h 1023) (k : (m < x ∧ v' = h ∧ m' = x) ∨ (¬ m < x ∧ v' = v ∧ m' = m)) : WSI W g z (h + 1) v' m' := by
  obtain ⟨a, b, c⟩ := H
  unfold WSI
  rw [show (h + 1 - 1 : Int) = h by omega]
  rcases wst_s (W := W) (g := g) h1 with ⟨s1, s2⟩ | ⟨s1, s2⟩
  · rw [s2]
    rcases k with ⟨k1, k2, k3⟩ | ⟨k1, k2, k3⟩
    · exact ⟨by show m' = harF W g h 1023; omega, by show (0 : Int) ≤ h; omega, Or.inr ⟨by show (0 : Int) < h; omega, k2⟩⟩
    · omega
  · rw [s2]
    rcases k with ⟨k1, k2, k3⟩ | ⟨k1, k2, k3⟩
    · omega
    · exact ⟨by omega, b, by rw [k2]; exact c⟩
theorem harF_all {W g : PTG} {h n : Int} (hn : n = cnt g 40) (h0 : 0 ≤ n ∧ n ≤ 10) (hh : h ≤ 40) : harF W g h (pt n - 1) = harF W g h 1023 := by
  unfold harF
  rw [fallG_good (good' := pt n - 1) (good := 1023) (fun k k1 k2 => by
    have m := cnt_mono g (show h.toNat ≤ 40 by omega)
    have u := bt_all n.toNat (by omega) k.toNat (by omega)
    rw [show ((n.toNat : Nat) : Int) = n by omega, show ((k.toNat : Nat) : Int) = k by omega] at u
    exact ⟨fun z => absurd z u.1, fun z => absurd z u.2⟩)]
theorem rsk_all {W g : PTG} {n : Int} (hn : n = cnt g 40) (h0 : 0 ≤ n ∧ n ≤ 10) {h : Nat} (hh : h ≤ 40) : rsk W g (pt n - 1) h = rsk W g 1023 h :=
  rsk_good (good' := pt n - 1) (good := 1023) (fun k k1 k2 => by
    have m := cnt_mono g hh
    have u := bt_all n.toNat (by omega) k.toNat (by omega)
    rw [show ((n.toNat : Nat) : Int) = n by omega, show ((k.toNat : Nat) : Int) = k by omega] at u
    exact ⟨fun z => absurd z u.1, fun z => absurd z u.2⟩)
def RSA (W g : PTG) (w r : Int) : Prop := (w = 0 ∧ r = rsk W g 1023 (W 100).toNat) ∨ (w = 1 ∧ r = eff W g (W 100).toNat) ∨ (w = 2 ∧ TMs W g (-4) 1 (W 100 + 1) r) ∨ (w = 3 ∧ WSI W g (-4) (W 100 + 1) r (wst W g (W 100).toNat).2) ∨ (w = 4 ∧ r = (wst W g (W 100).toNat).2) ∨ (¬ (0 ≤ w ∧ w ≤ 4) ∧ r = -1)
theorem TMs_z {W g : PTG} {a h t r : Int} (H : TMs W g 0 a h t) (ha : 0 < a) (k : (0 < t ∧ r = t) ∨ (t ≤ 0 ∧ r = -4)) : TMs W g (-4) a h r := by
  rcases H with ⟨b, c⟩ | ⟨b, c, d, e⟩
  · exact Or.inl ⟨by omega, c⟩
  · rw [show r = t by omega]
    exact Or.inr ⟨b, c, d, e⟩
theorem TMs_eq {W g : PTG} {a h t t' : Int} (H : TMs W g (-4) a h t) (K : TMs W g (-4) a h t') : t = t' := by
  rcases H with ⟨b, c⟩ | ⟨b, c, d, e⟩ <;> rcases K with ⟨b', c'⟩ | ⟨b', c', d', e'⟩
  · omega
  · have := c t' b' c'
    omega
  · have := c' t b c
    omega
  · rcases Int.lt_trichotomy t t' with q | q | q
    · have := e' t b q
      omega
    · exact q
    · have := e t' b' q
      omega
theorem RSA_same {W g : PTG} {w r r' : Int} (a : RSA W g w r) (b : RSA W g w r') : r = r' := by
  unfold RSA WSI at a b
  rcases a with ⟨a, a'⟩ | ⟨a, a'⟩ | ⟨a, a'⟩ | ⟨a, a'⟩ | ⟨a, a'⟩ | ⟨a, a'⟩ <;> rcases b with ⟨b, b'⟩ | ⟨b, b'⟩ | ⟨b, b'⟩ | ⟨b, b'⟩ | ⟨b, b'⟩ | ⟨b, b'⟩ <;> first | (exfalso; omega) | exact TMs_eq a' b' | omega
