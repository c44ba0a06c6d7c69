/-! SIDES: the foot of a piece by its number, how far its side is off, whether the rope lifts it. -/
def fok (g : PTG) (k : Int) : Nat → Int
  | 0 => 0
  | n + 1 => if 0 < g (n + 1) ∧ cnt g (n + 1) = k + 1 then ((n + 1 : Nat) : Int) else fok g k n
theorem fok_at {g : PTG} {k : Int} {f : Nat} (hf : 0 < g f) (hc : cnt g f = k + 1) (h1 : 1 ≤ f) : ∀ n : Nat, f ≤ n → fok g k n = (f : Int)
  | 0, h => by omega
  | n + 1, h => by
    simp only [fok]
    by_cases q : 0 < g (n + 1) ∧ cnt g (n + 1) = k + 1
    · rw [if_pos q, cnt_inj q.1 hf (by omega) h1 (q.2.trans hc.symm)]
    · rw [if_neg q]
      have ne : ¬ f = n + 1 := fun z => q (by rw [← z]; exact ⟨hf, hc⟩)
      exact fok_at hf hc h1 n (by omega)
theorem RG_fok {σ : tw_M} {o : Nat} {g q : PTG} (H : RG o g q σ) {k : Int} (hk : 0 ≤ k ∧ k < σ o 0) : fok g k 40 = σ (o + 1) k.toNat ∧ g (fok g k 40).toNat = σ (o + 2) k.toNat ∧ q (fok g k 40).toNat = σ (o + 3) k.toNat ∧ 1 ≤ fok g k 40 ∧ fok g k 40 ≤ 40 := by
  obtain ⟨b1, b2, b3, b4, b5⟩ := H.2.1 k.toNat (by omega)
  have c := RG_cnt H k.toNat (by omega)
  have e : fok g k 40 = (((σ (o + 1) k.toNat).toNat : Nat) : Int) := fok_at (by omega) (by omega) (by omega) 40 (by omega)
  have e' : fok g k 40 = σ (o + 1) k.toNat := by omega
  rw [e']
  exact ⟨rfl, b4, b5, b1, b2⟩
theorem fok_in {g : PTG} {k : Int} : ∀ n : Nat, 0 ≤ fok g k n ∧ fok g k n ≤ (n : Int)
  | 0 => ⟨Int.le_refl _, Int.le_refl _⟩
  | n + 1 => by
    have ih := fok_in (g := g) (k := k) n
    simp only [fok]
    split
    · omega
    · omega
def SD (W g : PTG) (n k : Int) : Int := if k < 0 then 5 else if n ≤ k then wS W (W 100) else wS W (fok g k 40)
def OFS (W g : PTG) (n k : Int) : Int := if 2 * SD W g n k - SD W g n (k - 1) - SD W g n (k + 1) < 0 then -(2 * SD W g n k - SD W g n (k - 1) - SD W g n (k + 1)) else 2 * SD W g n k - SD W g n (k - 1) - SD W g n (k + 1)
def CTD (W g q : PTG) (n k : Int) : Int := if q (fok g k 40).toNat = 1 then tw_div (OFS W g n k) 2 else OFS W g n k
def LFI (W g q : PTG) (n k : Int) : Int := if ¬ q (fok g k 40).toNat = 1 ∧ ((2 ≤ SD W g n (k - 1) - SD W g n k ∧ 2 ≤ SD W g n (k + 1) - SD W g n k) ∨ (SD W g n (k - 1) - SD W g n k ≤ -2 ∧ SD W g n (k + 1) - SD W g n k ≤ -2)) then 1 else 0
theorem OFS_of {W g : PTG} {n k a b c r : Int} (ha : a = SD W g n k) (hb : b = SD W g n (k - 1)) (hc : c = SD W g n (k + 1)) (hr : (2 * a - b - c < 0 ∧ r = -(2 * a - b - c)) ∨ (0 ≤ 2 * a - b - c ∧ r = 2 * a - b - c)) : r = OFS W g n k := by
  unfold OFS
  rw [← ha, ← hb, ← hc]
  by_cases q : 2 * a - b - c < 0
  · rw [if_pos q]; omega
  · rw [if_neg q]; omega
theorem CTD_of {W g q : PTG} {n k d r s : Int} (hd : d = OFS W g n k) (hs : q (fok g k 40).toNat = s) (hr : (s = 1 ∧ r = tw_div d 2) ∨ (¬ s = 1 ∧ r = d)) : r = CTD W g q n k := by
  unfold CTD
  rw [hs, ← hd]
  rcases hr with ⟨h1, h2⟩ | ⟨h1, h2⟩
  · rw [if_pos h1]; exact h2
  · rw [if_neg h1]; exact h2
theorem LFI_of {W g q : PTG} {n k a b c r s : Int} (ha : a = SD W g n k) (hb : b = SD W g n (k - 1)) (hc : c = SD W g n (k + 1)) (hs : q (fok g k 40).toNat = s) (hr : (r = 1 ∧ ¬ s = 1 ∧ ((2 ≤ b - a ∧ 2 ≤ c - a) ∨ (b - a ≤ -2 ∧ c - a ≤ -2))) ∨ (r = 0 ∧ ¬ (¬ s = 1 ∧ ((2 ≤ b - a ∧ 2 ≤ c - a) ∨ (b - a ≤ -2 ∧ c - a ≤ -2))))) : r = LFI W g q n k := by
  unfold LFI
  rw [hs, ← ha, ← hb, ← hc]
  rcases hr with ⟨h1, h2⟩ | ⟨h1, h2⟩
  · rw [if_pos h2]; exact h1
  · rw [if_neg h2]; exact h1
theorem SD_neg {W g : PTG} {n k : Int} (h : k < 0) : SD W g n k = 5 := if_pos h
theorem SD_top {W g : PTG} {n k : Int} (h : 0 ≤ k) (h2 : n ≤ k) : SD W g n k = wS W (W 100) := by
  unfold SD
  rw [if_neg (by omega), if_pos h2]
theorem SD_mid {W g : PTG} {n k : Int} (h : 0 ≤ k) (h2 : k < n) : SD W g n k = wS W (fok g k 40) := by
  unfold SD
  rw [if_neg (by omega), if_neg (by omega)]
def CHC (W g : PTG) (ft nr k : Int) : Int := if g (fok g k 40).toNat = wC W (fok g k 40) then ft else nr
def PCA (W g q : PTG) (n ft nr k w r : Int) : Prop := (w = 0 ∧ r = fok g k 40) ∨ (w = 1 ∧ r = g (fok g k 40).toNat) ∨ (w = 2 ∧ r = CHC W g ft nr k) ∨ (w = 3 ∧ r = g (fok g k 40).toNat + W 107) ∨ (w = 4 ∧ r = q (fok g k 40).toNat) ∨ (w = 5 ∧ r = LFI W g q n k) ∨ (w = 6 ∧ r = CTD W g q n k) ∨ (¬ (0 ≤ w ∧ w ≤ 6) ∧ r = -1)
theorem PCA_same {W g q : PTG} {n ft nr k w r r' : Int} (a : PCA W g q n ft nr k w r) (b : PCA W g q n ft nr k w r') : r = r' := by
  rcases a with ⟨a, a'⟩ | ⟨a, a'⟩ | ⟨a, a'⟩ | ⟨a, a'⟩ | ⟨a, a'⟩ | ⟨a, a'⟩ | ⟨a, a'⟩ | ⟨a, a'⟩ <;> rcases b with ⟨b, b'⟩ | ⟨b, b'⟩ | ⟨b, b'⟩ | ⟨b, b'⟩ | ⟨b, b'⟩ | ⟨b, b'⟩ | ⟨b, b'⟩ | ⟨b, b'⟩ <;> first | (exfalso; omega) | exact a'.trans b'.symm
