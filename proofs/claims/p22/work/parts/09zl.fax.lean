/-! WHAT ONE IS TOLD OF A FALL. -/
def FAX (W g : PTG) (h good w r : Int) : Prop := (w = 0 ∧ (((fallG W g h good h.toNat 0).1 < 0 ∧ r = 0) ∨ (0 ≤ (fallG W g h good h.toNat 0).1 ∧ r = (fallG W g h good h.toNat 0).1))) ∨ (w = 1 ∧ r = (fallG W g h good h.toNat 0).2.1) ∨ (w = 2 ∧ r = (fallG W g h good h.toNat 0).2.2.1) ∨ (w = 3 ∧ r = (fallG W g h good h.toNat 0).2.2.2) ∨ (w = 4 ∧ r = strS W h (fallG W g h good h.toNat 0).1) ∨ (w = 5 ∧ r = harS W h (fallG W g h good h.toNat 0).1) ∨ (¬ (0 ≤ w ∧ w ≤ 5) ∧ r = -1)
theorem FAX_of {W g : PTG} {h good w r a b c d s x : Int} (e : (a, b, c, d) = fallG W g h good h.toNat 0) (fs : s = strS W h a) (fh : x = harS W h a)
    (k : (w = 0 ∧ ((a < 0 ∧ r = 0) ∨ (0 ≤ a ∧ r = a))) ∨ (w = 1 ∧ r = b) ∨ (w = 2 ∧ r = c) ∨ (w = 3 ∧ r = d) ∨ (w = 4 ∧ r = s) ∨ (w = 5 ∧ r = x) ∨ (¬ (0 ≤ w ∧ w ≤ 5) ∧ r = -1)) : FAX W g h good w r := by
  unfold FAX
  rw [← e]
  show (w = 0 ∧ ((a < 0 ∧ r = 0) ∨ (0 ≤ a ∧ r = a))) ∨ (w = 1 ∧ r = b) ∨ (w = 2 ∧ r = c) ∨ (w = 3 ∧ r = d) ∨ (w = 4 ∧ r = strS W h a) ∨ (w = 5 ∧ r = harS W h a) ∨ (¬ (0 ≤ w ∧ w ≤ 5) ∧ r = -1)
  rw [← fs, ← fh]
  exact k
theorem FAX_same {W g : PTG} {h good w r r' : Int} (a : FAX W g h good w r) (b : FAX W g h good w r') : r = r' := by
  unfold FAX at a b
  rcases a with ⟨a, a'⟩ | ⟨a, a'⟩ | ⟨a, a'⟩ | ⟨a, a'⟩ | ⟨a, a'⟩ | ⟨a, a'⟩ | ⟨a, a'⟩ <;> rcases b with ⟨b, b'⟩ | ⟨b, b'⟩ | ⟨b, b'⟩ | ⟨b, b'⟩ | ⟨b, b'⟩ | ⟨b, b'⟩ | ⟨b, b'⟩ <;> omega
