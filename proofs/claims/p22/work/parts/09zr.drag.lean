/-! DRAG, and the bits of those that are lifted. -/
def BTS (P : Int → Int) : Nat → Int
  | 0 => 0
  | n + 1 => if P ((n : Nat) : Int) = 1 then BTS P n + pt ((n : Nat) : Int) else BTS P n
theorem pt_s {n : Nat} : pt (((n + 1 : Nat)) : Int) = 2 * pt ((n : Nat) : Int) := by
  unfold pt
  rw [show (((n + 1 : Nat)) : Int).toNat = n + 1 by omega, show ((n : Nat) : Int).toNat = n by omega, Nat.pow_succ]
  omega
theorem pt_pos {k : Int} : 0 < pt k := by
  unfold pt
  have := Nat.two_pow_pos k.toNat
  omega
theorem BTS_in {P : Int → Int} : ∀ n : Nat, 0 ≤ BTS P n ∧ BTS P n < pt ((n : Nat) : Int)
  | 0 => by
    show (0 : Int) ≤ 0 ∧ (0 : Int) < pt 0
    decide
  | n + 1 => by
    have ih := BTS_in (P := P) n
    have e := pt_s (n := n)
    simp only [BTS]
    split
    · omega
    · omega
theorem BTS_s {P : Int → Int} {k : Int} (h : 0 ≤ k) : (P k = 1 ∧ BTS P (k + 1).toNat = BTS P k.toNat + pt k) ∨ (¬ P k = 1 ∧ BTS P (k + 1).toNat = BTS P k.toNat) := by
  obtain ⟨n, rfl⟩ : ∃ n : Nat, k = ((n : Nat) : Int) := ⟨k.toNat, by omega⟩
  rw [show ((n : Nat) : Int).toNat = n by omega, show (((n : Nat) : Int) + 1).toNat = n + 1 by omega]
  simp only [BTS]
  split
  · rename_i q; exact Or.inl ⟨q, rfl⟩
  · rename_i q; exact Or.inr ⟨q, rfl⟩
theorem BTS_bt {P : Int → Int} {k : Int} (hk : 0 ≤ k) : ∀ {n : Nat}, k < ((n : Nat) : Int) → n ≤ 10 → (bt (BTS P n) k = 1 ↔ P k = 1)
  | 0, h, _ => by omega
  | n + 1, h, h10 => by
    have b := BTS_in (P := P) n
    have b1 := BTS_in (P := P) (n + 1)
    have p10 := pt_mono (show ((n + 1 : Nat) : Int) ≤ 10 by omega)
    have pe : pt 10 = 1024 := by decide
    have m : BTS P (n + 1) % pt ((n : Nat) : Int) = BTS P n := by
      simp only [BTS]
      split
      · rw [Int.add_emod_right]; exact Int.emod_eq_of_lt b.1 b.2
      · exact Int.emod_eq_of_lt b.1 b.2
    by_cases q : k = ((n : Nat) : Int)
    · rw [q]
      rcases bt_split (s := BTS P (n + 1)) (c := ((n : Nat) : Int)) (b := BTS P n) ⟨b1.1, by omega⟩ ⟨by omega, by omega⟩ m with ⟨x1, x2⟩ | ⟨x1, x2⟩
      · have e : BTS P (n + 1) = BTS P n := by
          have z : BTS P (n + 1) % pt (((n : Nat) : Int) + 1) = BTS P (n + 1) := Int.emod_eq_of_lt b1.1 b1.2
          omega
        rw [x2]
        constructor
        · intro z; omega
        · intro z
          simp only [BTS] at e
          rw [if_pos z] at e
          have := pt_pos (k := ((n : Nat) : Int))
          omega
      · have e : BTS P (n + 1) = BTS P n + pt ((n : Nat) : Int) := by
          have z : BTS P (n + 1) % pt (((n : Nat) : Int) + 1) = BTS P (n + 1) := Int.emod_eq_of_lt b1.1 b1.2
          omega
        have bq := bt_eq (s := BTS P (n + 1)) (k := ((n : Nat) : Int)) b1.1 (by omega) ⟨by omega, by omega⟩
        constructor
        · intro _
          refine Classical.byContradiction (fun z => ?_)
          simp only [BTS] at e
          rw [if_neg z] at e
          have := pt_pos (k := ((n : Nat) : Int))
          omega
        · intro _
          omega
    · rw [← bt_mod (s := BTS P (n + 1)) (c := ((n : Nat) : Int)) ⟨b1.1, by omega⟩ hk ⟨by omega, by omega⟩, m]
      exact BTS_bt hk (n := n) (by omega) (by omega)
theorem or_0 {x : Int} (h : -2147483648 ≤ x ∧ x ≤ 2147483647) : tw_or x 0 = x := by
  unfold tw_or
  rw [show (Int32.ofInt 0) = 0 from rfl, Int32.or_zero]
  exact w32_eq h.1 h.2
def DRS (W g q : PTG) (n : Int) : Nat → Int
  | 0 => 0
  | k + 1 => DRS W g q n k + CTD W g q n ((k : Nat) : Int)
def DRB (W g : PTG) (n s : Int) : Nat → Int
  | 0 => 0
  | k + 1 => DRB W g n s k + (if bt s ((k : Nat) : Int) = 1 then tw_div (OFS W g n ((k : Nat) : Int)) 2 else OFS W g n ((k : Nat) : Int))
theorem DRS_s {W g q : PTG} {n k : Int} (h : 0 ≤ k) : DRS W g q n (k + 1).toNat = DRS W g q n k.toNat + CTD W g q n k := by
  obtain ⟨m, rfl⟩ : ∃ m : Nat, k = ((m : Nat) : Int) := ⟨k.toNat, by omega⟩
  rw [show ((m : Nat) : Int).toNat = m by omega, show (((m : Nat) : Int) + 1).toNat = m + 1 by omega]
  rfl
theorem DRB_s {W g : PTG} {n s k : Int} (h : 0 ≤ k) : DRB W g n s (k + 1).toNat = DRB W g n s k.toNat + (if bt s k = 1 then tw_div (OFS W g n k) 2 else OFS W g n k) := by
  obtain ⟨m, rfl⟩ : ∃ m : Nat, k = ((m : Nat) : Int) := ⟨k.toNat, by omega⟩
  rw [show ((m : Nat) : Int).toNat = m by omega, show (((m : Nat) : Int) + 1).toNat = m + 1 by omega]
  rfl
theorem DRB_eq {W g q : PTG} {n : Int} {N : Nat} (hN : N ≤ 10) : ∀ {k : Nat}, k ≤ N → DRB W g n (BTS (fun x => q (fok g x 40).toNat) N) k = DRS W g q n k
  | 0, _ => rfl
  | k + 1, h => by
    simp only [DRB, DRS]
    rw [DRB_eq hN (k := k) (by omega)]
    have b := BTS_bt (P := fun x => q (fok g x 40).toNat) (k := ((k : Nat) : Int)) (by omega) (n := N) (by omega) hN
    unfold CTD
    by_cases z : q (fok g ((k : Nat) : Int) 40).toNat = 1
    · rw [if_pos (b.mpr z), if_pos z]
    · rw [if_neg (fun y => z (b.mp y)), if_neg z]
def DGA (W g q : PTG) (n w r : Int) : Prop := (w = 0 ∧ r = DRS W g q n n.toNat) ∨ (w = 1 ∧ r = BTS (LFI W g q n) n.toNat) ∨ (w = 2 ∧ r = W 100 + tw_div (DRS W g q n n.toNat) 10) ∨ (¬ (0 ≤ w ∧ w ≤ 2) ∧ r = -1)
theorem DGA_same {W g q : PTG} {n w r r' : Int} (a : DGA W g q n w r) (b : DGA W g q n w r') : r = r' := by
  rcases a with ⟨a, a'⟩ | ⟨a, a'⟩ | ⟨a, a'⟩ | ⟨a, a'⟩ <;> rcases b with ⟨b, b'⟩ | ⟨b, b'⟩ | ⟨b, b'⟩ | ⟨b, b'⟩ <;> first | (exfalso; omega) | exact a'.trans b'.symm
