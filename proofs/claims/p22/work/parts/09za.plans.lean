/-! SETS OF CRACKS, and what they put. -/
def pt (k : Int) : Int := ((2 ^ k.toNat : Nat) : Int)
theorem pt_10 {k : Int} (h : 0 ≤ k ∧ k ≤ 10) : 1 ≤ pt k ∧ pt k ≤ 1024 ∧ pt (k + 1) = 2 * pt k := by
  rcases (show k = 0 ∨ k = 1 ∨ k = 2 ∨ k = 3 ∨ k = 4 ∨ k = 5 ∨ k = 6 ∨ k = 7 ∨ k = 8 ∨ k = 9 ∨ k = 10 by omega) with h | h | h | h | h | h | h | h | h | h | h <;> subst h <;> decide
theorem pt_mono {j k : Int} (h : j ≤ k) : pt j ≤ pt k := Int.ofNat_le.mpr (Nat.pow_le_pow_right (by decide) (by omega))
theorem pt_shl {k : Int} (h : 0 ≤ k ∧ k ≤ 12) : tw_shl 1 k = pt k := by
  rcases (show k = 0 ∨ k = 1 ∨ k = 2 ∨ k = 3 ∨ k = 4 ∨ k = 5 ∨ k = 6 ∨ k = 7 ∨ k = 8 ∨ k = 9 ∨ k = 10 ∨ k = 11 ∨ k = 12 by omega) with h | h | h | h | h | h | h | h | h | h | h | h | h <;> subst h <;> decide
theorem pt_shr {s j : Int} (h0 : 0 ≤ s) (hs : s ≤ 2147483647) (hj : 0 ≤ j ∧ j ≤ 12) : tw_shr s j = s / pt j := by
  have ea : Int32.ofInt s = nI s.toNat := by
    show Int32.ofInt s = Int32.ofInt (s.toNat : Int)
    rw [Int.toNat_of_nonneg h0]
  have key : ∀ c : Nat, (((Int32.ofInt j &&& 31 : Int32)).toBitVec.smod 32).toNat = c → pt j = ((2 ^ c : Nat) : Int) → tw_shr s j = s / pt j := by
    intro c hc hp
    unfold tw_shr
    have hlt : s.toNat / 2 ^ c < 2 ^ 31 := Nat.lt_of_le_of_lt (Nat.div_le_self _ _) (by omega)
    rw [ea, pk_shrN (n := s.toNat) (by omega) _ c hc, nI_toInt hlt, hp]
    have e : (s.toNat : Int) = s := Int.toNat_of_nonneg h0
    calc ((s.toNat / 2 ^ c : Nat) : Int) = (s.toNat : Int) / ((2 ^ c : Nat) : Int) := Int.natCast_ediv _ _
      _ = _ := by rw [e]
  rcases (show j = 0 ∨ j = 1 ∨ j = 2 ∨ j = 3 ∨ j = 4 ∨ j = 5 ∨ j = 6 ∨ j = 7 ∨ j = 8 ∨ j = 9 ∨ j = 10 ∨ j = 11 ∨ j = 12 by omega) with h | h | h | h | h | h | h | h | h | h | h | h | h <;> subst h
  · exact key 0 (by decide) rfl
  · exact key 1 (by decide) rfl
  · exact key 2 (by decide) rfl
  · exact key 3 (by decide) rfl
  · exact key 4 (by decide) rfl
  · exact key 5 (by decide) rfl
  · exact key 6 (by decide) rfl
  · exact key 7 (by decide) rfl
  · exact key 8 (by decide) rfl
  · exact key 9 (by decide) rfl
  · exact key 10 (by decide) rfl
  · exact key 11 (by decide) rfl
  · exact key 12 (by decide) rfl
theorem and1_eq {a : Int} (h1 : 0 ≤ a) (h2 : a ≤ 2147483647) : tw_and a 1 = a % 2 := by
  have ea : Int32.ofInt a = nI a.toNat := by
    show Int32.ofInt a = Int32.ofInt (a.toNat : Int)
    rw [Int.toNat_of_nonneg h1]
  unfold tw_and
  rw [ea, pk_andN (n := a.toNat) (by omega) (m := Int32.ofInt 1) 1 (by decide), nI_toInt (by omega)]
  omega
theorem bt_eq {s k : Int} (h0 : 0 ≤ s) (h1 : s ≤ 2147483647) (hk : 0 ≤ k ∧ k ≤ 12) : bt s k = s / pt k % 2 := by
  have p : 0 < pt k := by
    have := pt_mono (j := 0) (k := k) hk.1
    have e : pt 0 = 1 := rfl
    omega
  unfold bt
  rw [pt_shr h0 h1 hk]
  have a : 0 ≤ s / pt k := Int.ediv_nonneg h0 (by omega)
  have b : s / pt k ≤ s := Int.ediv_le_self _ h0
  exact and1_eq a (by omega)
/-- the lower bits are those of what is left -/
theorem bt_mod {s c k : Int} (h0 : 0 ≤ s ∧ s < 1024) (hk : 0 ≤ k) (hc : k < c ∧ c ≤ 10) : bt (s % pt c) k = bt s k := by
  have p := pt_10 (k := c) ⟨by omega, hc.2⟩
  have m1 : 0 ≤ s % pt c := Int.emod_nonneg _ (by omega)
  have m2 : s % pt c < pt c := Int.emod_lt_of_pos _ (by omega)
  rw [bt_eq m1 (by omega) ⟨hk, by omega⟩, bt_eq h0.1 (by omega) ⟨hk, by omega⟩]
  rcases (show c = 1 ∨ c = 2 ∨ c = 3 ∨ c = 4 ∨ c = 5 ∨ c = 6 ∨ c = 7 ∨ c = 8 ∨ c = 9 ∨ c = 10 by omega) with h | h | h | h | h | h | h | h | h | h <;> subst h <;>
  rcases (show k = 0 ∨ k = 1 ∨ k = 2 ∨ k = 3 ∨ k = 4 ∨ k = 5 ∨ k = 6 ∨ k = 7 ∨ k = 8 ∨ k = 9 by omega) with h | h | h | h | h | h | h | h | h | h <;> subst h <;> first | (exfalso; omega) | (simp only [show pt 0 = 1 from rfl, show pt 1 = 2 from rfl, show pt 2 = 4 from rfl, show pt 3 = 8 from rfl, show pt 4 = 16 from rfl, show pt 5 = 32 from rfl, show pt 6 = 64 from rfl, show pt 7 = 128 from rfl, show pt 8 = 256 from rfl, show pt 9 = 512 from rfl, show pt 10 = 1024 from rfl]; omega)
theorem bt_hi {s c k : Int} (h0 : 0 ≤ s ∧ s < pt c) (hc : 0 ≤ c ∧ c ≤ k) (hk : k ≤ 10) : bt s k = 0 := by
  have p := pt_10 (k := k) ⟨by omega, hk⟩
  have m := pt_mono hc.2
  rw [bt_eq h0.1 (by omega) ⟨by omega, by omega⟩, Int.ediv_eq_zero_of_lt h0.1 (by omega)]
  rfl
/-- split by one bit more -/
theorem bt_split {s c b : Int} (h0 : 0 ≤ s ∧ s < 1024) (hc : 0 ≤ c ∧ c ≤ 9) (h : s % pt c = b) : (s % pt (c + 1) = b ∧ bt s c = 0) ∨ (s % pt (c + 1) = b + pt c ∧ bt s c = 1) := by
  subst h
  rw [bt_eq h0.1 (by omega) ⟨hc.1, by omega⟩]
  rcases (show c = 0 ∨ c = 1 ∨ c = 2 ∨ c = 3 ∨ c = 4 ∨ c = 5 ∨ c = 6 ∨ c = 7 ∨ c = 8 ∨ c = 9 by omega) with h | h | h | h | h | h | h | h | h | h <;> subst h <;>
  (simp only [show (0 : Int) + 1 = 1 from rfl, show (1 : Int) + 1 = 2 from rfl, show (2 : Int) + 1 = 3 from rfl, show (3 : Int) + 1 = 4 from rfl, show (4 : Int) + 1 = 5 from rfl, show (5 : Int) + 1 = 6 from rfl, show (6 : Int) + 1 = 7 from rfl, show (7 : Int) + 1 = 8 from rfl, show (8 : Int) + 1 = 9 from rfl, show (9 : Int) + 1 = 10 from rfl, show pt 0 = 1 from rfl, show pt 1 = 2 from rfl, show pt 2 = 4 from rfl, show pt 3 = 8 from rfl, show pt 4 = 16 from rfl, show pt 5 = 32 from rfl, show pt 6 = 64 from rfl, show pt 7 = 128 from rfl, show pt 8 = 256 from rfl, show pt 9 = 512 from rfl, show pt 10 = 1024 from rfl]; omega)
theorem pt_mod {s c b : Int} (hc : 0 ≤ c ∧ c ≤ 9) (h : s % pt (c + 1) = b ∨ s % pt (c + 1) = b + pt c) (hb : 0 ≤ b ∧ b < pt c) : s % pt c = b := by
  rcases (show c = 0 ∨ c = 1 ∨ c = 2 ∨ c = 3 ∨ c = 4 ∨ c = 5 ∨ c = 6 ∨ c = 7 ∨ c = 8 ∨ c = 9 by omega) with e | e | e | e | e | e | e | e | e | e <;> subst e <;>
  (simp only [show (0 : Int) + 1 = 1 from rfl, show (1 : Int) + 1 = 2 from rfl, show (2 : Int) + 1 = 3 from rfl, show (3 : Int) + 1 = 4 from rfl, show (4 : Int) + 1 = 5 from rfl, show (5 : Int) + 1 = 6 from rfl, show (6 : Int) + 1 = 7 from rfl, show (7 : Int) + 1 = 8 from rfl, show (8 : Int) + 1 = 9 from rfl, show (9 : Int) + 1 = 10 from rfl, show pt 0 = 1 from rfl, show pt 1 = 2 from rfl, show pt 2 = 4 from rfl, show pt 3 = 8 from rfl, show pt 4 = 16 from rfl, show pt 5 = 32 from rfl, show pt 6 = 64 from rfl, show pt 7 = 128 from rfl, show pt 8 = 256 from rfl, show pt 9 = 512 from rfl, show pt 10 = 1024 from rfl] at h hb ⊢; omega)
theorem or_pt : ∀ c : Nat, c < 10 → ∀ b : Nat, b < 2 ^ c → tw_or (b : Int) (tw_shl 1 (c : Int)) = (b : Int) + pt (c : Int) := by decide +kernel
theorem or_bit {b c : Int} (hc : 0 ≤ c ∧ c ≤ 9) (hb : 0 ≤ b ∧ b < pt c) : tw_or b (tw_shl 1 c) = b + pt c := by
  have h := or_pt c.toNat (by omega) b.toNat (by have e : pt c = ((2 ^ c.toNat : Nat) : Int) := rfl
                                                 omega)
  rw [show ((b.toNat : Nat) : Int) = b by omega, show ((c.toNat : Nat) : Int) = c by omega] at h
  exact h
theorem bt_all : ∀ n : Nat, n < 11 → ∀ k : Nat, k < n → ¬ bt (pt (n : Int) - 1) (k : Int) = 0 ∧ ¬ bt 1023 (k : Int) = 0 := by decide +kernel
/-- crack sizes by feet -/
def cW (W : PTG) : PTG := fun f => if 1 ≤ f ∧ (f : Int) ≤ W 100 then wC W (f : Int) else 0
def kk (W : PTG) : Int := if cnt (cW W) 40 ≤ 10 then cnt (cW W) 40 else 10
/-- the pieces of a set -/
def lay (W : PTG) (S : Int) : PTG := fun f => if 0 < cW W f ∧ cnt (cW W) f ≤ 10 ∧ ¬ bt S (cnt (cW W) f - 1) = 0 then cW W f else 0
/-- how many of a size -/
def csz (g : PTG) (s : Int) : Nat → Int
  | 0 => 0
  | n + 1 => csz g s n + (if g (n + 1) = s then 1 else 0)
theorem cnt_inj {g : PTG} {f f' : Nat} (h1 : 0 < g f) (h2 : 0 < g f') (a : 1 ≤ f) (b : 1 ≤ f') (e : cnt g f = cnt g f') : f = f' := by
  have s1 := cnt_s (g := g) a
  have s2 := cnt_s (g := g) b
  rcases (show f < f' ∨ f = f' ∨ f' < f by omega) with q | q | q
  · have := cnt_mono g (show f ≤ f' - 1 by omega); omega
  · exact q
  · have := cnt_mono g (show f' ≤ f - 1 by omega); omega
theorem csz_congr {g g' : PTG} {s : Int} : ∀ {n : Nat}, (∀ f : Nat, 1 ≤ f → f ≤ n → (g' f = s ↔ g f = s)) → csz g' s n = csz g s n
  | 0, _ => rfl
  | n + 1, H => by
    have ih := csz_congr (g := g) (g' := g') (s := s) (n := n) (fun f f1 f2 => H f f1 (by omega))
    simp only [csz, ih, H (n + 1) (by omega) (by omega)]
theorem csz_mono {g g' : PTG} {s : Int} : ∀ {n : Nat}, (∀ f : Nat, 1 ≤ f → f ≤ n → g f = s → g' f = s) → csz g s n ≤ csz g' s n
  | 0, _ => Int.le_refl _
  | n + 1, H => by
    have ih := csz_mono (fun f f1 f2 => H f f1 (by omega)) (g := g) (g' := g') (s := s) (n := n)
    have h := H (n + 1) (by omega) (by omega)
    simp only [csz]
    by_cases q : g (n + 1) = s
    · rw [if_pos q, if_pos (h q)]; omega
    · rw [if_neg q]; split <;> omega
theorem csz_pg {g : PTG} {s : Int} {h : Nat} (h1 : 1 ≤ h) (hg : ¬ g h = s) : ∀ {n : Nat}, h ≤ n → csz (pg g h s) s n = csz g s n + 1
  | 0, hn => by omega
  | n + 1, hn => by
    by_cases e : h = n + 1
    · simp only [csz]
      rw [csz_congr (g := g) (g' := pg g h s) (fun f f1 f2 => by rw [pg_ne (by omega)]), ← e, if_pos pg_eq, if_neg hg]
      omega
    · simp only [csz]
      rw [csz_pg h1 hg (n := n) (by omega), pg_ne (by omega)]
      omega
theorem csz_pn {g : PTG} {s v : Int} {h n : Nat} (hg : ¬ g h = s) (hv : ¬ v = s) : csz (pg g h v) s n = csz g s n :=
  csz_congr (fun f f1 f2 => by
    by_cases q : f = h
    · rw [q, pg_eq]; exact ⟨fun e => absurd e hv, fun e => absurd e hg⟩
    · rw [pg_ne q])
theorem csz_nn {g : PTG} {s : Int} : ∀ n : Nat, 0 ≤ csz g s n
  | 0 => Int.le_refl _
  | n + 1 => by
    have := csz_nn (g := g) (s := s) n
    simp only [csz]
    split <;> omega
section LY
variable {W : PTG}
theorem cW_out {f : Nat} (h : f = 0 ∨ W 100 < (f : Int)) : cW W f = 0 := if_neg (by omega)
theorem cW_in {f : Nat} (h : 0 < cW W f) : 1 ≤ f ∧ (f : Int) ≤ W 100 := by
  unfold cW at h
  by_cases q : 1 ≤ f ∧ (f : Int) ≤ W 100
  · exact q
  · rw [if_neg q] at h; omega
theorem lay_pos {S : Int} {f : Nat} (h : 0 < lay W S f) : 0 < cW W f ∧ cnt (cW W) f ≤ 10 ∧ ¬ bt S (cnt (cW W) f - 1) = 0 ∧ lay W S f = cW W f := by
  unfold lay at h ⊢
  by_cases q : 0 < cW W f ∧ cnt (cW W) f ≤ 10 ∧ ¬ bt S (cnt (cW W) f - 1) = 0
  · rw [if_pos q]; exact ⟨q.1, q.2.1, q.2.2, rfl⟩
  · rw [if_neg q] at h; omega
theorem lay_0 {f : Nat} : lay W 0 f = 0 := by
  unfold lay
  by_cases q : 0 < cW W f ∧ cnt (cW W) f ≤ 10
  · have a := cW_in q.1
    have s := cnt_s (g := cW W) a.1
    have n := (cnt_in (cW W) (f - 1)).1
    have z : bt 0 (cnt (cW W) f - 1) = 0 := bt_hi (c := 0) ⟨by omega, by decide⟩ ⟨by omega, by omega⟩ (by omega)
    rw [if_neg (fun r => r.2.2 z)]
  · rw [if_neg (fun r => q ⟨r.1, r.2.1⟩)]
/-- two sets with the same lower bits put the same, as far as those go -/
theorem lay_loc {S b c : Int} {f : Nat} (hS : 0 ≤ S ∧ S < 1024) (hc : 0 ≤ c ∧ c ≤ 10) (h : S % pt c = b) (hf : cnt (cW W) f ≤ c ∨ 10 < cnt (cW W) f) : lay W b f = lay W S f := by
  unfold lay
  by_cases q : 0 < cW W f ∧ cnt (cW W) f ≤ 10
  · have a := cW_in q.1
    have s := cnt_s (g := cW W) a.1
    have n := (cnt_in (cW W) (f - 1)).1
    rw [← h, bt_mod hS (by omega) (c := c) ⟨by omega, by omega⟩]
  · rw [if_neg (fun r => q ⟨r.1, r.2.1⟩), if_neg (fun r => q ⟨r.1, r.2.1⟩)]
/-- one crack more -/
theorem lay_put {b c : Int} {f : Nat} (hc : 0 ≤ c ∧ c ≤ 9) (hb : 0 ≤ b ∧ b < pt c) (h0 : 0 < cW W f) (hf : cnt (cW W) f = c + 1) : lay W (b + pt c) = pg (lay W b) f (cW W f) ∧ lay W b f = 0 := by
  have p := pt_10 (k := c) ⟨hc.1, by omega⟩
  have p1 := pt_10 (k := c + 1) ⟨by omega, by omega⟩
  have fi := cW_in h0
  have bc : bt (b + pt c) c = 1 := by
    have e : (b + pt c) % pt c = b := by rw [Int.add_emod_right, Int.emod_eq_of_lt hb.1 hb.2]
    rcases bt_split (s := b + pt c) (c := c) (b := b) ⟨by omega, by omega⟩ hc e with z | z
    · rw [Int.emod_eq_of_lt (by omega) (by omega)] at z; omega
    · exact z.2
  constructor
  · funext x
    by_cases q : x = f
    · rw [q, pg_eq]
      unfold lay
      rw [if_pos ⟨h0, by omega, by rw [hf, show c + 1 - 1 = c by omega, bc]; decide⟩]
    · rw [pg_ne q]
      by_cases z : 0 < cW W x ∧ cnt (cW W) x ≤ 10
      · have a := cW_in z.1
        have s := cnt_s (g := cW W) a.1
        have n := (cnt_in (cW W) (x - 1)).1
        have e : bt (b + pt c) (cnt (cW W) x - 1) = bt b (cnt (cW W) x - 1) := by
          rcases (show cnt (cW W) x ≤ c ∨ cnt (cW W) x = c + 1 ∨ c + 2 ≤ cnt (cW W) x by omega) with u | u | u
          · have e1 : (b + pt c) % pt c = b := by rw [Int.add_emod_right, Int.emod_eq_of_lt hb.1 hb.2]
            have e2 := bt_mod (s := b + pt c) (c := c) (k := cnt (cW W) x - 1) ⟨by omega, by omega⟩ (by omega) ⟨by omega, by omega⟩
            rw [e1] at e2
            exact e2.symm
          · exact absurd (cnt_inj z.1 h0 a.1 fi.1 (by omega)) q
          · rw [bt_hi (s := b + pt c) (c := c + 1) ⟨by omega, by omega⟩ ⟨by omega, by omega⟩ (by omega), bt_hi (s := b) (c := c) hb ⟨by omega, by omega⟩ (by omega)]
        unfold lay
        rw [e]
      · unfold lay
        rw [if_neg (fun r => z ⟨r.1, r.2.1⟩), if_neg (fun r => z ⟨r.1, r.2.1⟩)]
  · unfold lay
    rw [if_neg (fun r => r.2.2 (by rw [hf]; exact bt_hi hb ⟨hc.1, by omega⟩ (by omega)))]
/-- more bits, more pieces -/
theorem lay_sub {S b c : Int} {f : Nat} {v : Int} (hS : 0 ≤ S ∧ S < 1024) (hc : 0 ≤ c ∧ c ≤ 10) (h : S % pt c = b) (hv : 1 ≤ v) (e : lay W b f = v) : lay W S f = v := by
  have l := lay_pos (W := W) (S := b) (f := f) (by omega)
  have a := cW_in l.1
  have s := cnt_s (g := cW W) a.1
  have n := (cnt_in (cW W) (f - 1)).1
  have p := pt_10 (k := c) hc
  have b1 : 0 ≤ b ∧ b < pt c := by
    rw [← h]
    exact ⟨Int.emod_nonneg _ (by omega), Int.emod_lt_of_pos _ (by omega)⟩
  have u : cnt (cW W) f ≤ c := by
    rcases (show cnt (cW W) f ≤ c ∨ c < cnt (cW W) f by omega) with u | u
    · exact u
    · exact absurd (bt_hi b1 ⟨hc.1, by omega⟩ (by omega)) l.2.2.1
  rw [← lay_loc (b := b) (c := c) hS hc h (Or.inl u)]
  exact e
end LY
