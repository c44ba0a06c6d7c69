/-! BOUNDS of the numbers in the cells; SHAPES of objects; LINKS. -/
def bD : Nat → Int × Int := fun _ => (-2147483648, 2147483647)
def bC (lo hi : Int) : Nat → Int × Int := fun _ => (lo, hi)
def bF (l : List (Int × Int)) : Nat → Int × Int := fun j => l.getD j (-2147483648, 2147483647)
def bST : Nat → Int × Int := fun j => if j % 100 ≤ 40 then (0, 10) else if j % 100 = 93 ∨ j % 100 = 95 then (0, 999) else (-2147483648, 2147483647)
def bMW : Nat → Int × Int := fun j => if j % 5 = 0 then (0, 9) else if j % 5 = 1 then (0, 10) else if j % 5 = 4 then (0, 9) else (0, 1)
def tw_bl : List (Nat → Int × Int) := [bF [(-2147483648, 2147483647), (-2147483648, 2147483647), (-2147483648, 2147483647), (-2147483648, 2147483647), (-2147483648, 2147483647), (-2147483648, 2147483647), (-2147483648, 2147483647), (-2147483648, 2147483647), (-2147483648, 2147483647), (-2147483648, 2147483647), (-2147483648, 2147483647), (-2147483648, 2147483647), (-2147483648, 2147483647), (-2147483648, 2147483647), (-2147483648, 2147483647)], bF [(-2147483648, 2147483647), (-2147483648, 2147483647), (-2147483648, 2147483647), (-2147483648, 2147483647), (-2147483648, 2147483647), (-2147483648, 2147483647), (-2147483648, 2147483647), (-2147483648, 2147483647)], bF [(1, 40), (1, 999), (0, 99), (1, 60), (0, 50), (0, 20), (0, 20), (0, 60), (0, 9)], bC (0) 5, bC (0) 9, bC (0) 10, bC (0) 1, bC (0) 1, bC (0) 9, bC (0) 40, bF [(-2147483648, 2147483647), (-2147483648, 2147483647), (-2147483648, 2147483647), (-2147483648, 2147483647), (0, 40), (0, 400), (0, 3), (0, 400), (0, 999), (-2147483648, 2147483647), (0, 400), (0, 5), (0, 400), (0, 400)], bC (-128) 127, bC (0) 1, bC (0) 1, bF [(-2147483648, 2147483647), (-2147483648, 2147483647), (-2147483648, 2147483647), (-2147483648, 2147483647), (-2147483648, 2147483647), (-2147483648, 2147483647), (-2147483648, 2147483647), (-2147483648, 2147483647)], bF [(1, 40), (1, 999), (0, 99), (1, 60), (0, 50), (0, 20), (0, 20), (0, 60), (0, 9)], bC (0) 5, bC (0) 9, bC (0) 10, bC (0) 1, bC (0) 1, bC (0) 9, bC (0) 40, bF [(-2147483648, 2147483647), (-2147483648, 2147483647), (-2147483648, 2147483647), (-2147483648, 2147483647), (-2147483648, 2147483647), (-2147483648, 2147483647), (0, 1)], bF [(0, 10), (-2147483648, 2147483647), (-2147483648, 2147483647), (-2147483648, 2147483647)], bC (0) 40, bC (0) 10, bC (0) 1, bD, bC (0) 999, bD, bF [(-2147483648, 2147483647), (-2147483648, 2147483647), (-2147483648, 2147483647), (-2147483648, 2147483647), (-2147483648, 2147483647), (-2147483648, 2147483647), (0, 1)], bF [(0, 10), (-2147483648, 2147483647), (-2147483648, 2147483647), (-2147483648, 2147483647)], bC (0) 40, bC (0) 10, bC (0) 1, bD, bC (0) 999, bD, bF [(-2147483648, 2147483647), (-2147483648, 2147483647), (-2147483648, 2147483647), (-2147483648, 2147483647), (-2147483648, 2147483647), (-2147483648, 2147483647), (0, 1)], bF [(0, 10), (-2147483648, 2147483647), (-2147483648, 2147483647), (-2147483648, 2147483647)], bC (0) 40, bC (0) 10, bC (0) 1, bD, bC (0) 999, bD, bF [(-2147483648, 2147483647), (-2147483648, 2147483647), (-2147483648, 2147483647), (-2147483648, 2147483647), (-2147483648, 2147483647), (-2147483648, 2147483647), (0, 1)], bF [(0, 10), (-2147483648, 2147483647), (-2147483648, 2147483647), (-2147483648, 2147483647)], bC (0) 40, bC (0) 10, bC (0) 1, bD, bC (0) 999, bD, bF [(-2147483648, 2147483647), (-2147483648, 2147483647), (-2147483648, 2147483647), (-2147483648, 2147483647), (-2147483648, 2147483647), (-2147483648, 2147483647)], bF [(-2147483648, 2147483647), (-2147483648, 2147483647), (-2147483648, 2147483647), (-2147483648, 2147483647), (-2147483648, 2147483647), (-2147483648, 2147483647)], bF [(-2147483648, 2147483647), (-2147483648, 2147483647), (-2147483648, 2147483647), (-2147483648, 2147483647), (-2147483648, 2147483647), (-2147483648, 2147483647)], bF [(-2147483648, 2147483647), (-2147483648, 2147483647), (-9223372036854775808, 9223372036854775807), (-9223372036854775808, 9223372036854775807)], bF [(-2147483648, 2147483647), (-2147483648, 2147483647), (-2147483648, 2147483647), (-2147483648, 2147483647), (-2147483648, 2147483647), (-2147483648, 2147483647)], bF [(-2147483648, 2147483647), (-2147483648, 2147483647), (-2147483648, 2147483647), (-2147483648, 2147483647), (-2147483648, 2147483647), (0, 10), (0, 1), (0, 1), (-2147483648, 2147483647), (-2147483648, 2147483647), (0, 1), (-2147483648, 2147483647), (0, 40), (-2147483648, 2147483647)], bF [(0, 10), (-2147483648, 2147483647), (-2147483648, 2147483647), (-2147483648, 2147483647)], bC (0) 40, bC (0) 10, bC (0) 1, bD, bC (0) 40, bF [(0, 10), (-2147483648, 2147483647), (-2147483648, 2147483647), (-2147483648, 2147483647)], bC (0) 40, bC (0) 10, bC (0) 1, bF [(-2147483648, 2147483647), (0, 1), (-2147483648, 2147483647), (-2147483648, 2147483647), (-2147483648, 2147483647), (-2147483648, 2147483647), (0, 40), (-2147483648, 2147483647)], bC (-1) 40, bD, bC (0) 40, bD, bF [(-2147483648, 2147483647), (0, 1), (-2147483648, 2147483647), (-2147483648, 2147483647), (0, 40), (0, 1)], bC (0) 99, bC (0) 40, bD, bF [(-2147483648, 2147483647), (0, 1), (-2147483648, 2147483647), (0, 40)], bD, bF [(-2147483648, 2147483647), (0, 1), (-2147483648, 2147483647), (0, 40)], bD, bF [(-2147483648, 2147483647), (0, 1), (-2147483648, 2147483647), (0, 40)], bD, bF [(-2147483648, 2147483647), (0, 1), (-2147483648, 2147483647), (0, 40)], bD, bF [(-2147483648, 2147483647), (-2147483648, 2147483647), (-2147483648, 2147483647), (-2147483648, 2147483647), (-2147483648, 2147483647), (-2147483648, 2147483647), (-2147483648, 2147483647), (-2147483648, 2147483647), (-2147483648, 2147483647), (-2147483648, 2147483647), (0, 40), (-2147483648, 2147483647), (0, 400), (0, 400), (0, 400), (-2147483648, 2147483647), (-2147483648, 2147483647), (0, 5), (0, 400), (-2147483648, 2147483647), (-2147483648, 2147483647), (-2147483648, 2147483647), (-2147483648, 2147483647), (-2147483648, 2147483647), (-2147483648, 2147483647), (-2147483648, 2147483647), (-4, 1023), (-2147483648, 2147483647), (-2147483648, 2147483647), (-2147483648, 2147483647), (-4, 40), (-2147483648, 2147483647), (-2147483648, 2147483647), (-2147483648, 2147483647), (-4, 40), (-2147483648, 2147483647), (-2147483648, 2147483647), (-2147483648, 2147483647), (-2147483648, 2147483647)], bST, bC (0) 1, bF [(1, 40), (1, 999), (0, 99), (1, 60), (0, 50), (-2147483648, 2147483647), (-2147483648, 2147483647), (0, 60), (0, 9)], bMW, bD, bD, bD, bC (0) 1, bC (0) 1, bD, bC (-4) 40, bC (0) 40, bD, bD, bC (0) 40, bC (-4) 2, bC (0) 40, bD]
def tw_b (c : Nat) : Nat → Int × Int := tw_bl.getD c bD
/-- every number is within its cell's bounds -/
def tw_I (σ : tw_M) : Prop := ∀ c j : Nat, (tw_b c j).1 ≤ σ c j ∧ σ c j ≤ (tw_b c j).2
/-- nothing has changed but where P says -/
def tw_F (P : Nat → Nat → Prop) (σ σ' : tw_M) : Prop := ∀ c j : Nat, ¬ P c j → σ' c j = σ c j
theorem tw_F_rf {P : Nat → Nat → Prop} {σ : tw_M} : tw_F P σ σ := fun _ _ _ => rfl
theorem tw_up_ne {σ : tw_M} {c j a b : Nat} {v : Int} (h : a ≠ c ∨ b ≠ j) : tw_up σ c j v a b = σ a b := by
  unfold tw_up
  rw [if_neg (fun q => by rcases h with h | h; exact h q.1; exact h q.2)]
theorem tw_ne1 {σ σ' : tw_M} {c j a b : Nat} {v : Int} (e : σ' = tw_up σ c j v) (h : a ≠ c ∨ b ≠ j) : σ' a b = σ a b := by rw [e, tw_up_ne h]
theorem tw_eq1 {σ σ' : tw_M} {c j : Nat} {v : Int} (e : σ' = tw_up σ c j v) : σ' c j = v := by rw [e, tw_up_self]
theorem tw_eq2 {σ σ' : tw_M} {c j b : Nat} {v : Int} (e : σ' = tw_up σ c j v) (h : b = j) : σ' c b = v := by rw [e, h, tw_up_self]
theorem tw_F_up {P : Nat → Nat → Prop} {σ σ1 σ2 : tw_M} {c j : Nat} {v : Int} (h : tw_F P σ σ1) (e : σ2 = tw_up σ1 c j v) (hP : P c j) : tw_F P σ σ2 := by
  intro a b hn
  rw [tw_ne1 e (by by_cases h1 : a = c; by_cases h2 : b = j; subst h1; subst h2; exact absurd hP hn; exact Or.inr h2; exact Or.inl h1)]
  exact h a b hn
theorem tw_F_tr {P P2 : Nat → Nat → Prop} {σ σ1 σ2 : tw_M} (h : tw_F P σ σ1) (h2 : tw_F P2 σ1 σ2) (hP : ∀ c j, P2 c j → P c j) : tw_F P σ σ2 := fun a b hn => (h2 a b (fun q => hn (hP a b q))).trans (h a b hn)
theorem tw_I_up {σ σ' : tw_M} {c j : Nat} {v : Int} (h : tw_I σ) (e : σ' = tw_up σ c j v) (hv : (tw_b c j).1 ≤ v ∧ v ≤ (tw_b c j).2) : tw_I σ' := by
  intro a b
  rw [e]
  by_cases q : a = c ∧ b = j
  · obtain ⟨rfl, rfl⟩ := q
    rw [tw_up_self]
    exact hv
  · unfold tw_up
    rw [if_neg q]
    exact h a b
theorem tw_I_upg {σ σ' : tw_M} {c j : Nat} {v : Int} {f : Nat → Int × Int} (h : tw_I σ) (e : σ' = tw_up σ c j v) (hb : tw_b c = f) (hv : (f j).1 ≤ v ∧ v ≤ (f j).2) : tw_I σ' := tw_I_up h e (by rw [hb]; exact hv)
theorem tw_Ig {σ : tw_M} {c : Nat} {f : Nat → Int × Int} (hb : tw_b c = f) (h : tw_I σ) (j : Nat) : (f j).1 ≤ σ c j ∧ σ c j ≤ (f j).2 := by rw [← hb]; exact h c j
/-- a name for what the numbers are now -/
theorem j_nm {G : tw_G} {M : tw_T} {E : List Frame → Array Value → State → State → Prop} {pc : Nat} {ls : List (Nat × tw_V)} {st : List tw_V} {σ : tw_M} (k : ∀ σ', σ' = σ → tw_J G M E pc ls st σ') : tw_J G M E pc ls st σ := k σ rfl
theorem j_st {G : tw_G} {M : tw_T} {E : List Frame → Array Value → State → State → Prop} {pc : Nat} {ls : List (Nat × tw_V)} {st st' : List tw_V} {σ : tw_M} (h : st = st') (k : tw_J G M E pc ls st' σ) : tw_J G M E pc ls st σ := by rw [h]; exact k
/-- the number on top by another name -/
theorem j_topV {G : tw_G} {M : tw_T} {E : List Frame → Array Value → State → State → Prop} {pc : Nat} {ls : List (Nat × tw_V)} {st : List tw_V} {σ : tw_M} {a b : Int} (h : a = b) (k : tw_J G M E pc ls (vI b :: st) σ) : tw_J G M E pc ls (vI a :: st) σ := by rw [h]; exact k
theorem tw_v_w32 {G : tw_G} (a : Int) : tw_v G (vI (tw_w32 a)) = tw_v G (vI a) := by show Value.int _ = Value.int _; rw [tw_w32, Int32.ofInt_toInt]
theorem tw_v_w64 {G : tw_G} (a : Int) : tw_v G (vL (tw_w64 a)) = tw_v G (vL a) := by show Value.long _ = Value.long _; rw [tw_w64, Int64.ofInt_toInt]
/-- the number on top, brought within the machine's -/
theorem j_top {G : tw_G} {M : tw_T} {E : List Frame → Array Value → State → State → Prop} {pc : Nat} {ls : List (Nat × tw_V)} {st : List tw_V} {σ : tw_M} {a : Int} (k : ∀ z : Int, z = tw_w32 a → -2147483648 ≤ z ∧ z ≤ 2147483647 → tw_J G M E pc ls (vI z :: st) σ) : tw_J G M E pc ls (vI a :: st) σ := by
  intro p e s m args below meth c H locs la X hP hS hl
  have h := k _ rfl (w32_in a) p e s m args below meth c H locs la X hP hS hl
  rw [List.map_cons, tw_v_w32] at h
  exact h
theorem j_topL {G : tw_G} {M : tw_T} {E : List Frame → Array Value → State → State → Prop} {pc : Nat} {ls : List (Nat × tw_V)} {st : List tw_V} {σ : tw_M} {a : Int} (k : ∀ z : Int, z = tw_w64 a → -9223372036854775808 ≤ z ∧ z ≤ 9223372036854775807 → tw_J G M E pc ls (vL z :: st) σ) : tw_J G M E pc ls (vL a :: st) σ := by
  intro p e s m args below meth c H locs la X hP hS hl
  have h := k _ rfl (w64_in a) p e s m args below meth c H locs la X hP hS hl
  rw [List.map_cons, tw_v_w64] at h
  exact h
theorem and_in (a b : Int) : -2147483648 ≤ tw_and a b ∧ tw_and a b ≤ 2147483647 := i32_in _
theorem or_in (a b : Int) : -2147483648 ≤ tw_or a b ∧ tw_or a b ≤ 2147483647 := i32_in _
theorem xor_in (a b : Int) : -2147483648 ≤ tw_xor a b ∧ tw_xor a b ≤ 2147483647 := i32_in _
theorem div_in (a b : Int) : -2147483648 ≤ tw_div a b ∧ tw_div a b ≤ 2147483647 := i32_in _
theorem rem_in (a b : Int) : -2147483648 ≤ tw_rem a b ∧ tw_rem a b ≤ 2147483647 := i32_in _
theorem shl_in (a b : Int) : -2147483648 ≤ tw_shl a b ∧ tw_shl a b ≤ 2147483647 := i32_in _
theorem shr_in (a b : Int) : -2147483648 ≤ tw_shr a b ∧ tw_shr a b ≤ 2147483647 := i32_in _
theorem ushr_in (a b : Int) : -2147483648 ≤ tw_ushr a b ∧ tw_ushr a b ≤ 2147483647 := i32_in _
theorem l2i_in (a : Int) : -2147483648 ≤ tw_l2i a ∧ tw_l2i a ≤ 2147483647 := i32_in _
theorem i2s_in (a : Int) : -32768 ≤ tw_i2s a ∧ tw_i2s a ≤ 32767 := by
  have e : tw_i2s a = (Int32.ofInt a).toInt16.toInt := by simp [tw_i2s]
  rw [e]
  have h1 := ((Int32.ofInt a).toInt16).le_toInt
  have h2 := ((Int32.ofInt a).toInt16).toInt_lt
  omega
theorem i2b_in (a : Int) : -128 ≤ tw_i2b a ∧ tw_i2b a ≤ 127 := by
  have e : tw_i2b a = (Int32.ofInt a).toInt8.toInt := by simp [tw_i2b]
  rw [e]
  have h1 := ((Int32.ofInt a).toInt8).le_toInt
  have h2 := ((Int32.ofInt a).toInt8).toInt_lt
  omega
theorem landL_in (a b : Int) : -9223372036854775808 ≤ tw_landL a b ∧ tw_landL a b ≤ 9223372036854775807 := i64_in _
theorem lorL_in (a b : Int) : -9223372036854775808 ≤ tw_lorL a b ∧ tw_lorL a b ≤ 9223372036854775807 := i64_in _
theorem ldivL_in (a b : Int) : -9223372036854775808 ≤ tw_ldivL a b ∧ tw_ldivL a b ≤ 9223372036854775807 := i64_in _
theorem lremL_in (a b : Int) : -9223372036854775808 ≤ tw_lremL a b ∧ tw_lremL a b ≤ 9223372036854775807 := i64_in _
theorem lshlL_in (a b : Int) : -9223372036854775808 ≤ tw_lshlL a b ∧ tw_lshlL a b ≤ 9223372036854775807 := i64_in _
theorem lshrL_in (a b : Int) : -9223372036854775808 ≤ tw_lshrL a b ∧ tw_lshrL a b ≤ 9223372036854775807 := i64_in _
theorem lushrL_in (a b : Int) : -9223372036854775808 ≤ tw_lushrL a b ∧ tw_lushrL a b ≤ 9223372036854775807 := i64_in _
theorem tw_cmp_eq {a b : Int} (ha : -9223372036854775808 ≤ a ∧ a ≤ 9223372036854775807) (hb : -9223372036854775808 ≤ b ∧ b ≤ 9223372036854775807) : (tw_cmp a b = 1 ∧ b < a) ∨ (tw_cmp a b = 0 ∧ a = b) ∨ (tw_cmp a b = -1 ∧ a < b) := by
  have ea : (Int64.ofInt a).toInt = a := w64_eq ha.1 ha.2
  have eb : (Int64.ofInt b).toInt = b := w64_eq hb.1 hb.2
  unfold tw_cmp lg_cmp
  by_cases h1 : Int64.ofInt a > Int64.ofInt b
  · have h2 : (Int64.ofInt b).toInt < (Int64.ofInt a).toInt := Int64.lt_iff_toInt_lt.mp h1
    rw [if_pos h1]
    exact Or.inl ⟨by decide, by omega⟩
  · have h2 : ¬ (Int64.ofInt b).toInt < (Int64.ofInt a).toInt := fun q => h1 (Int64.lt_iff_toInt_lt.mpr q)
    rw [if_neg h1]
    by_cases h3 : Int64.ofInt a = Int64.ofInt b
    · rw [if_pos h3]
      have h4 : (Int64.ofInt a).toInt = (Int64.ofInt b).toInt := by rw [h3]
      exact Or.inr (Or.inl ⟨by decide, by omega⟩)
    · rw [if_neg h3]
      have h4 : ¬ (Int64.ofInt a).toInt = (Int64.ofInt b).toInt := fun q => h3 (Int64.toInt_inj.mp q)
      exact Or.inr (Or.inr ⟨by decide, by omega⟩)
theorem tw_max_eq {a b z : Int} (ha : -2147483648 ≤ a ∧ a ≤ 2147483647) (hb : -2147483648 ≤ b ∧ b ≤ 2147483647) (h : z = (if tw_w32 a < tw_w32 b then b else a)) : a ≤ z ∧ b ≤ z ∧ (z = a ∨ z = b) := by
  rw [w32_eq ha.1 ha.2, w32_eq hb.1 hb.2] at h
  split at h <;> omega
theorem tw_min_eq {a b z : Int} (ha : -2147483648 ≤ a ∧ a ≤ 2147483647) (hb : -2147483648 ≤ b ∧ b ≤ 2147483647) (h : z = (if tw_w32 b < tw_w32 a then b else a)) : z ≤ a ∧ z ≤ b ∧ (z = a ∨ z = b) := by
  rw [w32_eq ha.1 ha.2, w32_eq hb.1 hb.2] at h
  split at h <;> omega
theorem tw_abs_eq {a z : Int} (ha : -2147483648 ≤ a ∧ a ≤ 2147483647) (h : z = (if 0 ≤ tw_w32 a then a else -a)) : (0 ≤ a ∧ z = a) ∨ (a < 0 ∧ z = -a) := by
  rw [w32_eq ha.1 ha.2] at h
  split at h <;> omega
theorem tw_nz {a : Int} (h1 : -2147483648 ≤ a ∧ a ≤ 2147483647) (h : a ≠ 0) : ¬ tw_w32 a = 0 := by rw [w32_eq h1.1 h1.2]; exact h
theorem tw_nzL {a : Int} (h1 : -9223372036854775808 ≤ a ∧ a ≤ 9223372036854775807) (h : a ≠ 0) : ¬ tw_w64 a = 0 := by rw [w64_eq h1.1 h1.2]; exact h
def IsWall (G : tw_G) (o : Nat) : Prop := (tw_at G (o) 10 [o + 3, o + 4, o + 5, o + 6, o + 7, o + 8, o + 9, o + 10] ∧ tw_ar G (o + 1) .int 9 ∧ tw_ar G (o + 2) .int 11 ∧ tw_ar G (o + 3) .int 41 ∧ tw_ar G (o + 4) .int 41 ∧ tw_ar G (o + 5) .int 41 ∧ tw_ar G (o + 6) .int 41 ∧ tw_ar G (o + 7) .int 41 ∧ tw_ar G (o + 8) .int 41) ∧ (tw_b (o) = bF [(-2147483648, 2147483647), (-2147483648, 2147483647), (-2147483648, 2147483647), (-2147483648, 2147483647), (-2147483648, 2147483647), (-2147483648, 2147483647), (-2147483648, 2147483647), (-2147483648, 2147483647)] ∧ tw_b (o + 1) = bF [(1, 40), (1, 999), (0, 99), (1, 60), (0, 50), (0, 20), (0, 20), (0, 60), (0, 9)] ∧ tw_b (o + 2) = bC (0) 5 ∧ tw_b (o + 3) = bC (0) 9 ∧ tw_b (o + 4) = bC (0) 10 ∧ tw_b (o + 5) = bC (0) 1 ∧ tw_b (o + 6) = bC (0) 1 ∧ tw_b (o + 7) = bC (0) 9 ∧ tw_b (o + 8) = bC (0) 40)
def IsRow (G : tw_G) (o : Nat) : Prop := (tw_at G (o) 7 [0, o + 3, o + 4, o + 5] ∧ tw_ar G (o + 1) .int 10 ∧ tw_ar G (o + 2) .int 10 ∧ tw_ar G (o + 3) .int 10) ∧ (tw_b (o) = bF [(0, 10), (-2147483648, 2147483647), (-2147483648, 2147483647), (-2147483648, 2147483647)] ∧ tw_b (o + 1) = bC (0) 40 ∧ tw_b (o + 2) = bC (0) 10 ∧ tw_b (o + 3) = bC (0) 1)
def IsHand (G : tw_G) (o : Nat) : Prop := (tw_at G (o) 3 [o + 3, o + 7, o + 8, o + 9, 0, 0, 0] ∧ tw_at G (o + 1) 7 [0, o + 4, o + 5, o + 6] ∧ tw_ar G (o + 2) .int 10 ∧ tw_ar G (o + 3) .int 10 ∧ tw_ar G (o + 4) .int 10 ∧ tw_ar G (o + 5) .int 11 ∧ tw_ar G (o + 6) .int 2 ∧ tw_ar G (o + 7) .int 2) ∧ (tw_b (o) = bF [(-2147483648, 2147483647), (-2147483648, 2147483647), (-2147483648, 2147483647), (-2147483648, 2147483647), (-2147483648, 2147483647), (-2147483648, 2147483647), (0, 1)] ∧ tw_b (o + 1) = bF [(0, 10), (-2147483648, 2147483647), (-2147483648, 2147483647), (-2147483648, 2147483647)] ∧ tw_b (o + 2) = bC (0) 40 ∧ tw_b (o + 3) = bC (0) 10 ∧ tw_b (o + 4) = bC (0) 1 ∧ tw_b (o + 5) = bD ∧ tw_b (o + 6) = bC (0) 999 ∧ tw_b (o + 7) = bD)
def IsFall (G : tw_G) (o : Nat) : Prop := (tw_at G (o) 2 [0, 0, 0, 0, 0, 0]) ∧ (tw_b (o) = bF [(-2147483648, 2147483647), (-2147483648, 2147483647), (-2147483648, 2147483647), (-2147483648, 2147483647), (-2147483648, 2147483647), (-2147483648, 2147483647)])
def IsSheet (G : tw_G) (o : Nat) : Prop := (tw_at G (o) 8 [o + 3, 0, 0, 0] ∧ tw_ar G (o + 1) .int 40) ∧ (tw_b (o) = bF [(-2147483648, 2147483647), (0, 1), (-2147483648, 2147483647), (0, 40)] ∧ tw_b (o + 1) = bD)
theorem hand_row {G : tw_G} {o : Nat} (h : IsHand G o) : IsRow G (o + 1) := ⟨⟨h.1.2.1, h.1.2.2.1, h.1.2.2.2.1, h.1.2.2.2.2.1⟩, ⟨h.2.2.1, h.2.2.2.1, h.2.2.2.2.1, h.2.2.2.2.2.1⟩⟩
def tw_isX (G : tw_G) : Prop := (∀ k, k < 88 → k ∈ gks G) ∧ (gca G .int, FieldType.int) ∈ gty G ∧ (gca G .byte, FieldType.byte) ∈ gty G ∧ (gca G .boolean, FieldType.boolean) ∈ gty G ∧ (gca G (.object RX8), FieldType.object RX8) ∈ gty G
def tw_isM (G : tw_G) : Prop := (∀ k, 88 ≤ k → k < 107 → k ∈ gks G) ∧ (gca G .int, FieldType.int) ∈ gty G ∧ (gca G .boolean, FieldType.boolean) ∈ gty G
theorem a_0 {G : tw_G} (h : tw_isX G) : tw_at G 0 11 [3, 12, 25, 33, 41, 49, 57, 58, 60, 62, 73, 78, 81, 0, 0] := ⟨h.1 0 (by decide), rfl⟩
theorem a_1 {G : tw_G} (h : tw_isX G) : tw_at G 1 10 [4, 5, 6, 7, 8, 9, 10, 11] := ⟨h.1 1 (by decide), rfl⟩
theorem a_2 {G : tw_G} (h : tw_isX G) : tw_ar G 2 .int 9 := ⟨h.1 2 (by decide), rfl, h.2.1⟩
theorem a_3 {G : tw_G} (h : tw_isX G) : tw_ar G 3 .int 11 := ⟨h.1 3 (by decide), rfl, h.2.1⟩
theorem a_4 {G : tw_G} (h : tw_isX G) : tw_ar G 4 .int 41 := ⟨h.1 4 (by decide), rfl, h.2.1⟩
theorem a_5 {G : tw_G} (h : tw_isX G) : tw_ar G 5 .int 41 := ⟨h.1 5 (by decide), rfl, h.2.1⟩
theorem a_6 {G : tw_G} (h : tw_isX G) : tw_ar G 6 .int 41 := ⟨h.1 6 (by decide), rfl, h.2.1⟩
theorem a_7 {G : tw_G} (h : tw_isX G) : tw_ar G 7 .int 41 := ⟨h.1 7 (by decide), rfl, h.2.1⟩
theorem a_8 {G : tw_G} (h : tw_isX G) : tw_ar G 8 .int 41 := ⟨h.1 8 (by decide), rfl, h.2.1⟩
theorem a_9 {G : tw_G} (h : tw_isX G) : tw_ar G 9 .int 41 := ⟨h.1 9 (by decide), rfl, h.2.1⟩
theorem a_10 {G : tw_G} (h : tw_isX G) : tw_at G 10 9 [13, 14, 15, 0, 0, 0, 0, 0, 0, 16, 0, 0, 0, 0] := ⟨h.1 10 (by decide), rfl⟩
theorem a_11 {G : tw_G} (h : tw_isX G) : tw_ar G 11 .byte 400 := ⟨h.1 11 (by decide), rfl, h.2.2.1⟩
theorem a_12 {G : tw_G} (h : tw_isX G) : tw_ar G 12 .boolean 41 := ⟨h.1 12 (by decide), rfl, h.2.2.2.1⟩
theorem a_13 {G : tw_G} (h : tw_isX G) : tw_ar G 13 .boolean 11 := ⟨h.1 13 (by decide), rfl, h.2.2.2.1⟩
theorem a_14 {G : tw_G} (h : tw_isX G) : tw_at G 14 10 [17, 18, 19, 20, 21, 22, 23, 24] := ⟨h.1 14 (by decide), rfl⟩
theorem a_15 {G : tw_G} (h : tw_isX G) : tw_ar G 15 .int 9 := ⟨h.1 15 (by decide), rfl, h.2.1⟩
theorem a_16 {G : tw_G} (h : tw_isX G) : tw_ar G 16 .int 11 := ⟨h.1 16 (by decide), rfl, h.2.1⟩
theorem a_17 {G : tw_G} (h : tw_isX G) : tw_ar G 17 .int 41 := ⟨h.1 17 (by decide), rfl, h.2.1⟩
theorem a_18 {G : tw_G} (h : tw_isX G) : tw_ar G 18 .int 41 := ⟨h.1 18 (by decide), rfl, h.2.1⟩
theorem a_19 {G : tw_G} (h : tw_isX G) : tw_ar G 19 .int 41 := ⟨h.1 19 (by decide), rfl, h.2.1⟩
theorem a_20 {G : tw_G} (h : tw_isX G) : tw_ar G 20 .int 41 := ⟨h.1 20 (by decide), rfl, h.2.1⟩
theorem a_21 {G : tw_G} (h : tw_isX G) : tw_ar G 21 .int 41 := ⟨h.1 21 (by decide), rfl, h.2.1⟩
theorem a_22 {G : tw_G} (h : tw_isX G) : tw_ar G 22 .int 41 := ⟨h.1 22 (by decide), rfl, h.2.1⟩
theorem a_23 {G : tw_G} (h : tw_isX G) : tw_at G 23 3 [26, 30, 31, 32, 0, 0, 0] := ⟨h.1 23 (by decide), rfl⟩
theorem a_24 {G : tw_G} (h : tw_isX G) : tw_at G 24 7 [0, 27, 28, 29] := ⟨h.1 24 (by decide), rfl⟩
theorem a_25 {G : tw_G} (h : tw_isX G) : tw_ar G 25 .int 10 := ⟨h.1 25 (by decide), rfl, h.2.1⟩
theorem a_26 {G : tw_G} (h : tw_isX G) : tw_ar G 26 .int 10 := ⟨h.1 26 (by decide), rfl, h.2.1⟩
theorem a_27 {G : tw_G} (h : tw_isX G) : tw_ar G 27 .int 10 := ⟨h.1 27 (by decide), rfl, h.2.1⟩
theorem a_28 {G : tw_G} (h : tw_isX G) : tw_ar G 28 .int 11 := ⟨h.1 28 (by decide), rfl, h.2.1⟩
theorem a_29 {G : tw_G} (h : tw_isX G) : tw_ar G 29 .int 2 := ⟨h.1 29 (by decide), rfl, h.2.1⟩
theorem a_30 {G : tw_G} (h : tw_isX G) : tw_ar G 30 .int 2 := ⟨h.1 30 (by decide), rfl, h.2.1⟩
theorem a_31 {G : tw_G} (h : tw_isX G) : tw_at G 31 3 [34, 38, 39, 40, 0, 0, 0] := ⟨h.1 31 (by decide), rfl⟩
theorem a_32 {G : tw_G} (h : tw_isX G) : tw_at G 32 7 [0, 35, 36, 37] := ⟨h.1 32 (by decide), rfl⟩
theorem a_33 {G : tw_G} (h : tw_isX G) : tw_ar G 33 .int 10 := ⟨h.1 33 (by decide), rfl, h.2.1⟩
theorem a_34 {G : tw_G} (h : tw_isX G) : tw_ar G 34 .int 10 := ⟨h.1 34 (by decide), rfl, h.2.1⟩
theorem a_35 {G : tw_G} (h : tw_isX G) : tw_ar G 35 .int 10 := ⟨h.1 35 (by decide), rfl, h.2.1⟩
theorem a_36 {G : tw_G} (h : tw_isX G) : tw_ar G 36 .int 11 := ⟨h.1 36 (by decide), rfl, h.2.1⟩
theorem a_37 {G : tw_G} (h : tw_isX G) : tw_ar G 37 .int 2 := ⟨h.1 37 (by decide), rfl, h.2.1⟩
theorem a_38 {G : tw_G} (h : tw_isX G) : tw_ar G 38 .int 2 := ⟨h.1 38 (by decide), rfl, h.2.1⟩
theorem a_39 {G : tw_G} (h : tw_isX G) : tw_at G 39 3 [42, 46, 47, 48, 0, 0, 0] := ⟨h.1 39 (by decide), rfl⟩
theorem a_40 {G : tw_G} (h : tw_isX G) : tw_at G 40 7 [0, 43, 44, 45] := ⟨h.1 40 (by decide), rfl⟩
theorem a_41 {G : tw_G} (h : tw_isX G) : tw_ar G 41 .int 10 := ⟨h.1 41 (by decide), rfl, h.2.1⟩
theorem a_42 {G : tw_G} (h : tw_isX G) : tw_ar G 42 .int 10 := ⟨h.1 42 (by decide), rfl, h.2.1⟩
theorem a_43 {G : tw_G} (h : tw_isX G) : tw_ar G 43 .int 10 := ⟨h.1 43 (by decide), rfl, h.2.1⟩
theorem a_44 {G : tw_G} (h : tw_isX G) : tw_ar G 44 .int 11 := ⟨h.1 44 (by decide), rfl, h.2.1⟩
theorem a_45 {G : tw_G} (h : tw_isX G) : tw_ar G 45 .int 2 := ⟨h.1 45 (by decide), rfl, h.2.1⟩
theorem a_46 {G : tw_G} (h : tw_isX G) : tw_ar G 46 .int 2 := ⟨h.1 46 (by decide), rfl, h.2.1⟩
theorem a_47 {G : tw_G} (h : tw_isX G) : tw_at G 47 3 [50, 54, 55, 56, 0, 0, 0] := ⟨h.1 47 (by decide), rfl⟩
theorem a_48 {G : tw_G} (h : tw_isX G) : tw_at G 48 7 [0, 51, 52, 53] := ⟨h.1 48 (by decide), rfl⟩
theorem a_49 {G : tw_G} (h : tw_isX G) : tw_ar G 49 .int 10 := ⟨h.1 49 (by decide), rfl, h.2.1⟩
theorem a_50 {G : tw_G} (h : tw_isX G) : tw_ar G 50 .int 10 := ⟨h.1 50 (by decide), rfl, h.2.1⟩
theorem a_51 {G : tw_G} (h : tw_isX G) : tw_ar G 51 .int 10 := ⟨h.1 51 (by decide), rfl, h.2.1⟩
theorem a_52 {G : tw_G} (h : tw_isX G) : tw_ar G 52 .int 11 := ⟨h.1 52 (by decide), rfl, h.2.1⟩
theorem a_53 {G : tw_G} (h : tw_isX G) : tw_ar G 53 .int 2 := ⟨h.1 53 (by decide), rfl, h.2.1⟩
theorem a_54 {G : tw_G} (h : tw_isX G) : tw_ar G 54 .int 2 := ⟨h.1 54 (by decide), rfl, h.2.1⟩
theorem a_55 {G : tw_G} (h : tw_isX G) : tw_at G 55 2 [0, 0, 0, 0, 0, 0] := ⟨h.1 55 (by decide), rfl⟩
theorem a_56 {G : tw_G} (h : tw_isX G) : tw_at G 56 4 [3, 59, 0, 0, 0, 0] := ⟨h.1 56 (by decide), rfl⟩
theorem a_57 {G : tw_G} (h : tw_isX G) : tw_at G 57 2 [0, 0, 0, 0, 0, 0] := ⟨h.1 57 (by decide), rfl⟩
theorem a_58 {G : tw_G} (h : tw_isX G) : tw_at G 58 1 [3, 61, 1, 1] := ⟨h.1 58 (by decide), rfl⟩
theorem a_59 {G : tw_G} (h : tw_isX G) : tw_at G 59 2 [0, 0, 0, 0, 0, 0] := ⟨h.1 59 (by decide), rfl⟩
theorem a_60 {G : tw_G} (h : tw_isX G) : tw_at G 60 5 [3, 58, 63, 67, 68, 0, 0, 0, 0, 69, 0, 0, 0, 0] := ⟨h.1 60 (by decide), rfl⟩
theorem a_61 {G : tw_G} (h : tw_isX G) : tw_at G 61 7 [0, 64, 65, 66] := ⟨h.1 61 (by decide), rfl⟩
theorem a_62 {G : tw_G} (h : tw_isX G) : tw_ar G 62 .int 10 := ⟨h.1 62 (by decide), rfl, h.2.1⟩
theorem a_63 {G : tw_G} (h : tw_isX G) : tw_ar G 63 .int 10 := ⟨h.1 63 (by decide), rfl, h.2.1⟩
theorem a_64 {G : tw_G} (h : tw_isX G) : tw_ar G 64 .int 10 := ⟨h.1 64 (by decide), rfl, h.2.1⟩
theorem a_65 {G : tw_G} (h : tw_isX G) : tw_ar G 65 .int 11 := ⟨h.1 65 (by decide), rfl, h.2.1⟩
theorem a_66 {G : tw_G} (h : tw_isX G) : tw_ar G 66 .int 10 := ⟨h.1 66 (by decide), rfl, h.2.1⟩
theorem a_67 {G : tw_G} (h : tw_isX G) : tw_at G 67 7 [0, 70, 71, 72] := ⟨h.1 67 (by decide), rfl⟩
theorem a_68 {G : tw_G} (h : tw_isX G) : tw_ar G 68 .int 10 := ⟨h.1 68 (by decide), rfl, h.2.1⟩
theorem a_69 {G : tw_G} (h : tw_isX G) : tw_ar G 69 .int 10 := ⟨h.1 69 (by decide), rfl, h.2.1⟩
theorem a_70 {G : tw_G} (h : tw_isX G) : tw_ar G 70 .int 10 := ⟨h.1 70 (by decide), rfl, h.2.1⟩
theorem a_71 {G : tw_G} (h : tw_isX G) : tw_at G 71 6 [3, 0, 74, 75, 76, 77, 0, 0] := ⟨h.1 71 (by decide), rfl⟩
theorem a_72 {G : tw_G} (h : tw_isX G) : tw_ar G 72 .int 41 := ⟨h.1 72 (by decide), rfl, h.2.1⟩
theorem a_73 {G : tw_G} (h : tw_isX G) : tw_ar G 73 .int 41 := ⟨h.1 73 (by decide), rfl, h.2.1⟩
theorem a_74 {G : tw_G} (h : tw_isX G) : tw_ar G 74 .int 40 := ⟨h.1 74 (by decide), rfl, h.2.1⟩
theorem a_75 {G : tw_G} (h : tw_isX G) : tw_ar G 75 .int 40 := ⟨h.1 75 (by decide), rfl, h.2.1⟩
theorem a_76 {G : tw_G} (h : tw_isX G) : tw_at G 76 0 [3, 0, 79, 80, 0, 0] := ⟨h.1 76 (by decide), rfl⟩
theorem a_77 {G : tw_G} (h : tw_isX G) : tw_ar G 77 .int 41 := ⟨h.1 77 (by decide), rfl, h.2.1⟩
theorem a_78 {G : tw_G} (h : tw_isX G) : tw_ar G 78 .int 40 := ⟨h.1 78 (by decide), rfl, h.2.1⟩
theorem a_79 {G : tw_G} (h : tw_isX G) : tw_sr G 79 [80, 82, 84, 86] := ⟨h.1 79 (by decide), rfl, h.2.2.2.2⟩
theorem a_80 {G : tw_G} (h : tw_isX G) : tw_at G 80 8 [83, 0, 0, 0] := ⟨h.1 80 (by decide), rfl⟩
theorem a_81 {G : tw_G} (h : tw_isX G) : tw_ar G 81 .int 40 := ⟨h.1 81 (by decide), rfl, h.2.1⟩
theorem a_82 {G : tw_G} (h : tw_isX G) : tw_at G 82 8 [85, 0, 0, 0] := ⟨h.1 82 (by decide), rfl⟩
theorem a_83 {G : tw_G} (h : tw_isX G) : tw_ar G 83 .int 40 := ⟨h.1 83 (by decide), rfl, h.2.1⟩
theorem a_84 {G : tw_G} (h : tw_isX G) : tw_at G 84 8 [87, 0, 0, 0] := ⟨h.1 84 (by decide), rfl⟩
theorem a_85 {G : tw_G} (h : tw_isX G) : tw_ar G 85 .int 40 := ⟨h.1 85 (by decide), rfl, h.2.1⟩
theorem a_86 {G : tw_G} (h : tw_isX G) : tw_at G 86 8 [89, 0, 0, 0] := ⟨h.1 86 (by decide), rfl⟩
theorem a_87 {G : tw_G} (h : tw_isX G) : tw_ar G 87 .int 40 := ⟨h.1 87 (by decide), rfl, h.2.1⟩
theorem a_88 {G : tw_G} (h : tw_isM G) : tw_at G 88 12 [91, 92, 93, 94, 95, 96, 97, 98, 99, 0, 0, 100, 0, 0, 0, 0, 0, 0, 0, 0, 0, 0, 0, 0, 0, 0, 0, 0, 101, 102, 0, 103, 104, 105, 0, 106, 107, 108, 0] := ⟨h.1 88 (by decide) (by decide), rfl⟩
theorem a_89 {G : tw_G} (h : tw_isM G) : tw_ar G 89 .int 400 := ⟨h.1 89 (by decide) (by decide), rfl, h.2.1⟩
theorem a_90 {G : tw_G} (h : tw_isM G) : tw_ar G 90 .boolean 2 := ⟨h.1 90 (by decide) (by decide), rfl, h.2.2⟩
theorem a_91 {G : tw_G} (h : tw_isM G) : tw_ar G 91 .int 9 := ⟨h.1 91 (by decide) (by decide), rfl, h.2.1⟩
theorem a_92 {G : tw_G} (h : tw_isM G) : tw_ar G 92 .int 205 := ⟨h.1 92 (by decide) (by decide), rfl, h.2.1⟩
theorem a_93 {G : tw_G} (h : tw_isM G) : tw_ar G 93 .int 9 := ⟨h.1 93 (by decide) (by decide), rfl, h.2.1⟩
theorem a_94 {G : tw_G} (h : tw_isM G) : tw_ar G 94 .int 205 := ⟨h.1 94 (by decide) (by decide), rfl, h.2.1⟩
theorem a_95 {G : tw_G} (h : tw_isM G) : tw_ar G 95 .int 11 := ⟨h.1 95 (by decide) (by decide), rfl, h.2.1⟩
theorem a_96 {G : tw_G} (h : tw_isM G) : tw_ar G 96 .boolean 41 := ⟨h.1 96 (by decide) (by decide), rfl, h.2.2⟩
theorem a_97 {G : tw_G} (h : tw_isM G) : tw_ar G 97 .boolean 11 := ⟨h.1 97 (by decide) (by decide), rfl, h.2.2⟩
theorem a_98 {G : tw_G} (h : tw_isM G) : tw_ar G 98 .int 400 := ⟨h.1 98 (by decide) (by decide), rfl, h.2.1⟩
theorem a_99 {G : tw_G} (h : tw_isM G) : tw_ar G 99 .int 41 := ⟨h.1 99 (by decide) (by decide), rfl, h.2.1⟩
theorem a_100 {G : tw_G} (h : tw_isM G) : tw_ar G 100 .int 41 := ⟨h.1 100 (by decide) (by decide), rfl, h.2.1⟩
theorem a_101 {G : tw_G} (h : tw_isM G) : tw_ar G 101 .int 41 := ⟨h.1 101 (by decide) (by decide), rfl, h.2.1⟩
theorem a_102 {G : tw_G} (h : tw_isM G) : tw_ar G 102 .int 41 := ⟨h.1 102 (by decide) (by decide), rfl, h.2.1⟩
theorem a_103 {G : tw_G} (h : tw_isM G) : tw_ar G 103 .int 40 := ⟨h.1 103 (by decide) (by decide), rfl, h.2.1⟩
theorem a_104 {G : tw_G} (h : tw_isM G) : tw_ar G 104 .int 4 := ⟨h.1 104 (by decide) (by decide), rfl, h.2.1⟩
theorem a_105 {G : tw_G} (h : tw_isM G) : tw_ar G 105 .int 4 := ⟨h.1 105 (by decide) (by decide), rfl, h.2.1⟩
theorem a_106 {G : tw_G} (h : tw_isM G) : tw_ar G 106 .int 160 := ⟨h.1 106 (by decide) (by decide), rfl, h.2.1⟩
theorem s_Wall_1 {G : tw_G} (h : tw_isX G) : IsWall G 1 := ⟨⟨a_1 h, a_2 h, a_3 h, a_4 h, a_5 h, a_6 h, a_7 h, a_8 h, a_9 h⟩, ⟨rfl, rfl, rfl, rfl, rfl, rfl, rfl, rfl, rfl⟩⟩
theorem s_Wall_14 {G : tw_G} (h : tw_isX G) : IsWall G 14 := ⟨⟨a_14 h, a_15 h, a_16 h, a_17 h, a_18 h, a_19 h, a_20 h, a_21 h, a_22 h⟩, ⟨rfl, rfl, rfl, rfl, rfl, rfl, rfl, rfl, rfl⟩⟩
theorem s_Hand_23 {G : tw_G} (h : tw_isX G) : IsHand G 23 := ⟨⟨a_23 h, a_24 h, a_25 h, a_26 h, a_27 h, a_28 h, a_29 h, a_30 h⟩, ⟨rfl, rfl, rfl, rfl, rfl, rfl, rfl, rfl⟩⟩
theorem s_Hand_31 {G : tw_G} (h : tw_isX G) : IsHand G 31 := ⟨⟨a_31 h, a_32 h, a_33 h, a_34 h, a_35 h, a_36 h, a_37 h, a_38 h⟩, ⟨rfl, rfl, rfl, rfl, rfl, rfl, rfl, rfl⟩⟩
theorem s_Hand_39 {G : tw_G} (h : tw_isX G) : IsHand G 39 := ⟨⟨a_39 h, a_40 h, a_41 h, a_42 h, a_43 h, a_44 h, a_45 h, a_46 h⟩, ⟨rfl, rfl, rfl, rfl, rfl, rfl, rfl, rfl⟩⟩
theorem s_Hand_47 {G : tw_G} (h : tw_isX G) : IsHand G 47 := ⟨⟨a_47 h, a_48 h, a_49 h, a_50 h, a_51 h, a_52 h, a_53 h, a_54 h⟩, ⟨rfl, rfl, rfl, rfl, rfl, rfl, rfl, rfl⟩⟩
theorem s_Row_24 {G : tw_G} (h : tw_isX G) : IsRow G 24 := ⟨⟨a_24 h, a_25 h, a_26 h, a_27 h⟩, ⟨rfl, rfl, rfl, rfl⟩⟩
theorem s_Row_32 {G : tw_G} (h : tw_isX G) : IsRow G 32 := ⟨⟨a_32 h, a_33 h, a_34 h, a_35 h⟩, ⟨rfl, rfl, rfl, rfl⟩⟩
theorem s_Row_40 {G : tw_G} (h : tw_isX G) : IsRow G 40 := ⟨⟨a_40 h, a_41 h, a_42 h, a_43 h⟩, ⟨rfl, rfl, rfl, rfl⟩⟩
theorem s_Row_48 {G : tw_G} (h : tw_isX G) : IsRow G 48 := ⟨⟨a_48 h, a_49 h, a_50 h, a_51 h⟩, ⟨rfl, rfl, rfl, rfl⟩⟩
theorem s_Row_61 {G : tw_G} (h : tw_isX G) : IsRow G 61 := ⟨⟨a_61 h, a_62 h, a_63 h, a_64 h⟩, ⟨rfl, rfl, rfl, rfl⟩⟩
theorem s_Row_67 {G : tw_G} (h : tw_isX G) : IsRow G 67 := ⟨⟨a_67 h, a_68 h, a_69 h, a_70 h⟩, ⟨rfl, rfl, rfl, rfl⟩⟩
theorem s_Fall_55 {G : tw_G} (h : tw_isX G) : IsFall G 55 := ⟨a_55 h, rfl⟩
theorem s_Fall_57 {G : tw_G} (h : tw_isX G) : IsFall G 57 := ⟨a_57 h, rfl⟩
theorem s_Fall_59 {G : tw_G} (h : tw_isX G) : IsFall G 59 := ⟨a_59 h, rfl⟩
theorem s_Sheet_80 {G : tw_G} (h : tw_isX G) : IsSheet G 80 := ⟨⟨a_80 h, a_81 h⟩, ⟨rfl, rfl⟩⟩
theorem s_Sheet_82 {G : tw_G} (h : tw_isX G) : IsSheet G 82 := ⟨⟨a_82 h, a_83 h⟩, ⟨rfl, rfl⟩⟩
theorem s_Sheet_84 {G : tw_G} (h : tw_isX G) : IsSheet G 84 := ⟨⟨a_84 h, a_85 h⟩, ⟨rfl, rfl⟩⟩
theorem s_Sheet_86 {G : tw_G} (h : tw_isX G) : IsSheet G 86 := ⟨⟨a_86 h, a_87 h⟩, ⟨rfl, rfl⟩⟩
