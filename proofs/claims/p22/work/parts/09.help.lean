/-! SMALL FACTS for the walks. -/
theorem j_topVL {G : tw_G} {M : tw_T} {E : List Frame → Array Value → State → State → Prop} {pc : Nat} {ls : List (Nat × tw_V)} {st : List tw_V} {σ : tw_M} {a b : Int} (h : a = b) (k : tw_J G M E pc ls (vL b :: st) σ) : tw_J G M E pc ls (vL a :: st) σ := by rw [h]; exact k
theorem nar_bool {a : Int} (h1 : 0 ≤ a) (h2 : a ≤ 1) : narrow .boolean (.int (Int32.ofInt a)) = .int (Int32.ofInt a) := by
  rcases (show a = 0 ∨ a = 1 by omega) with rfl | rfl <;> rfl
theorem nar_byte {a : Int} (h1 : -128 ≤ a) (h2 : a ≤ 127) : narrow .byte (.int (Int32.ofInt a)) = .int (Int32.ofInt a) := by
  have e : (Int32.ofInt a).toInt8.toInt32 = Int32.ofInt a := by
    apply Int32.toInt_inj.mp
    have h3 : (Int32.ofInt a).toInt = a := w32_eq (by omega) (by omega)
    rw [Int8.toInt_toInt32, Int32.toInt_toInt8, h3, Int.bmod_eq_of_le (by omega) (by omega)]
  show Value.int _ = Value.int _
  rw [e]
theorem nar_char {a : Int} (h1 : 0 ≤ a) (h2 : a ≤ 65535) : narrow .char (.int (Int32.ofInt a)) = .int (Int32.ofInt a) := by
  have e : Int32.ofInt a = nI a.toNat := by
    show Int32.ofInt a = Int32.ofInt (a.toNat : Int)
    rw [Int.toNat_of_nonneg h1]
  rw [e]
  exact (pk_charN (q := a.toNat) (by omega)).1
theorem div_pos_eq {a b : Int} (h1 : 0 ≤ a) (h2 : a ≤ 2147483647) (h3 : 0 < b) (h4 : b ≤ 2147483647) : tw_div a b = a / b := by
  have ea : (Int32.ofInt a).toInt = a := w32_eq (by omega) (by omega)
  have eb : (Int32.ofInt b).toInt = b := w32_eq (by omega) (by omega)
  unfold tw_div
  rw [Int32.toInt_div_of_ne_right _ _ (fun q => by have := congrArg Int32.toInt q; rw [eb] at this; have h9 : (-1 : Int32).toInt = -1 := by decide
                                                   omega), ea, eb, Int.tdiv_eq_ediv_of_nonneg h1]
theorem lrem_eq {a b : Int} (ha : -9223372036854775808 ≤ a ∧ a ≤ 9223372036854775807) (hb : -9223372036854775808 ≤ b ∧ b ≤ 9223372036854775807) (h : b ≠ 0) : tw_lremL a b = a.tmod b := by
  have ea : (Int64.ofInt a).toInt = a := w64_eq ha.1 ha.2
  have eb : (Int64.ofInt b).toInt = b := w64_eq hb.1 hb.2
  have e : Int64.ofInt a / Int64.ofInt b = Int64.ofInt (a.tdiv b) := by
    apply Int64.toInt_inj.mp
    rw [Int64.toInt_div, ea, eb, Int64.toInt_ofInt]
  have hn : (a.tmod b).natAbs < b.natAbs := by
    rw [Int.natAbs_tmod]
    exact Nat.mod_lt _ (by omega)
  unfold tw_lremL
  rw [e, ← Int64.ofInt_mul, ← Int64.ofInt_sub, show a - a.tdiv b * b = a.tmod b by rw [Int.tmod_def, Int.mul_comm]]
  exact w64_eq (by omega) (by omega)
theorem lrem_lt {a b : Int} (ha : -9223372036854775808 ≤ a ∧ a ≤ 9223372036854775807) (hb : -9223372036854775808 ≤ b ∧ b ≤ 9223372036854775807) (h : b ≠ 0) : (tw_lremL a b).natAbs < b.natAbs := by
  rw [lrem_eq ha hb h, Int.natAbs_tmod]
  exact Nat.mod_lt _ (by omega)
theorem st_D {σ : tw_M} (h : tw_I σ) (j : Nat) : -2147483648 ≤ σ 89 j ∧ σ 89 j ≤ 2147483647 := by
  have h1 : (bST j).1 ≤ σ 89 j ∧ σ 89 j ≤ (bST j).2 := h 89 j
  have h2 : -2147483648 ≤ (bST j).1 ∧ (bST j).2 ≤ 2147483647 := by
    unfold bST
    split
    · decide
    · split <;> decide
  omega
theorem mw_D {σ : tw_M} (h : tw_I σ) (j : Nat) : -2147483648 ≤ σ 92 j ∧ σ 92 j ≤ 2147483647 := by
  have h1 : (bMW j).1 ≤ σ 92 j ∧ σ 92 j ≤ (bMW j).2 := h 92 j
  have h2 : -2147483648 ≤ (bMW j).1 ∧ (bMW j).2 ≤ 2147483647 := by
    unfold bMW
    split
    · decide
    · split
      · decide
      · split <;> decide
  omega
theorem tw_llen_in {i : Nat} (h : i < tw_lit.length) : (tw_llen i : Int) ≤ 8 ∧ 0 ≤ (tw_llen i : Int) := by
  have h2 : ∀ j, j < 14 → tw_llen j ≤ 8 := by decide +kernel
  have h3 := h2 i h
  omega
theorem tw_lch_in (i j : Nat) : 0 ≤ tw_lch i j ∧ tw_lch i j ≤ 127 := by
  have h : ∀ l ∈ tw_lit, ∀ x ∈ l.2.2, 0 ≤ x.toInt ∧ x.toInt ≤ 127 := by decide +kernel
  unfold tw_lch
  by_cases hi : i < tw_lit.length
  · have e : ((tw_lit.map (fun q : Nat × String × List Int32 => q.2.2)).getD i []) = tw_lit[i].2.2 := by simp [List.getD, hi]
    rw [e]
    by_cases hj : j < tw_lit[i].2.2.length
    · have e2 : tw_lit[i].2.2.getD j 0 = tw_lit[i].2.2[j] := by simp [List.getD, hj]
      rw [e2]
      exact h _ (List.getElem_mem hi) _ (List.getElem_mem hj)
    · have e2 : tw_lit[i].2.2.getD j 0 = 0 := by simp [List.getD, hj]
      rw [e2]
      decide
  · have e : ((tw_lit.map (fun q : Nat × String × List Int32 => q.2.2)).getD i []) = [] := by simp [List.getD, hi]
    rw [e]
    simp
abbrev tw_RB : List (Int × Int) := [(1, 40), (1, 999), (0, 99), (1, 60), (0, 50), (0, 20), (0, 20), (0, 60), (0, 9)]
theorem first_in : ∀ j, j < 9 → (bF tw_RB j).1 ≤ (tw_first.getD j 0).toInt ∧ (tw_first.getD j 0).toInt ≤ (bF tw_RB j).2 := by decide +kernel
theorem rb_in : ∀ j, j < 9 → 0 ≤ (bF tw_RB j).1 ∧ (bF tw_RB j).2 ≤ 999 := by decide +kernel
theorem rb_D {j : Nat} {v : Int} (h : (bF tw_RB j).1 ≤ v ∧ v ≤ (bF tw_RB j).2) : -2147483648 ≤ v ∧ v ≤ 2147483647 := by
  by_cases hj : j < 9
  · have h1 := rb_in j hj
    omega
  · have e : bF tw_RB j = (-2147483648, 2147483647) := by simp [bF, tw_RB, List.getD, show 9 ≤ j by omega]
    rw [e] at h
    exact h
abbrev tw_RBM : List (Int × Int) := [(1, 40), (1, 999), (0, 99), (1, 60), (0, 50), (-2147483648, 2147483647), (-2147483648, 2147483647), (0, 60), (0, 9)]
theorem rbm_in : ∀ j, j < 9 → -2147483648 ≤ (bF tw_RBM j).1 ∧ (bF tw_RBM j).2 ≤ 2147483647 := by decide +kernel
theorem rbm_D {j : Nat} {v : Int} (h : (bF tw_RBM j).1 ≤ v ∧ v ≤ (bF tw_RBM j).2) : -2147483648 ≤ v ∧ v ≤ 2147483647 := by
  by_cases hj : j < 9
  · have h1 := rbm_in j hj
    omega
  · have e : bF tw_RBM j = (-2147483648, 2147483647) := by simp [bF, tw_RBM, List.getD, show 9 ≤ j by omega]
    rw [e] at h
    exact h
theorem shr0 {a b : Int} (hb : b = 0) (ha : -2147483648 ≤ a ∧ a ≤ 2147483647) : tw_shr a b = a := by
  subst hb
  have e : (Int32.ofInt a >>> (Int32.ofInt 0 &&& 31)) = Int32.ofInt a := by
    apply Int32.toInt_inj.mp
    rw [pk_shr _ _ 0 (by decide)]
    simp
  unfold tw_shr
  rw [e]
  exact w32_eq ha.1 ha.2
theorem and255 {a : Int} : 0 ≤ tw_and a 255 ∧ tw_and a 255 ≤ 255 := by
  have e : Int32.ofInt a &&& Int32.ofInt 255 = nI ((Int32.ofInt a).toBitVec.toNat % 2 ^ 8) := pk_and (Int32.ofInt a) (m := Int32.ofInt 255) 8 (by decide)
  unfold tw_and
  rw [e, nI_toInt (by omega)]
  omega
theorem and255_eq {a : Int} (h1 : 0 ≤ a) (h2 : a ≤ 255) : tw_and a 255 = a := by
  have ea : Int32.ofInt a = nI a.toNat := by
    show Int32.ofInt a = Int32.ofInt (a.toNat : Int)
    rw [Int.toNat_of_nonneg h1]
  unfold tw_and
  rw [ea, pk_andN (n := a.toNat) (by omega) (m := Int32.ofInt 255) 8 (by decide), nI_toInt (by omega)]
  omega
theorem i2c_eq {a : Int} (h1 : 0 ≤ a) (h2 : a ≤ 65535) : tw_i2c a = a := by
  have ea : Int32.ofInt a = nI a.toNat := by
    show Int32.ofInt a = Int32.ofInt (a.toNat : Int)
    rw [Int.toNat_of_nonneg h1]
  unfold tw_i2c
  rw [ea, pk_char, pk_tn (by omega), nI_toInt (by omega)]
  omega
theorem i2c_in (a : Int) : 0 ≤ tw_i2c a ∧ tw_i2c a ≤ 65535 := by
  unfold tw_i2c
  rw [pk_char, nI_toInt (by omega)]
  omega
theorem lm_in : ∀ j, j < 9 → (tw_least.getD j 0).toInt = (bF tw_RB j).1 ∧ (tw_most.getD j 0).toInt = (bF tw_RB j).2 := by decide +kernel
theorem lm_le : ∀ j, j < 9 → (tw_least.getD j 0).toInt ≤ (tw_most.getD j 0).toInt := by decide +kernel
theorem w32_or (a : Int) : a < -2147483648 ∨ 2147483647 < a ∨ tw_w32 a = a := by
  by_cases h1 : a < -2147483648
  · exact Or.inl h1
  · by_cases h2 : 2147483647 < a
    · exact Or.inr (Or.inl h2)
    · exact Or.inr (Or.inr (w32_eq (by omega) (by omega)))
theorem w64_or (a : Int) : a < -9223372036854775808 ∨ 9223372036854775807 < a ∨ tw_w64 a = a := by
  by_cases h1 : a < -9223372036854775808
  · exact Or.inl h1
  · by_cases h2 : 9223372036854775807 < a
    · exact Or.inr (Or.inl h2)
    · exact Or.inr (Or.inr (w64_eq (by omega) (by omega)))
