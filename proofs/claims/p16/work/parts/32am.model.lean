/-! 32am.model -/
theorem dX12_isSheet_0 : decode cX12_isSheet 0 = .ok (.iload_n 0, 1) := by decide +kernel
theorem dX12_isSheet_1 : decode cX12_isSheet 1 = .ok (.i2l, 1) := by decide +kernel
theorem dX12_isSheet_2 : decode cX12_isSheet 2 = .ok (.lconst 0, 1) := by decide +kernel
theorem dX12_isSheet_3 : decode cX12_isSheet 3 = .ok (.ldc2_w 375, 3) := by decide +kernel
theorem dX12_isSheet_6 : decode cX12_isSheet 6 = .ok (.invokestatic 82, 3) := by decide +kernel
theorem dX12_isSheet_9 : decode cX12_isSheet 9 = .ok (.ifCond .eq 19, 3) := by decide +kernel
theorem dX12_isSheet_12 : decode cX12_isSheet 12 = .ok (.iload_n 1, 1) := by decide +kernel
theorem dX12_isSheet_13 : decode cX12_isSheet 13 = .ok (.i2l, 1) := by decide +kernel
theorem dX12_isSheet_14 : decode cX12_isSheet 14 = .ok (.lconst 0, 1) := by decide +kernel
theorem dX12_isSheet_15 : decode cX12_isSheet 15 = .ok (.ldc2_w 312, 3) := by decide +kernel
theorem dX12_isSheet_18 : decode cX12_isSheet 18 = .ok (.invokestatic 82, 3) := by decide +kernel
theorem dX12_isSheet_21 : decode cX12_isSheet 21 = .ok (.ifCond .eq 7, 3) := by decide +kernel
theorem dX12_isSheet_24 : decode cX12_isSheet 24 = .ok (.iconst 1, 1) := by decide +kernel
theorem dX12_isSheet_25 : decode cX12_isSheet 25 = .ok (.goto 4, 3) := by decide +kernel
theorem dX12_isSheet_28 : decode cX12_isSheet 28 = .ok (.iconst 0, 1) := by decide +kernel
theorem dX12_isSheet_29 : decode cX12_isSheet 29 = .ok (.ireturn, 1) := by decide +kernel
abbrev q_X12_isSheet (k : Int) (l : Int) (σ : tw_M) : Option tw_V → tw_M → Prop := fun z τ => ∃ r : Int, z = some (vI r) ∧ (0 ≤ r ∧ r ≤ 1) ∧ σ = τ ∧ ((r = 1 ∧ 0 ≤ k ∧ k ≤ 3 ∧ 0 ≤ l ∧ l ≤ 2) ∨ (r = 0 ∧ ¬ (0 ≤ k ∧ k ≤ 3 ∧ 0 ≤ l ∧ l ≤ 2)))
set_option maxHeartbeats 4000000 in
set_option maxRecDepth 100000 in
theorem c_X12_isSheet {G : tw_G} (k : Int) (hk : -2147483648 ≤ k ∧ k ≤ 2147483647) (l : Int) (hl : -2147483648 ≤ l ∧ l ≤ 2147483647) (σ : tw_M) (hI : tw_I σ) : tw_C G yX12_isSheet cX12_isSheet 2 (some .boolean) 1 [vI k, vI l] σ (q_X12_isSheet k l σ) := by
  refine tw_met [(0, vI k), (1, vI l)] (by decide +kernel) rfl (Nat.le_of_ble_eq_true rfl) ?_
  refine j_iload_n (pc := 0) dX12_isSheet_0 rfl rfl ?_
  refine j_i2l (pc := 1) dX12_isSheet_1 ?_
  rw [w32_eq (a := k) (by omega) (by omega)]
  refine j_lconst (pc := 2) (z := 0) dX12_isSheet_2 rfl ?_
  refine j_ldc2 (pc := 3) (z := 3) dX12_isSheet_3 (tw_inc tm_8 (i := 40) rfl rfl) ?_
  refine j_callS (pc := 6) (As := [vL k, vL 0, vL 3]) (st := []) (c_X12_in k ⟨by omega, by omega⟩ 0 (by (first | decide | exact ⟨by omega, by omega⟩)) 3 (by (first | decide | exact ⟨by omega, by omega⟩)) σ hI) ms_X12_82 rfl dX12_isSheet_6 ⟨Nat.le_of_ble_eq_true rfl, Nat.le_of_ble_eq_true rfl⟩ ⟨Nat.le_refl _, Nat.le_refl _⟩ rfl (Nat.le_of_ble_eq_true rfl) rfl (fun z1 σ2 hz1 => ?_)
  obtain ⟨r4, rfl, hr4, rfl, q3_0⟩ := hz1
  replace q3_0 : (r4 = 1 ∧ (0 : Int) ≤ k ∧ k ≤ (3 : Int)) ∨ (r4 = 0 ∧ ¬ ((0 : Int) ≤ k ∧ k ≤ (3 : Int))) := q3_0
  refine j_st (st' := [vI r4]) rfl ?_
  refine j_ifR_eq (pc := 9) (tgt := 28) ⟨by omega, by omega⟩ dX12_isSheet_9 rfl (fun h5 => ?_) (fun h5 => ?_)
  · refine j_iconst (pc := 28) dX12_isSheet_28 ?_
    exact j_zret (pc := 29) ⟨rfl, rfl⟩ dX12_isSheet_29 rfl (nar_bool (by omega) (by omega)) ⟨_, rfl, ⟨by omega, by omega⟩, rfl, by omega⟩
  · refine j_iload_n (pc := 12) dX12_isSheet_12 rfl rfl ?_
    refine j_i2l (pc := 13) dX12_isSheet_13 ?_
    rw [w32_eq (a := l) (by omega) (by omega)]
    refine j_lconst (pc := 14) (z := 0) dX12_isSheet_14 rfl ?_
    refine j_ldc2 (pc := 15) (z := 2) dX12_isSheet_15 (tw_inc tm_7 (i := 149) rfl rfl) ?_
    refine j_callS (pc := 18) (As := [vL l, vL 0, vL 2]) (st := []) (c_X12_in l ⟨by omega, by omega⟩ 0 (by (first | decide | exact ⟨by omega, by omega⟩)) 2 (by (first | decide | exact ⟨by omega, by omega⟩)) σ hI) ms_X12_82 rfl dX12_isSheet_18 ⟨Nat.le_of_ble_eq_true rfl, Nat.le_of_ble_eq_true rfl⟩ ⟨Nat.le_refl _, Nat.le_refl _⟩ rfl (Nat.le_of_ble_eq_true rfl) rfl (fun z6 σ7 hz6 => ?_)
    obtain ⟨r9, rfl, hr9, rfl, q8_0⟩ := hz6
    replace q8_0 : (r9 = 1 ∧ (0 : Int) ≤ l ∧ l ≤ (2 : Int)) ∨ (r9 = 0 ∧ ¬ ((0 : Int) ≤ l ∧ l ≤ (2 : Int))) := q8_0
    refine j_st (st' := [vI r9]) rfl ?_
    refine j_ifR_eq (pc := 21) (tgt := 28) ⟨by omega, by omega⟩ dX12_isSheet_21 rfl (fun h10 => ?_) (fun h10 => ?_)
    · refine j_iconst (pc := 28) dX12_isSheet_28 ?_
      exact j_zret (pc := 29) ⟨rfl, rfl⟩ dX12_isSheet_29 rfl (nar_bool (by omega) (by omega)) ⟨_, rfl, ⟨by omega, by omega⟩, rfl, by omega⟩
    · refine j_iconst (pc := 24) dX12_isSheet_24 ?_
      refine j_goto (pc := 25) (tgt := 29) dX12_isSheet_25 rfl ?_
      exact j_zret (pc := 29) ⟨rfl, rfl⟩ dX12_isSheet_29 rfl (nar_bool (by omega) (by omega)) ⟨_, rfl, ⟨by omega, by omega⟩, rfl, by omega⟩
