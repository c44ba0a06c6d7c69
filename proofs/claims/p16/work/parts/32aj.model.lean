/-! 32aj.model -/
theorem dX12_rule_0 : decode cX12_rule 0 = .ok (.iload_n 1, 1) := by decide +kernel
theorem dX12_rule_1 : decode cX12_rule 1 = .ok (.i2l, 1) := by decide +kernel
theorem dX12_rule_2 : decode cX12_rule 2 = .ok (.lconst 0, 1) := by decide +kernel
theorem dX12_rule_3 : decode cX12_rule 3 = .ok (.ldc2_w 147, 3) := by decide +kernel
theorem dX12_rule_6 : decode cX12_rule 6 = .ok (.invokestatic 82, 3) := by decide +kernel
theorem dX12_rule_9 : decode cX12_rule 9 = .ok (.ifCond .eq 12, 3) := by decide +kernel
theorem dX12_rule_12 : decode cX12_rule 12 = .ok (.aload_n 0, 1) := by decide +kernel
theorem dX12_rule_13 : decode cX12_rule 13 = .ok (.getfield 17, 3) := by decide +kernel
theorem dX12_rule_16 : decode cX12_rule 16 = .ok (.iload_n 1, 1) := by decide +kernel
theorem dX12_rule_17 : decode cX12_rule 17 = .ok (.iaload, 1) := by decide +kernel
theorem dX12_rule_18 : decode cX12_rule 18 = .ok (.goto 33, 3) := by decide +kernel
theorem dX12_rule_21 : decode cX12_rule 21 = .ok (.iload_n 1, 1) := by decide +kernel
theorem dX12_rule_22 : decode cX12_rule 22 = .ok (.i2l, 1) := by decide +kernel
theorem dX12_rule_23 : decode cX12_rule 23 = .ok (.ldc2_w 164, 3) := by decide +kernel
theorem dX12_rule_26 : decode cX12_rule 26 = .ok (.ldc2_w 166, 3) := by decide +kernel
theorem dX12_rule_29 : decode cX12_rule 29 = .ok (.invokestatic 82, 3) := by decide +kernel
theorem dX12_rule_32 : decode cX12_rule 32 = .ok (.ifCond .eq 18, 3) := by decide +kernel
theorem dX12_rule_35 : decode cX12_rule 35 = .ok (.aload_n 0, 1) := by decide +kernel
theorem dX12_rule_36 : decode cX12_rule 36 = .ok (.getfield 7, 3) := by decide +kernel
theorem dX12_rule_39 : decode cX12_rule 39 = .ok (.bipush 82, 2) := by decide +kernel
theorem dX12_rule_41 : decode cX12_rule 41 = .ok (.iload_n 1, 1) := by decide +kernel
theorem dX12_rule_42 : decode cX12_rule 42 = .ok (.iadd, 1) := by decide +kernel
theorem dX12_rule_43 : decode cX12_rule 43 = .ok (.bipush 10, 2) := by decide +kernel
theorem dX12_rule_45 : decode cX12_rule 45 = .ok (.isub, 1) := by decide +kernel
theorem dX12_rule_46 : decode cX12_rule 46 = .ok (.iaload, 1) := by decide +kernel
theorem dX12_rule_47 : decode cX12_rule 47 = .ok (.goto 4, 3) := by decide +kernel
theorem dX12_rule_50 : decode cX12_rule 50 = .ok (.iconst (-1), 1) := by decide +kernel
theorem dX12_rule_51 : decode cX12_rule 51 = .ok (.ireturn, 1) := by decide +kernel
abbrev q_X12_rule (w : Int) (σ : tw_M) : Option tw_V → tw_M → Prop := fun z τ => ∃ r : Int, z = some (vI r) ∧ (-2147483648 ≤ r ∧ r ≤ 2147483647) ∧ σ = τ ∧ (((0 ≤ w ∧ w < 9) ∧ r = σ 91 w.toNat) ∨ ((11 ≤ w ∧ w ≤ 20) ∧ r = σ 89 (72 + w).toNat) ∨ (r = -1 ∧ ¬ (0 ≤ w ∧ w < 9) ∧ ¬ (11 ≤ w ∧ w ≤ 20)))
set_option maxHeartbeats 4000000 in
set_option maxRecDepth 100000 in
theorem c_X12_rule {G : tw_G} (hM : tw_isM G) (w : Int) (hw : -2147483648 ≤ w ∧ w ≤ 2147483647) (σ : tw_M) (hI : tw_I σ) : tw_C G yX12_rule cX12_rule 2 (some .int) 1 [vR 88, vI w] σ (q_X12_rule w σ) := by
  refine tw_met [(0, vR 88), (1, vI w)] (by decide +kernel) rfl (Nat.le_of_ble_eq_true rfl) ?_
  refine j_iload_n (pc := 0) dX12_rule_0 rfl rfl ?_
  refine j_i2l (pc := 1) dX12_rule_1 ?_
  rw [w32_eq (a := w) (by omega) (by omega)]
  refine j_lconst (pc := 2) (z := 0) dX12_rule_2 rfl ?_
  refine j_ldc2 (pc := 3) (z := 8) dX12_rule_3 (tw_inc tm_6 (i := 172) rfl rfl) ?_
  refine j_callS (pc := 6) (As := [vL w, vL 0, vL 8]) (st := []) (c_X12_in w ⟨by omega, by omega⟩ 0 (by (first | decide | exact ⟨by omega, by omega⟩)) 8 (by (first | decide | exact ⟨by omega, by omega⟩)) σ hI) ms_X12_82 rfl dX12_rule_6 ⟨Nat.le_of_ble_eq_true rfl, Nat.le_of_ble_eq_true rfl⟩ ⟨Nat.le_refl _, Nat.le_refl _⟩ rfl (Nat.le_of_ble_eq_true rfl) rfl (fun z1 σ2 hz1 => ?_)
  obtain ⟨r4, rfl, hr4, rfl, q3_0⟩ := hz1
  replace q3_0 : (r4 = 1 ∧ (0 : Int) ≤ w ∧ w ≤ (8 : Int)) ∨ (r4 = 0 ∧ ¬ ((0 : Int) ≤ w ∧ w ≤ (8 : Int))) := q3_0
  refine j_st (st' := [vI r4]) rfl ?_
  refine j_ifR_eq (pc := 9) (tgt := 21) ⟨by omega, by omega⟩ dX12_rule_9 rfl (fun h5 => ?_) (fun h5 => ?_)
  · refine j_iload_n (pc := 21) dX12_rule_21 rfl rfl ?_
    refine j_i2l (pc := 22) dX12_rule_22 ?_
    rw [w32_eq (a := w) (by omega) (by omega)]
    refine j_ldc2 (pc := 23) (z := 11) dX12_rule_23 (tw_inc tm_6 (i := 205) rfl rfl) ?_
    refine j_ldc2 (pc := 26) (z := 20) dX12_rule_26 (tw_inc tm_6 (i := 206) rfl rfl) ?_
    refine j_callS (pc := 29) (As := [vL w, vL 11, vL 20]) (st := []) (c_X12_in w ⟨by omega, by omega⟩ 11 (by (first | decide | exact ⟨by omega, by omega⟩)) 20 (by (first | decide | exact ⟨by omega, by omega⟩)) σ hI) ms_X12_82 rfl dX12_rule_29 ⟨Nat.le_of_ble_eq_true rfl, Nat.le_of_ble_eq_true rfl⟩ ⟨Nat.le_refl _, Nat.le_refl _⟩ rfl (Nat.le_of_ble_eq_true rfl) rfl (fun z6 σ7 hz6 => ?_)
    obtain ⟨r9, rfl, hr9, rfl, q8_0⟩ := hz6
    replace q8_0 : (r9 = 1 ∧ (11 : Int) ≤ w ∧ w ≤ (20 : Int)) ∨ (r9 = 0 ∧ ¬ ((11 : Int) ≤ w ∧ w ≤ (20 : Int))) := q8_0
    refine j_st (st' := [vI r9]) rfl ?_
    refine j_ifR_eq (pc := 32) (tgt := 50) ⟨by omega, by omega⟩ dX12_rule_32 rfl (fun h10 => ?_) (fun h10 => ?_)
    · refine j_iconst (pc := 50) dX12_rule_50 ?_
      exact j_iret (pc := 51) ⟨rfl, rfl⟩ dX12_rule_51 rfl ⟨_, rfl, ⟨by omega, by omega⟩, rfl, (by first | exact Or.inl ⟨by omega, rfl⟩ | exact Or.inr (Or.inl ⟨by omega, congrArg (fun x => σ 89 (Int.toNat x)) (by omega)⟩) | exact Or.inr (Or.inr ⟨rfl, by omega, by omega⟩))⟩
    · refine j_aload_n (pc := 35) dX12_rule_35 rfl rfl ?_
      refine j_getR (pc := 36) (r := 89) fl_X12_7 dX12_rule_36 (a_88 hM) rfl ?_
      refine j_bipush (pc := 39) dX12_rule_39 rfl ?_
      refine j_iload_n (pc := 41) dX12_rule_41 rfl rfl ?_
      refine j_iadd (pc := 42) dX12_rule_42 ?_
      refine j_bipush (pc := 43) dX12_rule_43 rfl ?_
      refine j_isub (pc := 45) dX12_rule_45 ?_
      refine j_iald (pc := 46) dX12_rule_46 (a_89 hM) (by omega) (by omega) (by decide) ?_
      have f11 : (-2147483648 : Int) ≤ σ 89 (((82 + w) - 10).toNat) ∧ σ 89 (((82 + w) - 10).toNat) ≤ 2147483647 := st_D hI _
      refine j_goto (pc := 47) (tgt := 51) dX12_rule_47 rfl ?_
      exact j_iret (pc := 51) ⟨rfl, rfl⟩ dX12_rule_51 rfl ⟨_, rfl, ⟨by omega, by omega⟩, rfl, (by first | exact Or.inl ⟨by omega, rfl⟩ | exact Or.inr (Or.inl ⟨by omega, congrArg (fun x => σ 89 (Int.toNat x)) (by omega)⟩) | exact Or.inr (Or.inr ⟨rfl, by omega, by omega⟩))⟩
  · refine j_aload_n (pc := 12) dX12_rule_12 rfl rfl ?_
    refine j_getR (pc := 13) (r := 91) fl_X12_17 dX12_rule_13 (a_88 hM) rfl ?_
    refine j_iload_n (pc := 16) dX12_rule_16 rfl rfl ?_
    refine j_iald (pc := 17) dX12_rule_17 (a_91 hM) (by omega) (by omega) (by decide) ?_
    have f12 : (-2147483648 : Int) ≤ σ 91 (w.toNat) ∧ σ 91 (w.toNat) ≤ 2147483647 := rbm_D (hI 91 (w.toNat))
    refine j_goto (pc := 18) (tgt := 51) dX12_rule_18 rfl ?_
    exact j_iret (pc := 51) ⟨rfl, rfl⟩ dX12_rule_51 rfl ⟨_, rfl, ⟨by omega, by omega⟩, rfl, (by first | exact Or.inl ⟨by omega, rfl⟩ | exact Or.inr (Or.inl ⟨by omega, congrArg (fun x => σ 89 (Int.toNat x)) (by omega)⟩) | exact Or.inr (Or.inr ⟨rfl, by omega, by omega⟩))⟩
