/-! 32as.model -/
theorem dX12_end_0 : decode cX12_end 0 = .ok (.iload_n 1, 1) := by decide +kernel
theorem dX12_end_1 : decode cX12_end 1 = .ok (.i2l, 1) := by decide +kernel
theorem dX12_end_2 : decode cX12_end 2 = .ok (.lconst 0, 1) := by decide +kernel
theorem dX12_end_3 : decode cX12_end 3 = .ok (.aload_n 0, 1) := by decide +kernel
theorem dX12_end_4 : decode cX12_end 4 = .ok (.getfield 86, 3) := by decide +kernel
theorem dX12_end_7 : decode cX12_end 7 = .ok (.i2l, 1) := by decide +kernel
theorem dX12_end_8 : decode cX12_end 8 = .ok (.invokestatic 82, 3) := by decide +kernel
theorem dX12_end_11 : decode cX12_end 11 = .ok (.ifCond .ne 5, 3) := by decide +kernel
theorem dX12_end_14 : decode cX12_end 14 = .ok (.iconst (-1), 1) := by decide +kernel
theorem dX12_end_15 : decode cX12_end 15 = .ok (.ireturn, 1) := by decide +kernel
theorem dX12_end_16 : decode cX12_end 16 = .ok (.aload_n 0, 1) := by decide +kernel
theorem dX12_end_17 : decode cX12_end 17 = .ok (.getfield 86, 3) := by decide +kernel
theorem dX12_end_20 : decode cX12_end 20 = .ok (.istore_n 2, 1) := by decide +kernel
theorem dX12_end_21 : decode cX12_end 21 = .ok (.aload_n 0, 1) := by decide +kernel
theorem dX12_end_22 : decode cX12_end 22 = .ok (.iload_n 1, 1) := by decide +kernel
theorem dX12_end_23 : decode cX12_end 23 = .ok (.putfield 86, 3) := by decide +kernel
theorem dX12_end_26 : decode cX12_end 26 = .ok (.iload_n 2, 1) := by decide +kernel
theorem dX12_end_27 : decode cX12_end 27 = .ok (.ireturn, 1) := by decide +kernel
abbrev q_X12_end (n : Int) (σ : tw_M) : Option tw_V → tw_M → Prop := fun z τ => ∃ r : Int, z = some (vI r) ∧ (-2147483648 ≤ r ∧ r ≤ 2147483647) ∧ tw_I τ ∧ tw_F (fun c j => (c = 88 ∧ (j = 12))) σ τ ∧ ((r = -1 ∧ ¬ (0 ≤ n ∧ n ≤ σ 88 12) ∧ τ 88 12 = σ 88 12) ∨ (r = σ 88 12 ∧ 0 ≤ n ∧ n ≤ σ 88 12 ∧ τ 88 12 = n))
set_option maxHeartbeats 4000000 in
set_option maxRecDepth 100000 in
theorem c_X12_end {G : tw_G} (hM : tw_isM G) (n : Int) (hn : -2147483648 ≤ n ∧ n ≤ 2147483647) (σ : tw_M) (hI : tw_I σ) : tw_C G yX12_end cX12_end 3 (some .int) 1 [vR 88, vI n] σ (q_X12_end n σ) := by
  refine tw_met [(0, vR 88), (1, vI n)] (by decide +kernel) rfl (Nat.le_of_ble_eq_true rfl) ?_
  refine j_iload_n (pc := 0) dX12_end_0 rfl rfl ?_
  refine j_i2l (pc := 1) dX12_end_1 ?_
  rw [w32_eq (a := n) (by omega) (by omega)]
  refine j_lconst (pc := 2) (z := 0) dX12_end_2 rfl ?_
  refine j_aload_n (pc := 3) dX12_end_3 rfl rfl ?_
  refine j_getI (pc := 4) fl_X12_86 dX12_end_4 (a_88 hM) rfl ?_
  have f1 : (0 : Int) ≤ σ 88 12 ∧ σ 88 12 ≤ 400 := hI 88 12
  refine j_i2l (pc := 7) dX12_end_7 ?_
  rw [w32_eq (a := σ 88 12) (by omega) (by omega)]
  refine j_callS (pc := 8) (As := [vL n, vL 0, vL (σ 88 12)]) (st := []) (c_X12_in n ⟨by omega, by omega⟩ 0 (by (first | decide | exact ⟨by omega, by omega⟩)) (σ 88 12) ⟨by omega, by omega⟩ σ hI) ms_X12_82 rfl dX12_end_8 ⟨Nat.le_of_ble_eq_true rfl, Nat.le_of_ble_eq_true rfl⟩ ⟨Nat.le_refl _, Nat.le_refl _⟩ rfl (Nat.le_of_ble_eq_true rfl) rfl (fun z2 σ3 hz2 => ?_)
  obtain ⟨r5, rfl, hr5, rfl, q4_0⟩ := hz2
  replace q4_0 : (r5 = 1 ∧ (0 : Int) ≤ n ∧ n ≤ (σ 88 12)) ∨ (r5 = 0 ∧ ¬ ((0 : Int) ≤ n ∧ n ≤ (σ 88 12))) := q4_0
  refine j_st (st' := [vI r5]) rfl ?_
  refine j_ifR_ne (pc := 11) (tgt := 16) ⟨by omega, by omega⟩ dX12_end_11 rfl (fun h6 => ?_) (fun h6 => ?_)
  · refine j_aload_n (pc := 16) dX12_end_16 rfl rfl ?_
    refine j_getI (pc := 17) fl_X12_86 dX12_end_17 (a_88 hM) rfl ?_
    refine j_istore_n (pc := 20) (i := 2) (ls' := [(0, vR 88), (1, vI n), (2, vI (σ 88 12))]) [1, 2, 0] dX12_end_20 rfl (Nat.le_of_ble_eq_true rfl) rfl rfl ?_
    refine j_aload_n (pc := 21) dX12_end_21 rfl rfl ?_
    refine j_iload_n (pc := 22) dX12_end_22 rfl rfl ?_
    refine j_putI (pc := 23) fl_X12_86 fp_X12_12 dX12_end_23 (a_88 hM) rfl (j_nm (fun σ7 (eσ7 : σ7 = tw_up σ 88 12 n) => ?_))
    have hIσ7 : tw_I σ7 := tw_I_up hI eσ7 (show (0 : Int) ≤ n ∧ n ≤ 400 from ⟨by omega, by omega⟩)
    have hFσ7 : tw_F (fun c j => (c = 88 ∧ (j = 12))) σ σ7 := tw_F_up (tw_F_rf) eσ7 (show (88 = 88 ∧ (12 = 12)) from ⟨rfl, rfl⟩)
    refine j_iload_n (pc := 26) dX12_end_26 rfl rfl ?_
    have y8 : σ7 88 12 = n := (tw_eq1 eσ7)
    exact j_iret (pc := 27) ⟨rfl, rfl⟩ dX12_end_27 rfl ⟨_, rfl, ⟨by omega, by omega⟩, hIσ7, hFσ7, by omega⟩
  · refine j_iconst (pc := 14) dX12_end_14 ?_
    exact j_iret (pc := 15) ⟨rfl, rfl⟩ dX12_end_15 rfl ⟨_, rfl, ⟨by omega, by omega⟩, hI, (tw_F_rf), by omega⟩
