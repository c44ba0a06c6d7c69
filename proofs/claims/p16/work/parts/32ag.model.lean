/-! 32ag.model -/
theorem dX12_fault_0 : decode cX12_fault 0 = .ok (.aload_n 0, 1) := by decide +kernel
theorem dX12_fault_1 : decode cX12_fault 1 = .ok (.getfield 91, 3) := by decide +kernel
theorem dX12_fault_4 : decode cX12_fault 4 = .ok (.ireturn, 1) := by decide +kernel
abbrev q_X12_fault  (σ : tw_M) : Option tw_V → tw_M → Prop := fun z τ => ∃ r : Int, z = some (vI r) ∧ (-2147483648 ≤ r ∧ r ≤ 2147483647) ∧ σ = τ ∧ (r = σ 88 17)
set_option maxHeartbeats 4000000 in
set_option maxRecDepth 100000 in
theorem c_X12_fault {G : tw_G} (hM : tw_isM G) (σ : tw_M) (hI : tw_I σ) : tw_C G yX12_fault cX12_fault 1 (some .int) 0 [vR 88] σ (q_X12_fault σ) := by
  refine tw_met [(0, vR 88)] (by decide +kernel) rfl (Nat.le_of_ble_eq_true rfl) ?_
  refine j_aload_n (pc := 0) dX12_fault_0 rfl rfl ?_
  refine j_getI (pc := 1) fl_X12_91 dX12_fault_1 (a_88 hM) rfl ?_
  have f1 : (0 : Int) ≤ σ 88 17 ∧ σ 88 17 ≤ 5 := hI 88 17
  exact j_iret (pc := 4) ⟨rfl, rfl⟩ dX12_fault_4 rfl ⟨_, rfl, ⟨by omega, by omega⟩, rfl, by omega⟩
