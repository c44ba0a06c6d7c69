/-! 32af.model -/
theorem dX12_torn_0 : decode cX12_torn 0 = .ok (.aload_n 0, 1) := by decide +kernel
theorem dX12_torn_1 : decode cX12_torn 1 = .ok (.getfield 383, 3) := by decide +kernel
theorem dX12_torn_4 : decode cX12_torn 4 = .ok (.ireturn, 1) := by decide +kernel
abbrev q_X12_torn  (σ : tw_M) : Option tw_V → tw_M → Prop := fun z τ => ∃ r : Int, z = some (vI r) ∧ (-2147483648 ≤ r ∧ r ≤ 2147483647) ∧ σ = τ ∧ (r = σ 88 38)
set_option maxHeartbeats 4000000 in
set_option maxRecDepth 100000 in
theorem c_X12_torn {G : tw_G} (hM : tw_isM G) (σ : tw_M) (hI : tw_I σ) : tw_C G yX12_torn cX12_torn 1 (some .int) 0 [vR 88] σ (q_X12_torn σ) := by
  refine tw_met [(0, vR 88)] (by decide +kernel) rfl (Nat.le_of_ble_eq_true rfl) ?_
  refine j_aload_n (pc := 0) dX12_torn_0 rfl rfl ?_
  refine j_getI (pc := 1) fl_X12_383 dX12_torn_1 (a_88 hM) rfl ?_
  have f1 : (-2147483648 : Int) ≤ σ 88 38 ∧ σ 88 38 ≤ 2147483647 := hI 88 38
  exact j_iret (pc := 4) ⟨rfl, rfl⟩ dX12_torn_4 rfl ⟨_, rfl, ⟨by omega, by omega⟩, rfl, rfl⟩
