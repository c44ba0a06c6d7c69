/-! 20ai.main -/
theorem dX11_fault_0 : decode cX11_fault 0 = .ok (.aload_n 0, 1) := by decide +kernel
theorem dX11_fault_1 : decode cX11_fault 1 = .ok (.getfield 91, 3) := by decide +kernel
theorem dX11_fault_4 : decode cX11_fault 4 = .ok (.ireturn, 1) := by decide +kernel
abbrev q_X11_fault  (σ : tw_M) : Option tw_V → tw_M → Prop := fun z τ => ∃ r : Int, z = some (vI r) ∧ (-2147483648 ≤ r ∧ r ≤ 2147483647) ∧ σ = τ ∧ (r = σ 0 13)
set_option maxHeartbeats 4000000 in
set_option maxRecDepth 100000 in
theorem c_X11_fault {G : tw_G} (hX : tw_isX G) (σ : tw_M) (hI : tw_I σ) : tw_C G yX11_fault cX11_fault 1 (some .int) 0 [vR 0] σ (q_X11_fault σ) := by
  refine tw_met [(0, vR 0)] (by decide +kernel) rfl (Nat.le_of_ble_eq_true rfl) ?_
  refine j_aload_n (pc := 0) dX11_fault_0 rfl rfl ?_
  refine j_getI (pc := 1) fl_X11_91 dX11_fault_1 (a_0 hX) rfl ?_
  have f1 : (-2147483648 : Int) ≤ σ 0 13 ∧ σ 0 13 ≤ 2147483647 := hI 0 13
  exact j_iret (pc := 4) ⟨rfl, rfl⟩ dX11_fault_4 rfl ⟨_, rfl, ⟨by omega, by omega⟩, rfl, by omega⟩
