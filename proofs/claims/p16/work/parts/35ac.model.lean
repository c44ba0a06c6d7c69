/-! 35ac.model -/
theorem dX12_lowest_0 : decode cX12_lowest 0 = .ok (.iload_n 1, 1) := by decide +kernel
theorem dX12_lowest_1 : decode cX12_lowest 1 = .ok (.ifCond .eq 13, 3) := by decide +kernel
theorem dX12_lowest_4 : decode cX12_lowest 4 = .ok (.iload_n 1, 1) := by decide +kernel
theorem dX12_lowest_5 : decode cX12_lowest 5 = .ok (.iconst 1, 1) := by decide +kernel
theorem dX12_lowest_6 : decode cX12_lowest 6 = .ok (.if_icmp .eq 8, 3) := by decide +kernel
theorem dX12_lowest_9 : decode cX12_lowest 9 = .ok (.iload_n 1, 1) := by decide +kernel
theorem dX12_lowest_10 : decode cX12_lowest 10 = .ok (.iconst 3, 1) := by decide +kernel
theorem dX12_lowest_11 : decode cX12_lowest 11 = .ok (.if_icmp .ne 7, 3) := by decide +kernel
theorem dX12_lowest_14 : decode cX12_lowest 14 = .ok (.iconst 1, 1) := by decide +kernel
theorem dX12_lowest_15 : decode cX12_lowest 15 = .ok (.goto 4, 3) := by decide +kernel
theorem dX12_lowest_18 : decode cX12_lowest 18 = .ok (.iconst 0, 1) := by decide +kernel
theorem dX12_lowest_19 : decode cX12_lowest 19 = .ok (.ireturn, 1) := by decide +kernel
abbrev q_X12_lowest (k : Int) (σ : tw_M) : Option tw_V → tw_M → Prop := fun z τ => ∃ r : Int, z = some (vI r) ∧ (-2147483648 ≤ r ∧ r ≤ 2147483647) ∧ σ = τ ∧ (((k = 0 ∨ k = 1 ∨ k = 3) ∧ r = 1) ∨ (¬ (k = 0 ∨ k = 1 ∨ k = 3) ∧ r = 0))
set_option maxHeartbeats 4000000 in
set_option maxRecDepth 100000 in
theorem c_X12_lowest {G : tw_G} (hM : tw_isM G) (k : Int) (hk : -2147483648 ≤ k ∧ k ≤ 2147483647) (σ : tw_M) (hI : tw_I σ) : tw_C G yX12_lowest cX12_lowest 2 (some .int) 0 [vR 88, vI k] σ (q_X12_lowest k σ) := by
  refine tw_met [(0, vR 88), (1, vI k)] (by decide +kernel) rfl (Nat.le_of_ble_eq_true rfl) ?_
  refine j_iload_n (pc := 0) dX12_lowest_0 rfl rfl ?_
  refine j_ifR_eq (pc := 1) (tgt := 14) ⟨by omega, by omega⟩ dX12_lowest_1 rfl (fun h1 => ?_) (fun h1 => ?_)
  · refine j_iconst (pc := 14) dX12_lowest_14 ?_
    refine j_goto (pc := 15) (tgt := 19) dX12_lowest_15 rfl ?_
    exact j_iret (pc := 19) ⟨rfl, rfl⟩ dX12_lowest_19 rfl ⟨_, rfl, ⟨by omega, by omega⟩, rfl, by omega⟩
  · refine j_iload_n (pc := 4) dX12_lowest_4 rfl rfl ?_
    refine j_iconst (pc := 5) dX12_lowest_5 ?_
    refine j_icmpR_eq (pc := 6) (tgt := 14) ⟨by omega, by omega⟩ ⟨by omega, by omega⟩ dX12_lowest_6 rfl (fun h2 => ?_) (fun h2 => ?_)
    · refine j_iconst (pc := 14) dX12_lowest_14 ?_
      refine j_goto (pc := 15) (tgt := 19) dX12_lowest_15 rfl ?_
      exact j_iret (pc := 19) ⟨rfl, rfl⟩ dX12_lowest_19 rfl ⟨_, rfl, ⟨by omega, by omega⟩, rfl, by omega⟩
    · refine j_iload_n (pc := 9) dX12_lowest_9 rfl rfl ?_
      refine j_iconst (pc := 10) dX12_lowest_10 ?_
      refine j_icmpR_ne (pc := 11) (tgt := 18) ⟨by omega, by omega⟩ ⟨by omega, by omega⟩ dX12_lowest_11 rfl (fun h3 => ?_) (fun h3 => ?_)
      · refine j_iconst (pc := 18) dX12_lowest_18 ?_
        exact j_iret (pc := 19) ⟨rfl, rfl⟩ dX12_lowest_19 rfl ⟨_, rfl, ⟨by omega, by omega⟩, rfl, by omega⟩
      · refine j_iconst (pc := 14) dX12_lowest_14 ?_
        refine j_goto (pc := 15) (tgt := 19) dX12_lowest_15 rfl ?_
        exact j_iret (pc := 19) ⟨rfl, rfl⟩ dX12_lowest_19 rfl ⟨_, rfl, ⟨by omega, by omega⟩, rfl, by omega⟩
