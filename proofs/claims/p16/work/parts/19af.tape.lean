/-! 19af.tape -/
theorem dX9_isFigure_0 : decode cX9_isFigure 0 = .ok (.iload_n 0, 1) := by decide +kernel
theorem dX9_isFigure_1 : decode cX9_isFigure 1 = .ok (.bipush 48, 2) := by decide +kernel
theorem dX9_isFigure_3 : decode cX9_isFigure 3 = .ok (.if_icmp .lt 13, 3) := by decide +kernel
theorem dX9_isFigure_6 : decode cX9_isFigure 6 = .ok (.iload_n 0, 1) := by decide +kernel
theorem dX9_isFigure_7 : decode cX9_isFigure 7 = .ok (.bipush 57, 2) := by decide +kernel
theorem dX9_isFigure_9 : decode cX9_isFigure 9 = .ok (.if_icmp .gt 7, 3) := by decide +kernel
theorem dX9_isFigure_12 : decode cX9_isFigure 12 = .ok (.iconst 1, 1) := by decide +kernel
theorem dX9_isFigure_13 : decode cX9_isFigure 13 = .ok (.goto 4, 3) := by decide +kernel
theorem dX9_isFigure_16 : decode cX9_isFigure 16 = .ok (.iconst 0, 1) := by decide +kernel
theorem dX9_isFigure_17 : decode cX9_isFigure 17 = .ok (.ireturn, 1) := by decide +kernel
abbrev q_X9_isFigure (s : Int) (σ : tw_M) : Option tw_V → tw_M → Prop := fun z τ => ∃ r : Int, z = some (vI r) ∧ (0 ≤ r ∧ r ≤ 1) ∧ σ = τ ∧ ((r = 1 ∧ 48 ≤ s ∧ s ≤ 57) ∨ (r = 0 ∧ ¬ (48 ≤ s ∧ s ≤ 57)))
set_option maxHeartbeats 4000000 in
set_option maxRecDepth 100000 in
theorem c_X9_isFigure {G : tw_G} (s : Int) (hs : -2147483648 ≤ s ∧ s ≤ 2147483647) (σ : tw_M) (hI : tw_I σ) : tw_C G yX9_isFigure cX9_isFigure 1 (some .boolean) 0 [vI s] σ (q_X9_isFigure s σ) := by
  refine tw_met [(0, vI s)] (by decide +kernel) rfl (Nat.le_of_ble_eq_true rfl) ?_
  refine j_iload_n (pc := 0) dX9_isFigure_0 rfl rfl ?_
  refine j_bipush (pc := 1) dX9_isFigure_1 rfl ?_
  refine j_icmpR_lt (pc := 3) (tgt := 16) ⟨by omega, by omega⟩ ⟨by omega, by omega⟩ dX9_isFigure_3 rfl (fun h1 => ?_) (fun h1 => ?_)
  · refine j_iconst (pc := 16) dX9_isFigure_16 ?_
    exact j_zret (pc := 17) ⟨rfl, rfl⟩ dX9_isFigure_17 rfl (nar_bool (by omega) (by omega)) ⟨_, rfl, ⟨by omega, by omega⟩, rfl, by omega⟩
  · refine j_iload_n (pc := 6) dX9_isFigure_6 rfl rfl ?_
    refine j_bipush (pc := 7) dX9_isFigure_7 rfl ?_
    refine j_icmpR_gt (pc := 9) (tgt := 16) ⟨by omega, by omega⟩ ⟨by omega, by omega⟩ dX9_isFigure_9 rfl (fun h2 => ?_) (fun h2 => ?_)
    · refine j_iconst (pc := 16) dX9_isFigure_16 ?_
      exact j_zret (pc := 17) ⟨rfl, rfl⟩ dX9_isFigure_17 rfl (nar_bool (by omega) (by omega)) ⟨_, rfl, ⟨by omega, by omega⟩, rfl, by omega⟩
    · refine j_iconst (pc := 12) dX9_isFigure_12 ?_
      refine j_goto (pc := 13) (tgt := 17) dX9_isFigure_13 rfl ?_
      exact j_zret (pc := 17) ⟨rfl, rfl⟩ dX9_isFigure_17 rfl (nar_bool (by omega) (by omega)) ⟨_, rfl, ⟨by omega, by omega⟩, rfl, by omega⟩
