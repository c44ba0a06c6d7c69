/-! 20ae.main -/
theorem dX11_isLane_0 : decode cX11_isLane 0 = .ok (.iload_n 0, 1) := by decide +kernel
theorem dX11_isLane_1 : decode cX11_isLane 1 = .ok (.ifCond .lt 12, 3) := by decide +kernel
theorem dX11_isLane_4 : decode cX11_isLane 4 = .ok (.iload_n 0, 1) := by decide +kernel
theorem dX11_isLane_5 : decode cX11_isLane 5 = .ok (.iconst 2, 1) := by decide +kernel
theorem dX11_isLane_6 : decode cX11_isLane 6 = .ok (.if_icmp .gt 7, 3) := by decide +kernel
theorem dX11_isLane_9 : decode cX11_isLane 9 = .ok (.iconst 1, 1) := by decide +kernel
theorem dX11_isLane_10 : decode cX11_isLane 10 = .ok (.goto 4, 3) := by decide +kernel
theorem dX11_isLane_13 : decode cX11_isLane 13 = .ok (.iconst 0, 1) := by decide +kernel
theorem dX11_isLane_14 : decode cX11_isLane 14 = .ok (.ireturn, 1) := by decide +kernel
abbrev q_X11_isLane (l : Int) (σ : tw_M) : Option tw_V → tw_M → Prop := fun z τ => ∃ r : Int, z = some (vI r) ∧ (0 ≤ r ∧ r ≤ 1) ∧ σ = τ ∧ ((r = 1 ∧ 0 ≤ l ∧ l ≤ 2) ∨ (r = 0 ∧ ¬ (0 ≤ l ∧ l ≤ 2)))
set_option maxHeartbeats 4000000 in
set_option maxRecDepth 100000 in
theorem c_X11_isLane {G : tw_G} (l : Int) (hl : -2147483648 ≤ l ∧ l ≤ 2147483647) (σ : tw_M) (hI : tw_I σ) : tw_C G yX11_isLane cX11_isLane 1 (some .boolean) 0 [vI l] σ (q_X11_isLane l σ) := by
  refine tw_met [(0, vI l)] (by decide +kernel) rfl (Nat.le_of_ble_eq_true rfl) ?_
  refine j_iload_n (pc := 0) dX11_isLane_0 rfl rfl ?_
  refine j_ifR_lt (pc := 1) (tgt := 13) ⟨by omega, by omega⟩ dX11_isLane_1 rfl (fun h1 => ?_) (fun h1 => ?_)
  · refine j_iconst (pc := 13) dX11_isLane_13 ?_
    exact j_zret (pc := 14) ⟨rfl, rfl⟩ dX11_isLane_14 rfl (nar_bool (by omega) (by omega)) ⟨_, rfl, ⟨by omega, by omega⟩, rfl, by omega⟩
  · refine j_iload_n (pc := 4) dX11_isLane_4 rfl rfl ?_
    refine j_iconst (pc := 5) dX11_isLane_5 ?_
    refine j_icmpR_gt (pc := 6) (tgt := 13) ⟨by omega, by omega⟩ ⟨by omega, by omega⟩ dX11_isLane_6 rfl (fun h2 => ?_) (fun h2 => ?_)
    · refine j_iconst (pc := 13) dX11_isLane_13 ?_
      exact j_zret (pc := 14) ⟨rfl, rfl⟩ dX11_isLane_14 rfl (nar_bool (by omega) (by omega)) ⟨_, rfl, ⟨by omega, by omega⟩, rfl, by omega⟩
    · refine j_iconst (pc := 9) dX11_isLane_9 ?_
      refine j_goto (pc := 10) (tgt := 14) dX11_isLane_10 rfl ?_
      exact j_zret (pc := 14) ⟨rfl, rfl⟩ dX11_isLane_14 rfl (nar_bool (by omega) (by omega)) ⟨_, rfl, ⟨by omega, by omega⟩, rfl, by omega⟩
