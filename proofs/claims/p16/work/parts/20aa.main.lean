/-! 20aa.main -/
theorem dX11_isPart_0 : decode cX11_isPart 0 = .ok (.iload_n 0, 1) := by decide +kernel
theorem dX11_isPart_1 : decode cX11_isPart 1 = .ok (.ifCond .eq 8, 3) := by decide +kernel
theorem dX11_isPart_4 : decode cX11_isPart 4 = .ok (.iload_n 0, 1) := by decide +kernel
theorem dX11_isPart_5 : decode cX11_isPart 5 = .ok (.iconst 1, 1) := by decide +kernel
theorem dX11_isPart_6 : decode cX11_isPart 6 = .ok (.if_icmp .ne 7, 3) := by decide +kernel
theorem dX11_isPart_9 : decode cX11_isPart 9 = .ok (.iconst 1, 1) := by decide +kernel
theorem dX11_isPart_10 : decode cX11_isPart 10 = .ok (.goto 4, 3) := by decide +kernel
theorem dX11_isPart_13 : decode cX11_isPart 13 = .ok (.iconst 0, 1) := by decide +kernel
theorem dX11_isPart_14 : decode cX11_isPart 14 = .ok (.ireturn, 1) := by decide +kernel
abbrev q_X11_isPart (x : Int) (σ : tw_M) : Option tw_V → tw_M → Prop := fun z τ => ∃ r : Int, z = some (vI r) ∧ (0 ≤ r ∧ r ≤ 1) ∧ σ = τ ∧ ((r = 1 ∧ (x = 0 ∨ x = 1)) ∨ (r = 0 ∧ ¬ x = 0 ∧ ¬ x = 1))
set_option maxHeartbeats 4000000 in
set_option maxRecDepth 100000 in
theorem c_X11_isPart {G : tw_G} (x : Int) (hx : -2147483648 ≤ x ∧ x ≤ 2147483647) (σ : tw_M) (hI : tw_I σ) : tw_C G yX11_isPart cX11_isPart 1 (some .boolean) 0 [vI x] σ (q_X11_isPart x σ) := by
  refine tw_met [(0, vI x)] (by decide +kernel) rfl (Nat.le_of_ble_eq_true rfl) ?_
  refine j_iload_n (pc := 0) dX11_isPart_0 rfl rfl ?_
  refine j_ifR_eq (pc := 1) (tgt := 9) ⟨by omega, by omega⟩ dX11_isPart_1 rfl (fun h1 => ?_) (fun h1 => ?_)
  · refine j_iconst (pc := 9) dX11_isPart_9 ?_
    refine j_goto (pc := 10) (tgt := 14) dX11_isPart_10 rfl ?_
    exact j_zret (pc := 14) ⟨rfl, rfl⟩ dX11_isPart_14 rfl (nar_bool (by omega) (by omega)) ⟨_, rfl, ⟨by omega, by omega⟩, rfl, by omega⟩
  · refine j_iload_n (pc := 4) dX11_isPart_4 rfl rfl ?_
    refine j_iconst (pc := 5) dX11_isPart_5 ?_
    refine j_icmpR_ne (pc := 6) (tgt := 13) ⟨by omega, by omega⟩ ⟨by omega, by omega⟩ dX11_isPart_6 rfl (fun h2 => ?_) (fun h2 => ?_)
    · refine j_iconst (pc := 13) dX11_isPart_13 ?_
      exact j_zret (pc := 14) ⟨rfl, rfl⟩ dX11_isPart_14 rfl (nar_bool (by omega) (by omega)) ⟨_, rfl, ⟨by omega, by omega⟩, rfl, by omega⟩
    · refine j_iconst (pc := 9) dX11_isPart_9 ?_
      refine j_goto (pc := 10) (tgt := 14) dX11_isPart_10 rfl ?_
      exact j_zret (pc := 14) ⟨rfl, rfl⟩ dX11_isPart_14 rfl (nar_bool (by omega) (by omega)) ⟨_, rfl, ⟨by omega, by omega⟩, rfl, by omega⟩
