/-! 20ag.main -/
theorem dX11_end_0 : decode cX11_end 0 = .ok (.iload_n 1, 1) := by decide +kernel
theorem dX11_end_1 : decode cX11_end 1 = .ok (.ifCond .lt 14, 3) := by decide +kernel
theorem dX11_end_4 : decode cX11_end 4 = .ok (.iload_n 1, 1) := by decide +kernel
theorem dX11_end_5 : decode cX11_end 5 = .ok (.aload_n 0, 1) := by decide +kernel
theorem dX11_end_6 : decode cX11_end 6 = .ok (.getfield 19, 3) := by decide +kernel
theorem dX11_end_9 : decode cX11_end 9 = .ok (.getfield 106, 3) := by decide +kernel
theorem dX11_end_12 : decode cX11_end 12 = .ok (.if_icmp .le 5, 3) := by decide +kernel
theorem dX11_end_15 : decode cX11_end 15 = .ok (.iconst (-1), 1) := by decide +kernel
theorem dX11_end_16 : decode cX11_end 16 = .ok (.ireturn, 1) := by decide +kernel
theorem dX11_end_17 : decode cX11_end 17 = .ok (.aload_n 0, 1) := by decide +kernel
theorem dX11_end_18 : decode cX11_end 18 = .ok (.getfield 19, 3) := by decide +kernel
theorem dX11_end_21 : decode cX11_end 21 = .ok (.getfield 106, 3) := by decide +kernel
theorem dX11_end_24 : decode cX11_end 24 = .ok (.istore_n 2, 1) := by decide +kernel
theorem dX11_end_25 : decode cX11_end 25 = .ok (.aload_n 0, 1) := by decide +kernel
theorem dX11_end_26 : decode cX11_end 26 = .ok (.getfield 19, 3) := by decide +kernel
theorem dX11_end_29 : decode cX11_end 29 = .ok (.iload_n 1, 1) := by decide +kernel
theorem dX11_end_30 : decode cX11_end 30 = .ok (.putfield 106, 3) := by decide +kernel
theorem dX11_end_33 : decode cX11_end 33 = .ok (.iload_n 2, 1) := by decide +kernel
theorem dX11_end_34 : decode cX11_end 34 = .ok (.ireturn, 1) := by decide +kernel
abbrev q_X11_end (n : Int) (σ : tw_M) : Option tw_V → tw_M → Prop := fun z τ => ∃ r : Int, z = some (vI r) ∧ (-2147483648 ≤ r ∧ r ≤ 2147483647) ∧ tw_I τ ∧ tw_F (fun c j => (c = 10 ∧ (j = 10))) σ τ ∧ ((r = -1 ∧ ¬ (0 ≤ n ∧ n ≤ σ 10 10) ∧ τ 10 10 = σ 10 10) ∨ (r = σ 10 10 ∧ 0 ≤ n ∧ n ≤ σ 10 10 ∧ τ 10 10 = n))
set_option maxHeartbeats 4000000 in
set_option maxRecDepth 100000 in
theorem c_X11_end {G : tw_G} (hX : tw_isX G) (n : Int) (hn : -2147483648 ≤ n ∧ n ≤ 2147483647) (σ : tw_M) (hI : tw_I σ) : tw_C G yX11_end cX11_end 3 (some .int) 0 [vR 0, vI n] σ (q_X11_end n σ) := by
  refine tw_met [(0, vR 0), (1, vI n)] (by decide +kernel) rfl (Nat.le_of_ble_eq_true rfl) ?_
  refine j_iload_n (pc := 0) dX11_end_0 rfl rfl ?_
  refine j_ifR_lt (pc := 1) (tgt := 15) ⟨by omega, by omega⟩ dX11_end_1 rfl (fun h1 => ?_) (fun h1 => ?_)
  · refine j_iconst (pc := 15) dX11_end_15 ?_
    exact j_iret (pc := 16) ⟨rfl, rfl⟩ dX11_end_16 rfl ⟨_, rfl, ⟨by omega, by omega⟩, hI, (tw_F_rf), by omega⟩
  · refine j_iload_n (pc := 4) dX11_end_4 rfl rfl ?_
    refine j_aload_n (pc := 5) dX11_end_5 rfl rfl ?_
    refine j_getR (pc := 6) (r := 10) fl_X11_19 dX11_end_6 (a_0 hX) rfl ?_
    refine j_getI (pc := 9) fl_X11_106 dX11_end_9 (a_10 hX) rfl ?_
    have f2 : (0 : Int) ≤ σ 10 10 ∧ σ 10 10 ≤ 400 := hI 10 10
    refine j_icmpR_le (pc := 12) (tgt := 17) ⟨by omega, by omega⟩ ⟨by omega, by omega⟩ dX11_end_12 rfl (fun h3 => ?_) (fun h3 => ?_)
    · refine j_aload_n (pc := 17) dX11_end_17 rfl rfl ?_
      refine j_getR (pc := 18) (r := 10) fl_X11_19 dX11_end_18 (a_0 hX) rfl ?_
      refine j_getI (pc := 21) fl_X11_106 dX11_end_21 (a_10 hX) rfl ?_
      refine j_istore_n (pc := 24) (i := 2) (ls' := [(0, vR 0), (1, vI n), (2, vI (σ 10 10))]) [1, 2, 0] dX11_end_24 rfl (Nat.le_of_ble_eq_true rfl) rfl rfl ?_
      refine j_aload_n (pc := 25) dX11_end_25 rfl rfl ?_
      refine j_getR (pc := 26) (r := 10) fl_X11_19 dX11_end_26 (a_0 hX) rfl ?_
      refine j_iload_n (pc := 29) dX11_end_29 rfl rfl ?_
      refine j_putI (pc := 30) fl_X11_106 fp_X9_10 dX11_end_30 (a_10 hX) rfl (j_nm (fun σ4 (eσ4 : σ4 = tw_up σ 10 10 n) => ?_))
      have hIσ4 : tw_I σ4 := tw_I_up hI eσ4 (show (0 : Int) ≤ n ∧ n ≤ 400 from ⟨by omega, by omega⟩)
      have hFσ4 : tw_F (fun c j => (c = 10 ∧ (j = 10))) σ σ4 := tw_F_up (tw_F_rf) eσ4 (show (10 = 10 ∧ (10 = 10)) from ⟨rfl, rfl⟩)
      refine j_iload_n (pc := 33) dX11_end_33 rfl rfl ?_
      have y5 : σ4 10 10 = n := (tw_eq1 eσ4)
      exact j_iret (pc := 34) ⟨rfl, rfl⟩ dX11_end_34 rfl ⟨_, rfl, ⟨by omega, by omega⟩, hIσ4, hFσ4, by omega⟩
    · refine j_iconst (pc := 15) dX11_end_15 ?_
      exact j_iret (pc := 16) ⟨rfl, rfl⟩ dX11_end_16 rfl ⟨_, rfl, ⟨by omega, by omega⟩, hI, (tw_F_rf), by omega⟩
