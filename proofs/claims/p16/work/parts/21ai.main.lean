/-! 21ai.main -/
theorem dX11_down_0 : decode cX11_down 0 = .ok (.iload_n 1, 1) := by decide +kernel
theorem dX11_down_1 : decode cX11_down 1 = .ok (.ifCond .eq 16, 3) := by decide +kernel
theorem dX11_down_4 : decode cX11_down 4 = .ok (.aload_n 0, 1) := by decide +kernel
theorem dX11_down_5 : decode cX11_down 5 = .ok (.getfield 10, 3) := by decide +kernel
theorem dX11_down_8 : decode cX11_down 8 = .ok (.iload_n 1, 1) := by decide +kernel
theorem dX11_down_9 : decode cX11_down 9 = .ok (.invokevirtual 149, 3) := by decide +kernel
theorem dX11_down_12 : decode cX11_down 12 = .ok (.ifCond .ne 5, 3) := by decide +kernel
theorem dX11_down_15 : decode cX11_down 15 = .ok (.iconst (-1), 1) := by decide +kernel
theorem dX11_down_16 : decode cX11_down 16 = .ok (.ireturn, 1) := by decide +kernel
theorem dX11_down_17 : decode cX11_down 17 = .ok (.aload_n 0, 1) := by decide +kernel
theorem dX11_down_18 : decode cX11_down 18 = .ok (.getfield 74, 3) := by decide +kernel
theorem dX11_down_21 : decode cX11_down 21 = .ok (.iload_n 1, 1) := by decide +kernel
theorem dX11_down_22 : decode cX11_down 22 = .ok (.invokevirtual 356, 3) := by decide +kernel
theorem dX11_down_25 : decode cX11_down 25 = .ok (.istore_n 2, 1) := by decide +kernel
theorem dX11_down_26 : decode cX11_down 26 = .ok (.iload_n 2, 1) := by decide +kernel
theorem dX11_down_27 : decode cX11_down 27 = .ok (.ifCond .ge 8, 3) := by decide +kernel
theorem dX11_down_30 : decode cX11_down 30 = .ok (.bipush (-4), 2) := by decide +kernel
theorem dX11_down_32 : decode cX11_down 32 = .ok (.goto 4, 3) := by decide +kernel
theorem dX11_down_35 : decode cX11_down 35 = .ok (.iload_n 2, 1) := by decide +kernel
theorem dX11_down_36 : decode cX11_down 36 = .ok (.ireturn, 1) := by decide +kernel
abbrev q_X11_down (h : Int) (σ : tw_M) : Option tw_V → tw_M → Prop := fun z τ => ∃ r : Int, z = some (vI r) ∧ (-2147483648 ≤ r ∧ r ≤ 2147483647) ∧ tw_I τ ∧ tw_F (fun c j => c = 73) σ τ ∧ True
set_option maxHeartbeats 4000000 in
set_option maxRecDepth 100000 in
theorem c_X11_down {G : tw_G} (hX : tw_isX G) (h : Int) (hh : -2147483648 ≤ h ∧ h ≤ 2147483647) (σ : tw_M) (hI : tw_I σ) : tw_C G yX11_down cX11_down 3 (some .int) 4 [vR 0, vI h] σ (q_X11_down h σ) := by
  refine tw_met [(0, vR 0), (1, vI h)] (by decide +kernel) rfl (Nat.le_of_ble_eq_true rfl) ?_
  refine j_iload_n (pc := 0) dX11_down_0 rfl rfl ?_
  refine j_ifR_eq (pc := 1) (tgt := 17) ⟨by omega, by omega⟩ dX11_down_1 rfl (fun h1 => ?_) (fun h1 => ?_)
  · refine j_aload_n (pc := 17) dX11_down_17 rfl rfl ?_
    refine j_getR (pc := 18) (r := 71) fl_X11_74 dX11_down_18 (a_0 hX) rfl ?_
    refine j_iload_n (pc := 21) dX11_down_21 rfl rfl ?_
    refine j_callV (pc := 22) (As := [vI h]) (st := []) (c_X6_leftFrom hX h ⟨by omega, by omega⟩ σ hI) mv_X11_356 rfl rfl rfl (a_71 hX) dX11_down_22 ⟨Nat.le_of_ble_eq_true rfl, Nat.le_of_ble_eq_true rfl⟩ ⟨Nat.le_refl _, Nat.le_refl _⟩ rfl (Nat.le_of_ble_eq_true rfl) rfl (fun z2 σ3 hz2 => ?_)
    obtain ⟨r5, rfl, hr5, hIσ3, hGσ3, -⟩ := hz2
    have hFσ3 : tw_F (fun c j => c = 73) σ σ3 := tw_F_tr (tw_F_rf) hGσ3 (fun c j q => (show c = 73 from by replace q : c = 73 := q; exact q))
    refine j_st (st' := [vI r5]) rfl ?_
    refine j_istore_n (pc := 25) (i := 2) (ls' := [(2, vI r5)]) [0] dX11_down_25 rfl (Nat.le_of_ble_eq_true rfl) rfl rfl ?_
    refine j_iload_n (pc := 26) dX11_down_26 rfl rfl ?_
    refine j_ifR_ge (pc := 27) (tgt := 35) ⟨by omega, by omega⟩ dX11_down_27 rfl (fun h6 => ?_) (fun h6 => ?_)
    · refine j_iload_n (pc := 35) dX11_down_35 rfl rfl ?_
      exact j_iret (pc := 36) ⟨rfl, rfl⟩ dX11_down_36 rfl ⟨_, rfl, ⟨by omega, by omega⟩, hIσ3, hFσ3, trivial⟩
    · refine j_bipush (pc := 30) dX11_down_30 rfl ?_
      refine j_goto (pc := 32) (tgt := 36) dX11_down_32 rfl ?_
      exact j_iret (pc := 36) ⟨rfl, rfl⟩ dX11_down_36 rfl ⟨_, rfl, ⟨by omega, by omega⟩, hIσ3, hFσ3, trivial⟩
  · refine j_aload_n (pc := 4) dX11_down_4 rfl rfl ?_
    refine j_getR (pc := 5) (r := 1) fl_X11_10 dX11_down_5 (a_0 hX) rfl ?_
    refine j_iload_n (pc := 8) dX11_down_8 rfl rfl ?_
    refine j_callV (pc := 9) (As := [vI h]) (st := []) (c_X10_isFoot 1 (s_Wall_1 hX) h ⟨by omega, by omega⟩ σ hI) mv_X11_149 rfl rfl rfl (a_1 hX) dX11_down_9 ⟨Nat.le_of_ble_eq_true rfl, Nat.le_of_ble_eq_true rfl⟩ ⟨Nat.le_refl _, Nat.le_refl _⟩ rfl (Nat.le_of_ble_eq_true rfl) rfl (fun z7 σ8 hz7 => ?_)
    obtain ⟨r10, rfl, hr10, rfl, q9_0⟩ := hz7
    replace q9_0 : (r10 = 1 ∧ 1 ≤ h ∧ h ≤ σ 2 0 ∧ h ≤ 40) ∨ (r10 = 0 ∧ ¬ (1 ≤ h ∧ h ≤ σ 2 0)) := q9_0
    refine j_st (st' := [vI r10]) rfl ?_
    refine j_ifR_ne (pc := 12) (tgt := 17) ⟨by omega, by omega⟩ dX11_down_12 rfl (fun h11 => ?_) (fun h11 => ?_)
    · refine j_aload_n (pc := 17) dX11_down_17 rfl rfl ?_
      refine j_getR (pc := 18) (r := 71) fl_X11_74 dX11_down_18 (a_0 hX) rfl ?_
      refine j_iload_n (pc := 21) dX11_down_21 rfl rfl ?_
      refine j_callV (pc := 22) (As := [vI h]) (st := []) (c_X6_leftFrom hX h ⟨by omega, by omega⟩ σ hI) mv_X11_356 rfl rfl rfl (a_71 hX) dX11_down_22 ⟨Nat.le_of_ble_eq_true rfl, Nat.le_of_ble_eq_true rfl⟩ ⟨Nat.le_refl _, Nat.le_refl _⟩ rfl (Nat.le_of_ble_eq_true rfl) rfl (fun z12 σ13 hz12 => ?_)
      obtain ⟨r15, rfl, hr15, hIσ13, hGσ13, -⟩ := hz12
      have hFσ13 : tw_F (fun c j => c = 73) σ σ13 := tw_F_tr (tw_F_rf) hGσ13 (fun c j q => (show c = 73 from by replace q : c = 73 := q; exact q))
      refine j_st (st' := [vI r15]) rfl ?_
      refine j_istore_n (pc := 25) (i := 2) (ls' := [(2, vI r15)]) [0] dX11_down_25 rfl (Nat.le_of_ble_eq_true rfl) rfl rfl ?_
      refine j_iload_n (pc := 26) dX11_down_26 rfl rfl ?_
      refine j_ifR_ge (pc := 27) (tgt := 35) ⟨by omega, by omega⟩ dX11_down_27 rfl (fun h16 => ?_) (fun h16 => ?_)
      · refine j_iload_n (pc := 35) dX11_down_35 rfl rfl ?_
        exact j_iret (pc := 36) ⟨rfl, rfl⟩ dX11_down_36 rfl ⟨_, rfl, ⟨by omega, by omega⟩, hIσ13, hFσ13, trivial⟩
      · refine j_bipush (pc := 30) dX11_down_30 rfl ?_
        refine j_goto (pc := 32) (tgt := 36) dX11_down_32 rfl ?_
        exact j_iret (pc := 36) ⟨rfl, rfl⟩ dX11_down_36 rfl ⟨_, rfl, ⟨by omega, by omega⟩, hIσ13, hFσ13, trivial⟩
    · refine j_iconst (pc := 15) dX11_down_15 ?_
      exact j_iret (pc := 16) ⟨rfl, rfl⟩ dX11_down_16 rfl ⟨_, rfl, ⟨by omega, by omega⟩, hI, (tw_F_rf), trivial⟩
