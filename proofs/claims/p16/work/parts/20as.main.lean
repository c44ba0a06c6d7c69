/-! 20as.main -/
theorem dX11_mean_0 : decode cX11_mean 0 = .ok (.aload_n 0, 1) := by decide +kernel
theorem dX11_mean_1 : decode cX11_mean 1 = .ok (.getfield 10, 3) := by decide +kernel
theorem dX11_mean_4 : decode cX11_mean 4 = .ok (.iload_n 1, 1) := by decide +kernel
theorem dX11_mean_5 : decode cX11_mean 5 = .ok (.invokevirtual 149, 3) := by decide +kernel
theorem dX11_mean_8 : decode cX11_mean 8 = .ok (.ifCond .eq 10, 3) := by decide +kernel
theorem dX11_mean_11 : decode cX11_mean 11 = .ok (.iload_n 2, 1) := by decide +kernel
theorem dX11_mean_12 : decode cX11_mean 12 = .ok (.invokestatic 242, 3) := by decide +kernel
theorem dX11_mean_15 : decode cX11_mean 15 = .ok (.ifCond .ne 7, 3) := by decide +kernel
theorem dX11_mean_18 : decode cX11_mean 18 = .ok (.ldc2_w 245, 3) := by decide +kernel
theorem dX11_mean_21 : decode cX11_mean 21 = .ok (.lreturn, 1) := by decide +kernel
theorem dX11_mean_22 : decode cX11_mean 22 = .ok (.aload_n 0, 1) := by decide +kernel
theorem dX11_mean_23 : decode cX11_mean 23 = .ok (.getfield 58, 3) := by decide +kernel
theorem dX11_mean_26 : decode cX11_mean 26 = .ok (.aload_n 0, 1) := by decide +kernel
theorem dX11_mean_27 : decode cX11_mean 27 = .ok (.getfield 26, 3) := by decide +kernel
theorem dX11_mean_30 : decode cX11_mean 30 = .ok (.iload_n 1, 1) := by decide +kernel
theorem dX11_mean_31 : decode cX11_mean 31 = .ok (.iconst 0, 1) := by decide +kernel
theorem dX11_mean_32 : decode cX11_mean 32 = .ok (.invokevirtual 247, 3) := by decide +kernel
theorem dX11_mean_35 : decode cX11_mean 35 = .ok (.aload_n 0, 1) := by decide +kernel
theorem dX11_mean_36 : decode cX11_mean 36 = .ok (.getfield 58, 3) := by decide +kernel
theorem dX11_mean_39 : decode cX11_mean 39 = .ok (.iload_n 2, 1) := by decide +kernel
theorem dX11_mean_40 : decode cX11_mean 40 = .ok (.invokevirtual 251, 3) := by decide +kernel
theorem dX11_mean_43 : decode cX11_mean 43 = .ok (.lreturn, 1) := by decide +kernel
abbrev q_X11_mean (h : Int) (w : Int) (σ : tw_M) : Option tw_V → tw_M → Prop := fun z τ => ∃ r : Int, z = some (vL r) ∧ (-9223372036854775808 ≤ r ∧ r ≤ 9223372036854775807) ∧ tw_I τ ∧ tw_F (fun c j => (c = 58 ∧ (j = 2 ∨ j = 3))) σ τ ∧ True
set_option maxHeartbeats 4000000 in
set_option maxRecDepth 100000 in
theorem c_X11_mean {G : tw_G} (hX : tw_isX G) (h : Int) (hh : -2147483648 ≤ h ∧ h ≤ 2147483647) (w : Int) (hw : -2147483648 ≤ w ∧ w ≤ 2147483647) (σ : tw_M) (hI : tw_I σ) : tw_C G yX11_mean cX11_mean 3 (some .long) 2 [vR 0, vI h, vI w] σ (q_X11_mean h w σ) := by
  refine tw_met [(0, vR 0), (1, vI h), (2, vI w)] (by decide +kernel) rfl (Nat.le_of_ble_eq_true rfl) ?_
  refine j_aload_n (pc := 0) dX11_mean_0 rfl rfl ?_
  refine j_getR (pc := 1) (r := 1) fl_X11_10 dX11_mean_1 (a_0 hX) rfl ?_
  refine j_iload_n (pc := 4) dX11_mean_4 rfl rfl ?_
  refine j_callV (pc := 5) (As := [vI h]) (st := []) (c_X10_isFoot 1 (s_Wall_1 hX) h ⟨by omega, by omega⟩ σ hI) mv_X11_149 rfl rfl rfl (a_1 hX) dX11_mean_5 ⟨Nat.le_of_ble_eq_true rfl, Nat.le_of_ble_eq_true rfl⟩ ⟨Nat.le_refl _, Nat.le_refl _⟩ rfl (Nat.le_of_ble_eq_true rfl) rfl (fun z1 σ2 hz1 => ?_)
  obtain ⟨r4, rfl, hr4, rfl, q3_0⟩ := hz1
  replace q3_0 : (r4 = 1 ∧ 1 ≤ h ∧ h ≤ σ 2 0 ∧ h ≤ 40) ∨ (r4 = 0 ∧ ¬ (1 ≤ h ∧ h ≤ σ 2 0)) := q3_0
  refine j_st (st' := [vI r4]) rfl ?_
  refine j_ifR_eq (pc := 8) (tgt := 18) ⟨by omega, by omega⟩ dX11_mean_8 rfl (fun h5 => ?_) (fun h5 => ?_)
  · refine j_ldc2 (pc := 18) (z := -1) dX11_mean_18 (tw_inc tm_4 (i := 96) rfl rfl) ?_
    exact j_lret (pc := 21) ⟨rfl, rfl⟩ dX11_mean_21 rfl ⟨_, rfl, ⟨by omega, by omega⟩, hI, (tw_F_rf), trivial⟩
  · refine j_iload_n (pc := 11) dX11_mean_11 rfl rfl ?_
    refine j_callS (pc := 12) (As := [vI w]) (st := []) (c_X11_isPart w ⟨by omega, by omega⟩ σ hI) ms_X11_242 rfl dX11_mean_12 ⟨Nat.le_of_ble_eq_true rfl, Nat.le_of_ble_eq_true rfl⟩ ⟨Nat.le_refl _, Nat.le_refl _⟩ rfl (Nat.le_of_ble_eq_true rfl) rfl (fun z6 σ7 hz6 => ?_)
    obtain ⟨r9, rfl, hr9, rfl, q8_0⟩ := hz6
    replace q8_0 : (r9 = 1 ∧ (w = 0 ∨ w = 1)) ∨ (r9 = 0 ∧ ¬ w = 0 ∧ ¬ w = 1) := q8_0
    refine j_st (st' := [vI r9]) rfl ?_
    refine j_ifR_ne (pc := 15) (tgt := 22) ⟨by omega, by omega⟩ dX11_mean_15 rfl (fun h10 => ?_) (fun h10 => ?_)
    · refine j_aload_n (pc := 22) dX11_mean_22 rfl rfl ?_
      refine j_getR (pc := 23) (r := 58) fl_X11_58 dX11_mean_23 (a_0 hX) rfl ?_
      refine j_aload_n (pc := 26) dX11_mean_26 rfl rfl ?_
      refine j_getR (pc := 27) (r := 23) fl_X11_26 dX11_mean_27 (a_0 hX) rfl ?_
      refine j_iload_n (pc := 30) dX11_mean_30 rfl rfl ?_
      refine j_iconst (pc := 31) dX11_mean_31 ?_
      refine j_callV (pc := 32) (As := [vR 23, vI h, vI 0]) (st := []) (c_X1_spread hX 23 (s_Hand_23 hX) h ⟨by omega, by omega⟩ 0 (by (first | decide | exact ⟨by omega, by omega⟩)) σ hI) mv_X11_247 rfl rfl rfl (a_58 hX) dX11_mean_32 ⟨Nat.le_of_ble_eq_true rfl, Nat.le_of_ble_eq_true rfl⟩ ⟨Nat.le_refl _, Nat.le_refl _⟩ rfl (Nat.le_of_ble_eq_true rfl) rfl (fun z11 σ12 hz11 => ?_)
      obtain ⟨rfl, hIσ12, hGσ12, -⟩ := hz11
      have hFσ12 : tw_F (fun c j => (c = 58 ∧ (j = 2 ∨ j = 3))) σ σ12 := tw_F_tr (tw_F_rf) hGσ12 (fun c j q => (show (c = 58 ∧ (j = 2 ∨ j = 3)) from by replace q : (c = 58 ∧ (j = 2 ∨ j = 3)) := q; exact q))
      refine j_st (st' := []) rfl ?_
      refine j_aload_n (pc := 35) dX11_mean_35 rfl rfl ?_
      refine j_getR (pc := 36) (r := 58) fl_X11_58 dX11_mean_36 (a_0 hX) rfl ?_
      refine j_iload_n (pc := 39) dX11_mean_39 rfl rfl ?_
      refine j_callV (pc := 40) (As := [vI w]) (st := []) (c_X1_part hX w ⟨by omega, by omega⟩ σ12 hIσ12) mv_X11_251 rfl rfl rfl (a_58 hX) dX11_mean_40 ⟨Nat.le_of_ble_eq_true rfl, Nat.le_of_ble_eq_true rfl⟩ ⟨Nat.le_refl _, Nat.le_refl _⟩ rfl (Nat.le_of_ble_eq_true rfl) rfl (fun z15 σ16 hz15 => ?_)
      obtain ⟨r18, rfl, hr18, rfl, q17_0⟩ := hz15
      replace q17_0 : (w = 0 ∧ r18 = σ12 58 2) ∨ (¬ w = 0 ∧ r18 = σ12 58 3) := q17_0
      refine j_st (st' := [vL r18]) rfl ?_
      exact j_lret (pc := 43) ⟨rfl, rfl⟩ dX11_mean_43 rfl ⟨_, rfl, ⟨by omega, by omega⟩, hIσ12, hFσ12, trivial⟩
    · refine j_ldc2 (pc := 18) (z := -1) dX11_mean_18 (tw_inc tm_4 (i := 96) rfl rfl) ?_
      exact j_lret (pc := 21) ⟨rfl, rfl⟩ dX11_mean_21 rfl ⟨_, rfl, ⟨by omega, by omega⟩, hI, (tw_F_rf), trivial⟩
