/-! 20ar.main -/
theorem dX11_harm_0 : decode cX11_harm 0 = .ok (.aload_n 0, 1) := by decide +kernel
theorem dX11_harm_1 : decode cX11_harm 1 = .ok (.getfield 10, 3) := by decide +kernel
theorem dX11_harm_4 : decode cX11_harm 4 = .ok (.iload_n 1, 1) := by decide +kernel
theorem dX11_harm_5 : decode cX11_harm 5 = .ok (.invokevirtual 149, 3) := by decide +kernel
theorem dX11_harm_8 : decode cX11_harm 8 = .ok (.ifCond .eq 21, 3) := by decide +kernel
theorem dX11_harm_11 : decode cX11_harm 11 = .ok (.iload_n 2, 1) := by decide +kernel
theorem dX11_harm_12 : decode cX11_harm 12 = .ok (.iconst 1, 1) := by decide +kernel
theorem dX11_harm_13 : decode cX11_harm 13 = .ok (.if_icmp .lt 16, 3) := by decide +kernel
theorem dX11_harm_16 : decode cX11_harm 16 = .ok (.iload_n 2, 1) := by decide +kernel
theorem dX11_harm_17 : decode cX11_harm 17 = .ok (.bipush 40, 2) := by decide +kernel
theorem dX11_harm_19 : decode cX11_harm 19 = .ok (.if_icmp .gt 10, 3) := by decide +kernel
theorem dX11_harm_22 : decode cX11_harm 22 = .ok (.iload_n 3, 1) := by decide +kernel
theorem dX11_harm_23 : decode cX11_harm 23 = .ok (.invokestatic 242, 3) := by decide +kernel
theorem dX11_harm_26 : decode cX11_harm 26 = .ok (.ifCond .ne 7, 3) := by decide +kernel
theorem dX11_harm_29 : decode cX11_harm 29 = .ok (.ldc2_w 245, 3) := by decide +kernel
theorem dX11_harm_32 : decode cX11_harm 32 = .ok (.lreturn, 1) := by decide +kernel
theorem dX11_harm_33 : decode cX11_harm 33 = .ok (.aload_n 0, 1) := by decide +kernel
theorem dX11_harm_34 : decode cX11_harm 34 = .ok (.getfield 58, 3) := by decide +kernel
theorem dX11_harm_37 : decode cX11_harm 37 = .ok (.aload_n 0, 1) := by decide +kernel
theorem dX11_harm_38 : decode cX11_harm 38 = .ok (.getfield 26, 3) := by decide +kernel
theorem dX11_harm_41 : decode cX11_harm 41 = .ok (.iload_n 1, 1) := by decide +kernel
theorem dX11_harm_42 : decode cX11_harm 42 = .ok (.iload_n 2, 1) := by decide +kernel
theorem dX11_harm_43 : decode cX11_harm 43 = .ok (.invokevirtual 247, 3) := by decide +kernel
theorem dX11_harm_46 : decode cX11_harm 46 = .ok (.aload_n 0, 1) := by decide +kernel
theorem dX11_harm_47 : decode cX11_harm 47 = .ok (.getfield 58, 3) := by decide +kernel
theorem dX11_harm_50 : decode cX11_harm 50 = .ok (.iload_n 3, 1) := by decide +kernel
theorem dX11_harm_51 : decode cX11_harm 51 = .ok (.invokevirtual 251, 3) := by decide +kernel
theorem dX11_harm_54 : decode cX11_harm 54 = .ok (.lreturn, 1) := by decide +kernel
abbrev q_X11_harm (h : Int) (d : Int) (w : Int) (σ : tw_M) : Option tw_V → tw_M → Prop := fun z τ => ∃ r : Int, z = some (vL r) ∧ (-9223372036854775808 ≤ r ∧ r ≤ 9223372036854775807) ∧ tw_I τ ∧ tw_F (fun c j => (c = 58 ∧ (j = 2 ∨ j = 3))) σ τ ∧ True
set_option maxHeartbeats 4000000 in
set_option maxRecDepth 100000 in
theorem c_X11_harm {G : tw_G} (hX : tw_isX G) (h : Int) (hh : -2147483648 ≤ h ∧ h ≤ 2147483647) (d : Int) (hd : -2147483648 ≤ d ∧ d ≤ 2147483647) (w : Int) (hw : -2147483648 ≤ w ∧ w ≤ 2147483647) (σ : tw_M) (hI : tw_I σ) : tw_C G yX11_harm cX11_harm 4 (some .long) 2 [vR 0, vI h, vI d, vI w] σ (q_X11_harm h d w σ) := by
  refine tw_met [(0, vR 0), (1, vI h), (2, vI d), (3, vI w)] (by decide +kernel) rfl (Nat.le_of_ble_eq_true rfl) ?_
  refine j_aload_n (pc := 0) dX11_harm_0 rfl rfl ?_
  refine j_getR (pc := 1) (r := 1) fl_X11_10 dX11_harm_1 (a_0 hX) rfl ?_
  refine j_iload_n (pc := 4) dX11_harm_4 rfl rfl ?_
  refine j_callV (pc := 5) (As := [vI h]) (st := []) (c_X10_isFoot 1 (s_Wall_1 hX) h ⟨by omega, by omega⟩ σ hI) mv_X11_149 rfl rfl rfl (a_1 hX) dX11_harm_5 ⟨Nat.le_of_ble_eq_true rfl, Nat.le_of_ble_eq_true rfl⟩ ⟨Nat.le_refl _, Nat.le_refl _⟩ rfl (Nat.le_of_ble_eq_true rfl) rfl (fun z1 σ2 hz1 => ?_)
  obtain ⟨r4, rfl, hr4, rfl, q3_0⟩ := hz1
  replace q3_0 : (r4 = 1 ∧ 1 ≤ h ∧ h ≤ σ 2 0 ∧ h ≤ 40) ∨ (r4 = 0 ∧ ¬ (1 ≤ h ∧ h ≤ σ 2 0)) := q3_0
  refine j_st (st' := [vI r4]) rfl ?_
  refine j_ifR_eq (pc := 8) (tgt := 29) ⟨by omega, by omega⟩ dX11_harm_8 rfl (fun h5 => ?_) (fun h5 => ?_)
  · refine j_ldc2 (pc := 29) (z := -1) dX11_harm_29 (tw_inc tm_4 (i := 96) rfl rfl) ?_
    exact j_lret (pc := 32) ⟨rfl, rfl⟩ dX11_harm_32 rfl ⟨_, rfl, ⟨by omega, by omega⟩, hI, (tw_F_rf), trivial⟩
  · refine j_iload_n (pc := 11) dX11_harm_11 rfl rfl ?_
    refine j_iconst (pc := 12) dX11_harm_12 ?_
    refine j_icmpR_lt (pc := 13) (tgt := 29) ⟨by omega, by omega⟩ ⟨by omega, by omega⟩ dX11_harm_13 rfl (fun h6 => ?_) (fun h6 => ?_)
    · refine j_ldc2 (pc := 29) (z := -1) dX11_harm_29 (tw_inc tm_4 (i := 96) rfl rfl) ?_
      exact j_lret (pc := 32) ⟨rfl, rfl⟩ dX11_harm_32 rfl ⟨_, rfl, ⟨by omega, by omega⟩, hI, (tw_F_rf), trivial⟩
    · refine j_iload_n (pc := 16) dX11_harm_16 rfl rfl ?_
      refine j_bipush (pc := 17) dX11_harm_17 rfl ?_
      refine j_icmpR_gt (pc := 19) (tgt := 29) ⟨by omega, by omega⟩ ⟨by omega, by omega⟩ dX11_harm_19 rfl (fun h7 => ?_) (fun h7 => ?_)
      · refine j_ldc2 (pc := 29) (z := -1) dX11_harm_29 (tw_inc tm_4 (i := 96) rfl rfl) ?_
        exact j_lret (pc := 32) ⟨rfl, rfl⟩ dX11_harm_32 rfl ⟨_, rfl, ⟨by omega, by omega⟩, hI, (tw_F_rf), trivial⟩
      · refine j_iload_n (pc := 22) dX11_harm_22 rfl rfl ?_
        refine j_callS (pc := 23) (As := [vI w]) (st := []) (c_X11_isPart w ⟨by omega, by omega⟩ σ hI) ms_X11_242 rfl dX11_harm_23 ⟨Nat.le_of_ble_eq_true rfl, Nat.le_of_ble_eq_true rfl⟩ ⟨Nat.le_refl _, Nat.le_refl _⟩ rfl (Nat.le_of_ble_eq_true rfl) rfl (fun z8 σ9 hz8 => ?_)
        obtain ⟨r11, rfl, hr11, rfl, q10_0⟩ := hz8
        replace q10_0 : (r11 = 1 ∧ (w = 0 ∨ w = 1)) ∨ (r11 = 0 ∧ ¬ w = 0 ∧ ¬ w = 1) := q10_0
        refine j_st (st' := [vI r11]) rfl ?_
        refine j_ifR_ne (pc := 26) (tgt := 33) ⟨by omega, by omega⟩ dX11_harm_26 rfl (fun h12 => ?_) (fun h12 => ?_)
        · refine j_aload_n (pc := 33) dX11_harm_33 rfl rfl ?_
          refine j_getR (pc := 34) (r := 58) fl_X11_58 dX11_harm_34 (a_0 hX) rfl ?_
          refine j_aload_n (pc := 37) dX11_harm_37 rfl rfl ?_
          refine j_getR (pc := 38) (r := 23) fl_X11_26 dX11_harm_38 (a_0 hX) rfl ?_
          refine j_iload_n (pc := 41) dX11_harm_41 rfl rfl ?_
          refine j_iload_n (pc := 42) dX11_harm_42 rfl rfl ?_
          refine j_callV (pc := 43) (As := [vR 23, vI h, vI d]) (st := []) (c_X1_spread hX 23 (s_Hand_23 hX) h ⟨by omega, by omega⟩ d ⟨by omega, by omega⟩ σ hI) mv_X11_247 rfl rfl rfl (a_58 hX) dX11_harm_43 ⟨Nat.le_of_ble_eq_true rfl, Nat.le_of_ble_eq_true rfl⟩ ⟨Nat.le_refl _, Nat.le_refl _⟩ rfl (Nat.le_of_ble_eq_true rfl) rfl (fun z13 σ14 hz13 => ?_)
          obtain ⟨rfl, hIσ14, hGσ14, -⟩ := hz13
          have hFσ14 : tw_F (fun c j => (c = 58 ∧ (j = 2 ∨ j = 3))) σ σ14 := tw_F_tr (tw_F_rf) hGσ14 (fun c j q => (show (c = 58 ∧ (j = 2 ∨ j = 3)) from by replace q : (c = 58 ∧ (j = 2 ∨ j = 3)) := q; exact q))
          refine j_st (st' := []) rfl ?_
          refine j_aload_n (pc := 46) dX11_harm_46 rfl rfl ?_
          refine j_getR (pc := 47) (r := 58) fl_X11_58 dX11_harm_47 (a_0 hX) rfl ?_
          refine j_iload_n (pc := 50) dX11_harm_50 rfl rfl ?_
          refine j_callV (pc := 51) (As := [vI w]) (st := []) (c_X1_part hX w ⟨by omega, by omega⟩ σ14 hIσ14) mv_X11_251 rfl rfl rfl (a_58 hX) dX11_harm_51 ⟨Nat.le_of_ble_eq_true rfl, Nat.le_of_ble_eq_true rfl⟩ ⟨Nat.le_refl _, Nat.le_refl _⟩ rfl (Nat.le_of_ble_eq_true rfl) rfl (fun z17 σ18 hz17 => ?_)
          obtain ⟨r20, rfl, hr20, rfl, q19_0⟩ := hz17
          replace q19_0 : (w = 0 ∧ r20 = σ14 58 2) ∨ (¬ w = 0 ∧ r20 = σ14 58 3) := q19_0
          refine j_st (st' := [vL r20]) rfl ?_
          exact j_lret (pc := 54) ⟨rfl, rfl⟩ dX11_harm_54 rfl ⟨_, rfl, ⟨by omega, by omega⟩, hIσ14, hFσ14, trivial⟩
        · refine j_ldc2 (pc := 29) (z := -1) dX11_harm_29 (tw_inc tm_4 (i := 96) rfl rfl) ?_
          exact j_lret (pc := 32) ⟨rfl, rfl⟩ dX11_harm_32 rfl ⟨_, rfl, ⟨by omega, by omega⟩, hI, (tw_F_rf), trivial⟩
