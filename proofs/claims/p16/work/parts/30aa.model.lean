/-! 30aa.model -/
theorem dX12_pitches_0 : decode cX12_pitches 0 = .ok (.iload_n 1, 1) := by decide +kernel
theorem dX12_pitches_1 : decode cX12_pitches 1 = .ok (.ifCond .eq 19, 3) := by decide +kernel
theorem dX12_pitches_4 : decode cX12_pitches 4 = .ok (.iload_n 1, 1) := by decide +kernel
theorem dX12_pitches_5 : decode cX12_pitches 5 = .ok (.i2l, 1) := by decide +kernel
theorem dX12_pitches_6 : decode cX12_pitches 6 = .ok (.ldc2_w 187, 3) := by decide +kernel
theorem dX12_pitches_9 : decode cX12_pitches 9 = .ok (.ldc2_w 329, 3) := by decide +kernel
theorem dX12_pitches_12 : decode cX12_pitches 12 = .ok (.invokestatic 82, 3) := by decide +kernel
theorem dX12_pitches_15 : decode cX12_pitches 15 = .ok (.ifCond .ne 5, 3) := by decide +kernel
theorem dX12_pitches_18 : decode cX12_pitches 18 = .ok (.iconst (-1), 1) := by decide +kernel
theorem dX12_pitches_19 : decode cX12_pitches 19 = .ok (.ireturn, 1) := by decide +kernel
theorem dX12_pitches_20 : decode cX12_pitches 20 = .ok (.aload_n 0, 1) := by decide +kernel
theorem dX12_pitches_21 : decode cX12_pitches 21 = .ok (.invokevirtual 331, 3) := by decide +kernel
theorem dX12_pitches_24 : decode cX12_pitches 24 = .ok (.aload_n 0, 1) := by decide +kernel
theorem dX12_pitches_25 : decode cX12_pitches 25 = .ok (.getfield 326, 3) := by decide +kernel
theorem dX12_pitches_28 : decode cX12_pitches 28 = .ok (.bipush (-4), 2) := by decide +kernel
theorem dX12_pitches_30 : decode cX12_pitches 30 = .ok (.if_icmp .ne 6, 3) := by decide +kernel
theorem dX12_pitches_33 : decode cX12_pitches 33 = .ok (.bipush (-4), 2) := by decide +kernel
theorem dX12_pitches_35 : decode cX12_pitches 35 = .ok (.ireturn, 1) := by decide +kernel
theorem dX12_pitches_36 : decode cX12_pitches 36 = .ok (.iload_n 1, 1) := by decide +kernel
theorem dX12_pitches_37 : decode cX12_pitches 37 = .ok (.ifCond .ne 10, 3) := by decide +kernel
theorem dX12_pitches_40 : decode cX12_pitches 40 = .ok (.aload_n 0, 1) := by decide +kernel
theorem dX12_pitches_41 : decode cX12_pitches 41 = .ok (.getfield 326, 3) := by decide +kernel
theorem dX12_pitches_44 : decode cX12_pitches 44 = .ok (.goto 27, 3) := by decide +kernel
theorem dX12_pitches_47 : decode cX12_pitches 47 = .ok (.iload_n 1, 1) := by decide +kernel
theorem dX12_pitches_48 : decode cX12_pitches 48 = .ok (.bipush 10, 2) := by decide +kernel
theorem dX12_pitches_50 : decode cX12_pitches 50 = .ok (.isub, 1) := by decide +kernel
theorem dX12_pitches_51 : decode cX12_pitches 51 = .ok (.aload_n 0, 1) := by decide +kernel
theorem dX12_pitches_52 : decode cX12_pitches 52 = .ok (.getfield 326, 3) := by decide +kernel
theorem dX12_pitches_55 : decode cX12_pitches 55 = .ok (.if_icmp .ge 15, 3) := by decide +kernel
theorem dX12_pitches_58 : decode cX12_pitches 58 = .ok (.aload_n 0, 1) := by decide +kernel
theorem dX12_pitches_59 : decode cX12_pitches 59 = .ok (.getfield 44, 3) := by decide +kernel
theorem dX12_pitches_62 : decode cX12_pitches 62 = .ok (.iload_n 1, 1) := by decide +kernel
theorem dX12_pitches_63 : decode cX12_pitches 63 = .ok (.bipush 10, 2) := by decide +kernel
theorem dX12_pitches_65 : decode cX12_pitches 65 = .ok (.isub, 1) := by decide +kernel
theorem dX12_pitches_66 : decode cX12_pitches 66 = .ok (.iaload, 1) := by decide +kernel
theorem dX12_pitches_67 : decode cX12_pitches 67 = .ok (.goto 4, 3) := by decide +kernel
theorem dX12_pitches_70 : decode cX12_pitches 70 = .ok (.iconst (-1), 1) := by decide +kernel
theorem dX12_pitches_71 : decode cX12_pitches 71 = .ok (.ireturn, 1) := by decide +kernel
abbrev q_X12_pitches (w : Int) (σ : tw_M) : Option tw_V → tw_M → Prop := fun z τ => ∃ r : Int, z = some (vI r) ∧ (-2147483648 ≤ r ∧ r ≤ 2147483647) ∧ tw_I τ ∧ tw_F (fun c j => (c = 88 ∧ (j = 30)) ∨ (99 ≤ c ∧ c < 101)) σ τ ∧ True
set_option maxHeartbeats 4000000 in
set_option maxRecDepth 100000 in
theorem c_X12_pitches {G : tw_G} (hM : tw_isM G) (w : Int) (hw : -2147483648 ≤ w ∧ w ≤ 2147483647) (σ : tw_M) (hI : tw_I σ) : tw_C G yX12_pitches cX12_pitches 2 (some .int) 3 [vR 88, vI w] σ (q_X12_pitches w σ) := by
  refine tw_met [(0, vR 88), (1, vI w)] (by decide +kernel) rfl (Nat.le_of_ble_eq_true rfl) ?_
  refine j_iload_n (pc := 0) dX12_pitches_0 rfl rfl ?_
  refine j_ifR_eq (pc := 1) (tgt := 20) ⟨by omega, by omega⟩ dX12_pitches_1 rfl (fun h1 => ?_) (fun h1 => ?_)
  · refine j_aload_n (pc := 20) dX12_pitches_20 rfl rfl ?_
    refine j_callV (pc := 21) (As := []) (st := []) (c_X12_findPitches hM σ hI) mv_X12_331 rfl rfl rfl (a_88 hM) dX12_pitches_21 ⟨Nat.le_of_ble_eq_true rfl, Nat.le_of_ble_eq_true rfl⟩ ⟨Nat.le_refl _, Nat.le_refl _⟩ rfl (Nat.le_of_ble_eq_true rfl) rfl (fun z2 σ3 hz2 => ?_)
    obtain ⟨rfl, hIσ3, hGσ3, -⟩ := hz2
    have hFσ3 : tw_F (fun c j => (c = 88 ∧ (j = 30)) ∨ (99 ≤ c ∧ c < 101)) σ σ3 := tw_F_tr (tw_F_rf) hGσ3 (fun c j q => (show (c = 88 ∧ (j = 30)) ∨ (99 ≤ c ∧ c < 101) from by replace q : (c = 88 ∧ (j = 30)) ∨ (99 ≤ c ∧ c < 101) := q; exact q))
    refine j_st (st' := []) rfl ?_
    refine j_aload_n (pc := 24) dX12_pitches_24 rfl rfl ?_
    refine j_getI (pc := 25) fl_X12_326 dX12_pitches_25 (a_88 hM) rfl ?_
    have f6 : (-4 : Int) ≤ σ3 88 30 ∧ σ3 88 30 ≤ 40 := hIσ3 88 30
    refine j_bipush (pc := 28) dX12_pitches_28 rfl ?_
    refine j_icmpR_ne (pc := 30) (tgt := 36) ⟨by omega, by omega⟩ ⟨by omega, by omega⟩ dX12_pitches_30 rfl (fun h7 => ?_) (fun h7 => ?_)
    · refine j_iload_n (pc := 36) dX12_pitches_36 rfl rfl ?_
      refine j_ifR_ne (pc := 37) (tgt := 47) ⟨by omega, by omega⟩ dX12_pitches_37 rfl (fun h8 => by exfalso; omega) (fun h8 => ?_)
      refine j_aload_n (pc := 40) dX12_pitches_40 rfl rfl ?_
      refine j_getI (pc := 41) fl_X12_326 dX12_pitches_41 (a_88 hM) rfl ?_
      refine j_goto (pc := 44) (tgt := 71) dX12_pitches_44 rfl ?_
      exact j_iret (pc := 71) ⟨rfl, rfl⟩ dX12_pitches_71 rfl ⟨_, rfl, ⟨by omega, by omega⟩, hIσ3, hFσ3, trivial⟩
    · refine j_bipush (pc := 33) dX12_pitches_33 rfl ?_
      exact j_iret (pc := 35) ⟨rfl, rfl⟩ dX12_pitches_35 rfl ⟨_, rfl, ⟨by omega, by omega⟩, hIσ3, hFσ3, trivial⟩
  · refine j_iload_n (pc := 4) dX12_pitches_4 rfl rfl ?_
    refine j_i2l (pc := 5) dX12_pitches_5 ?_
    rw [w32_eq (a := w) (by omega) (by omega)]
    refine j_ldc2 (pc := 6) (z := 10) dX12_pitches_6 (tw_inc tm_6 (i := 239) rfl rfl) ?_
    refine j_ldc2 (pc := 9) (z := 49) dX12_pitches_9 (tw_inc tm_7 (i := 182) rfl rfl) ?_
    refine j_callS (pc := 12) (As := [vL w, vL 10, vL 49]) (st := []) (c_X12_in w ⟨by omega, by omega⟩ 10 (by (first | decide | exact ⟨by omega, by omega⟩)) 49 (by (first | decide | exact ⟨by omega, by omega⟩)) σ hI) ms_X12_82 rfl dX12_pitches_12 ⟨Nat.le_of_ble_eq_true rfl, Nat.le_of_ble_eq_true rfl⟩ ⟨Nat.le_refl _, Nat.le_refl _⟩ rfl (Nat.le_of_ble_eq_true rfl) rfl (fun z9 σ10 hz9 => ?_)
    obtain ⟨r12, rfl, hr12, rfl, q11_0⟩ := hz9
    replace q11_0 : (r12 = 1 ∧ (10 : Int) ≤ w ∧ w ≤ (49 : Int)) ∨ (r12 = 0 ∧ ¬ ((10 : Int) ≤ w ∧ w ≤ (49 : Int))) := q11_0
    refine j_st (st' := [vI r12]) rfl ?_
    refine j_ifR_ne (pc := 15) (tgt := 20) ⟨by omega, by omega⟩ dX12_pitches_15 rfl (fun h13 => ?_) (fun h13 => ?_)
    · refine j_aload_n (pc := 20) dX12_pitches_20 rfl rfl ?_
      refine j_callV (pc := 21) (As := []) (st := []) (c_X12_findPitches hM σ hI) mv_X12_331 rfl rfl rfl (a_88 hM) dX12_pitches_21 ⟨Nat.le_of_ble_eq_true rfl, Nat.le_of_ble_eq_true rfl⟩ ⟨Nat.le_refl _, Nat.le_refl _⟩ rfl (Nat.le_of_ble_eq_true rfl) rfl (fun z14 σ15 hz14 => ?_)
      obtain ⟨rfl, hIσ15, hGσ15, -⟩ := hz14
      have hFσ15 : tw_F (fun c j => (c = 88 ∧ (j = 30)) ∨ (99 ≤ c ∧ c < 101)) σ σ15 := tw_F_tr (tw_F_rf) hGσ15 (fun c j q => (show (c = 88 ∧ (j = 30)) ∨ (99 ≤ c ∧ c < 101) from by replace q : (c = 88 ∧ (j = 30)) ∨ (99 ≤ c ∧ c < 101) := q; exact q))
      refine j_st (st' := []) rfl ?_
      refine j_aload_n (pc := 24) dX12_pitches_24 rfl rfl ?_
      refine j_getI (pc := 25) fl_X12_326 dX12_pitches_25 (a_88 hM) rfl ?_
      have f18 : (-4 : Int) ≤ σ15 88 30 ∧ σ15 88 30 ≤ 40 := hIσ15 88 30
      refine j_bipush (pc := 28) dX12_pitches_28 rfl ?_
      refine j_icmpR_ne (pc := 30) (tgt := 36) ⟨by omega, by omega⟩ ⟨by omega, by omega⟩ dX12_pitches_30 rfl (fun h19 => ?_) (fun h19 => ?_)
      · refine j_iload_n (pc := 36) dX12_pitches_36 rfl rfl ?_
        refine j_ifR_ne (pc := 37) (tgt := 47) ⟨by omega, by omega⟩ dX12_pitches_37 rfl (fun h20 => ?_) (fun h20 => ?_)
        · refine j_iload_n (pc := 47) dX12_pitches_47 rfl rfl ?_
          refine j_bipush (pc := 48) dX12_pitches_48 rfl ?_
          refine j_isub (pc := 50) dX12_pitches_50 ?_
          refine j_top (fun z21 ez21 hz21 => ?_)
          have gz21 : w - 10 < -2147483648 ∨ 2147483647 < w - 10 ∨ z21 = w - 10 := by rw [ez21]; exact w32_or _
          refine j_aload_n (pc := 51) dX12_pitches_51 rfl rfl ?_
          refine j_getI (pc := 52) fl_X12_326 dX12_pitches_52 (a_88 hM) rfl ?_
          refine j_icmpR_ge (pc := 55) (tgt := 70) ⟨by omega, by omega⟩ ⟨by omega, by omega⟩ dX12_pitches_55 rfl (fun h22 => ?_) (fun h22 => ?_)
          · refine j_iconst (pc := 70) dX12_pitches_70 ?_
            exact j_iret (pc := 71) ⟨rfl, rfl⟩ dX12_pitches_71 rfl ⟨_, rfl, ⟨by omega, by omega⟩, hIσ15, hFσ15, trivial⟩
          · refine j_aload_n (pc := 58) dX12_pitches_58 rfl rfl ?_
            refine j_getR (pc := 59) (r := 100) fl_X12_44 dX12_pitches_59 (a_88 hM) rfl ?_
            refine j_iload_n (pc := 62) dX12_pitches_62 rfl rfl ?_
            refine j_bipush (pc := 63) dX12_pitches_63 rfl ?_
            refine j_isub (pc := 65) dX12_pitches_65 ?_
            refine j_top (fun z23 ez23 hz23 => ?_)
            have gz23 : w - 10 < -2147483648 ∨ 2147483647 < w - 10 ∨ z23 = w - 10 := by rw [ez23]; exact w32_or _
            refine j_iald (pc := 66) dX12_pitches_66 (a_100 hM) (by omega) (by omega) (by decide) ?_
            have f24 : (0 : Int) ≤ σ15 100 (z23.toNat) ∧ σ15 100 (z23.toNat) ≤ 40 := hIσ15 100 (z23.toNat)
            refine j_goto (pc := 67) (tgt := 71) dX12_pitches_67 rfl ?_
            exact j_iret (pc := 71) ⟨rfl, rfl⟩ dX12_pitches_71 rfl ⟨_, rfl, ⟨by omega, by omega⟩, hIσ15, hFσ15, trivial⟩
        · refine j_aload_n (pc := 40) dX12_pitches_40 rfl rfl ?_
          refine j_getI (pc := 41) fl_X12_326 dX12_pitches_41 (a_88 hM) rfl ?_
          refine j_goto (pc := 44) (tgt := 71) dX12_pitches_44 rfl ?_
          exact j_iret (pc := 71) ⟨rfl, rfl⟩ dX12_pitches_71 rfl ⟨_, rfl, ⟨by omega, by omega⟩, hIσ15, hFσ15, trivial⟩
      · refine j_bipush (pc := 33) dX12_pitches_33 rfl ?_
        exact j_iret (pc := 35) ⟨rfl, rfl⟩ dX12_pitches_35 rfl ⟨_, rfl, ⟨by omega, by omega⟩, hIσ15, hFσ15, trivial⟩
    · refine j_iconst (pc := 18) dX12_pitches_18 ?_
      exact j_iret (pc := 19) ⟨rfl, rfl⟩ dX12_pitches_19 rfl ⟨_, rfl, ⟨by omega, by omega⟩, hI, (tw_F_rf), trivial⟩
