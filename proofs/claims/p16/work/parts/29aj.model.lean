/-! 29aj.model -/
theorem dX12_isStance_0 : decode cX12_isStance 0 = .ok (.iload_n 1, 1) := by decide +kernel
theorem dX12_isStance_1 : decode cX12_isStance 1 = .ok (.aload_n 0, 1) := by decide +kernel
theorem dX12_isStance_2 : decode cX12_isStance 2 = .ok (.getfield 17, 3) := by decide +kernel
theorem dX12_isStance_5 : decode cX12_isStance 5 = .ok (.iconst 0, 1) := by decide +kernel
theorem dX12_isStance_6 : decode cX12_isStance 6 = .ok (.iaload, 1) := by decide +kernel
theorem dX12_isStance_7 : decode cX12_isStance 7 = .ok (.if_icmp .eq 23, 3) := by decide +kernel
theorem dX12_isStance_10 : decode cX12_isStance 10 = .ok (.aload_n 0, 1) := by decide +kernel
theorem dX12_isStance_11 : decode cX12_isStance 11 = .ok (.iload_n 1, 1) := by decide +kernel
theorem dX12_isStance_12 : decode cX12_isStance 12 = .ok (.iconst 2, 1) := by decide +kernel
theorem dX12_isStance_13 : decode cX12_isStance 13 = .ok (.invokevirtual 184, 3) := by decide +kernel
theorem dX12_isStance_16 : decode cX12_isStance 16 = .ok (.iconst 1, 1) := by decide +kernel
theorem dX12_isStance_17 : decode cX12_isStance 17 = .ok (.if_icmp .eq 13, 3) := by decide +kernel
theorem dX12_isStance_20 : decode cX12_isStance 20 = .ok (.aload_n 0, 1) := by decide +kernel
theorem dX12_isStance_21 : decode cX12_isStance 21 = .ok (.iload_n 1, 1) := by decide +kernel
theorem dX12_isStance_22 : decode cX12_isStance 22 = .ok (.iconst 3, 1) := by decide +kernel
theorem dX12_isStance_23 : decode cX12_isStance 23 = .ok (.invokevirtual 184, 3) := by decide +kernel
theorem dX12_isStance_26 : decode cX12_isStance 26 = .ok (.iconst 1, 1) := by decide +kernel
theorem dX12_isStance_27 : decode cX12_isStance 27 = .ok (.if_icmp .ne 7, 3) := by decide +kernel
theorem dX12_isStance_30 : decode cX12_isStance 30 = .ok (.iconst 1, 1) := by decide +kernel
theorem dX12_isStance_31 : decode cX12_isStance 31 = .ok (.goto 4, 3) := by decide +kernel
theorem dX12_isStance_34 : decode cX12_isStance 34 = .ok (.iconst 0, 1) := by decide +kernel
theorem dX12_isStance_35 : decode cX12_isStance 35 = .ok (.ireturn, 1) := by decide +kernel
abbrev q_X12_isStance (h : Int) (σ : tw_M) : Option tw_V → tw_M → Prop := fun z τ => ∃ r : Int, z = some (vI r) ∧ (0 ≤ r ∧ r ≤ 1) ∧ σ = τ ∧ ((r = 1 ∧ mSt σ h) ∨ (r = 0 ∧ ¬ mSt σ h))
set_option maxHeartbeats 4000000 in
set_option maxRecDepth 100000 in
theorem c_X12_isStance {G : tw_G} (hM : tw_isM G) (h : Int) (hh : 0 ≤ h ∧ h ≤ 40) (σ : tw_M) (hI : tw_I σ) : tw_C G yX12_isStance cX12_isStance 2 (some .boolean) 1 [vR 88, vI h] σ (q_X12_isStance h σ) := by
  refine tw_met [(0, vR 88), (1, vI h)] (by decide +kernel) rfl (Nat.le_of_ble_eq_true rfl) ?_
  refine j_iload_n (pc := 0) dX12_isStance_0 rfl rfl ?_
  refine j_aload_n (pc := 1) dX12_isStance_1 rfl rfl ?_
  refine j_getR (pc := 2) (r := 91) fl_X12_17 dX12_isStance_2 (a_88 hM) rfl ?_
  refine j_iconst (pc := 5) dX12_isStance_5 ?_
  refine j_iald (pc := 6) dX12_isStance_6 (a_91 hM) (by omega) (by omega) (by decide) ?_
  refine j_topV (show σ 91 (Int.toNat 0) = σ 91 0 from rfl) ?_
  have f1 : (1 : Int) ≤ σ 91 0 ∧ σ 91 0 ≤ 40 := hI 91 0
  refine j_icmpR_eq (pc := 7) (tgt := 30) ⟨by omega, by omega⟩ ⟨by omega, by omega⟩ dX12_isStance_7 rfl (fun h2 => ?_) (fun h2 => ?_)
  · refine j_iconst (pc := 30) dX12_isStance_30 ?_
    refine j_goto (pc := 31) (tgt := 35) dX12_isStance_31 rfl ?_
    exact j_zret (pc := 35) ⟨rfl, rfl⟩ dX12_isStance_35 rfl (nar_bool (by omega) (by omega)) ⟨_, rfl, ⟨by omega, by omega⟩, rfl, (by unfold mSt; omega)⟩
  · refine j_aload_n (pc := 10) dX12_isStance_10 rfl rfl ?_
    refine j_iload_n (pc := 11) dX12_isStance_11 rfl rfl ?_
    refine j_iconst (pc := 12) dX12_isStance_12 ?_
    refine j_callV (pc := 13) (As := [vI h, vI 2]) (st := []) (c_X12_of hM h ⟨by omega, by omega⟩ 2 (by (first | decide | exact ⟨by omega, by omega⟩)) σ hI) mv_X12_184 rfl rfl rfl (a_88 hM) dX12_isStance_13 ⟨Nat.le_of_ble_eq_true rfl, Nat.le_of_ble_eq_true rfl⟩ ⟨Nat.le_refl _, Nat.le_refl _⟩ rfl (Nat.le_of_ble_eq_true rfl) rfl (fun z3 σ4 hz3 => ?_)
    obtain ⟨r6, rfl, hr6, rfl, q5_0⟩ := hz3
    replace q5_0 : r6 = σ 92 (5 * h + (2 : Int)).toNat := q5_0
    refine j_st (st' := [vI r6]) rfl ?_
    refine j_iconst (pc := 16) dX12_isStance_16 ?_
    refine j_icmpR_eq (pc := 17) (tgt := 30) ⟨by omega, by omega⟩ ⟨by omega, by omega⟩ dX12_isStance_17 rfl (fun h7 => ?_) (fun h7 => ?_)
    · refine j_iconst (pc := 30) dX12_isStance_30 ?_
      refine j_goto (pc := 31) (tgt := 35) dX12_isStance_31 rfl ?_
      exact j_zret (pc := 35) ⟨rfl, rfl⟩ dX12_isStance_35 rfl (nar_bool (by omega) (by omega)) ⟨_, rfl, ⟨by omega, by omega⟩, rfl, (by unfold mSt; omega)⟩
    · refine j_aload_n (pc := 20) dX12_isStance_20 rfl rfl ?_
      refine j_iload_n (pc := 21) dX12_isStance_21 rfl rfl ?_
      refine j_iconst (pc := 22) dX12_isStance_22 ?_
      refine j_callV (pc := 23) (As := [vI h, vI 3]) (st := []) (c_X12_of hM h ⟨by omega, by omega⟩ 3 (by (first | decide | exact ⟨by omega, by omega⟩)) σ hI) mv_X12_184 rfl rfl rfl (a_88 hM) dX12_isStance_23 ⟨Nat.le_of_ble_eq_true rfl, Nat.le_of_ble_eq_true rfl⟩ ⟨Nat.le_refl _, Nat.le_refl _⟩ rfl (Nat.le_of_ble_eq_true rfl) rfl (fun z8 σ9 hz8 => ?_)
      obtain ⟨r11, rfl, hr11, rfl, q10_0⟩ := hz8
      replace q10_0 : r11 = σ 92 (5 * h + (3 : Int)).toNat := q10_0
      refine j_st (st' := [vI r11]) rfl ?_
      refine j_iconst (pc := 26) dX12_isStance_26 ?_
      refine j_icmpR_ne (pc := 27) (tgt := 34) ⟨by omega, by omega⟩ ⟨by omega, by omega⟩ dX12_isStance_27 rfl (fun h12 => ?_) (fun h12 => ?_)
      · refine j_iconst (pc := 34) dX12_isStance_34 ?_
        exact j_zret (pc := 35) ⟨rfl, rfl⟩ dX12_isStance_35 rfl (nar_bool (by omega) (by omega)) ⟨_, rfl, ⟨by omega, by omega⟩, rfl, (by unfold mSt; omega)⟩
      · refine j_iconst (pc := 30) dX12_isStance_30 ?_
        refine j_goto (pc := 31) (tgt := 35) dX12_isStance_31 rfl ?_
        exact j_zret (pc := 35) ⟨rfl, rfl⟩ dX12_isStance_35 rfl (nar_bool (by omega) (by omega)) ⟨_, rfl, ⟨by omega, by omega⟩, rfl, (by unfold mSt; omega)⟩
