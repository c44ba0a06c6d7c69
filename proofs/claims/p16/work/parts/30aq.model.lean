/-! 30aq.model -/
theorem dX12_canBegin_0 : decode cX12_canBegin 0 = .ok (.iload_n 1, 1) := by decide +kernel
theorem dX12_canBegin_1 : decode cX12_canBegin 1 = .ok (.aload_n 0, 1) := by decide +kernel
theorem dX12_canBegin_2 : decode cX12_canBegin 2 = .ok (.getfield 17, 3) := by decide +kernel
theorem dX12_canBegin_5 : decode cX12_canBegin 5 = .ok (.bipush 8, 2) := by decide +kernel
theorem dX12_canBegin_7 : decode cX12_canBegin 7 = .ok (.iaload, 1) := by decide +kernel
theorem dX12_canBegin_8 : decode cX12_canBegin 8 = .ok (.iconst 1, 1) := by decide +kernel
theorem dX12_canBegin_9 : decode cX12_canBegin 9 = .ok (.iadd, 1) := by decide +kernel
theorem dX12_canBegin_10 : decode cX12_canBegin 10 = .ok (.if_icmp .gt 38, 3) := by decide +kernel
theorem dX12_canBegin_13 : decode cX12_canBegin 13 = .ok (.aload_n 0, 1) := by decide +kernel
theorem dX12_canBegin_14 : decode cX12_canBegin 14 = .ok (.getfield 50, 3) := by decide +kernel
theorem dX12_canBegin_17 : decode cX12_canBegin 17 = .ok (.iload_n 1, 1) := by decide +kernel
theorem dX12_canBegin_18 : decode cX12_canBegin 18 = .ok (.iaload, 1) := by decide +kernel
theorem dX12_canBegin_19 : decode cX12_canBegin 19 = .ok (.bipush (-4), 2) := by decide +kernel
theorem dX12_canBegin_21 : decode cX12_canBegin 21 = .ok (.if_icmp .eq 27, 3) := by decide +kernel
theorem dX12_canBegin_24 : decode cX12_canBegin 24 = .ok (.iload_n 1, 1) := by decide +kernel
theorem dX12_canBegin_25 : decode cX12_canBegin 25 = .ok (.aload_n 0, 1) := by decide +kernel
theorem dX12_canBegin_26 : decode cX12_canBegin 26 = .ok (.getfield 17, 3) := by decide +kernel
theorem dX12_canBegin_29 : decode cX12_canBegin 29 = .ok (.bipush 8, 2) := by decide +kernel
theorem dX12_canBegin_31 : decode cX12_canBegin 31 = .ok (.iaload, 1) := by decide +kernel
theorem dX12_canBegin_32 : decode cX12_canBegin 32 = .ok (.if_icmp .le 12, 3) := by decide +kernel
theorem dX12_canBegin_35 : decode cX12_canBegin 35 = .ok (.aload_n 0, 1) := by decide +kernel
theorem dX12_canBegin_36 : decode cX12_canBegin 36 = .ok (.iload_n 1, 1) := by decide +kernel
theorem dX12_canBegin_37 : decode cX12_canBegin 37 = .ok (.iload_n 1, 1) := by decide +kernel
theorem dX12_canBegin_38 : decode cX12_canBegin 38 = .ok (.invokevirtual 356, 3) := by decide +kernel
theorem dX12_canBegin_41 : decode cX12_canBegin 41 = .ok (.ifCond .eq 7, 3) := by decide +kernel
theorem dX12_canBegin_44 : decode cX12_canBegin 44 = .ok (.iconst 1, 1) := by decide +kernel
theorem dX12_canBegin_45 : decode cX12_canBegin 45 = .ok (.goto 4, 3) := by decide +kernel
theorem dX12_canBegin_48 : decode cX12_canBegin 48 = .ok (.iconst 0, 1) := by decide +kernel
theorem dX12_canBegin_49 : decode cX12_canBegin 49 = .ok (.ireturn, 1) := by decide +kernel
abbrev q_X12_canBegin (b : Int) (σ : tw_M) : Option tw_V → tw_M → Prop := fun z τ => ∃ r : Int, z = some (vI r) ∧ (0 ≤ r ∧ r ≤ 1) ∧ tw_I τ ∧ tw_F (fun c j => (c = 88 ∧ (j = 19 ∨ j = 23))) σ τ ∧ (r = 0 ∨ ¬ σ 102 b.toNat = -4)
set_option maxHeartbeats 4000000 in
set_option maxRecDepth 100000 in
theorem c_X12_canBegin {G : tw_G} (hM : tw_isM G) (b : Int) (hb : 1 ≤ b ∧ b ≤ 40) (σ : tw_M) (hI : tw_I σ) : tw_C G yX12_canBegin cX12_canBegin 2 (some .boolean) 3 [vR 88, vI b] σ (q_X12_canBegin b σ) := by
  refine tw_met [(0, vR 88), (1, vI b)] (by decide +kernel) rfl (Nat.le_of_ble_eq_true rfl) ?_
  refine j_iload_n (pc := 0) dX12_canBegin_0 rfl rfl ?_
  refine j_aload_n (pc := 1) dX12_canBegin_1 rfl rfl ?_
  refine j_getR (pc := 2) (r := 91) fl_X12_17 dX12_canBegin_2 (a_88 hM) rfl ?_
  refine j_bipush (pc := 5) dX12_canBegin_5 rfl ?_
  refine j_iald (pc := 7) dX12_canBegin_7 (a_91 hM) (by omega) (by omega) (by decide) ?_
  refine j_topV (show σ 91 (Int.toNat 8) = σ 91 8 from rfl) ?_
  have f1 : (0 : Int) ≤ σ 91 8 ∧ σ 91 8 ≤ 9 := hI 91 8
  refine j_iconst (pc := 8) dX12_canBegin_8 ?_
  refine j_iadd (pc := 9) dX12_canBegin_9 ?_
  refine j_icmpR_gt (pc := 10) (tgt := 48) ⟨by omega, by omega⟩ ⟨by omega, by omega⟩ dX12_canBegin_10 rfl (fun h2 => ?_) (fun h2 => ?_)
  · refine j_iconst (pc := 48) dX12_canBegin_48 ?_
    exact j_zret (pc := 49) ⟨rfl, rfl⟩ dX12_canBegin_49 rfl (nar_bool (by omega) (by omega)) ⟨_, rfl, ⟨by omega, by omega⟩, hI, (tw_F_rf), by omega⟩
  · refine j_aload_n (pc := 13) dX12_canBegin_13 rfl rfl ?_
    refine j_getR (pc := 14) (r := 102) fl_X12_50 dX12_canBegin_14 (a_88 hM) rfl ?_
    refine j_iload_n (pc := 17) dX12_canBegin_17 rfl rfl ?_
    refine j_iald (pc := 18) dX12_canBegin_18 (a_102 hM) (by omega) (by omega) (by decide) ?_
    have f3 : (-2147483648 : Int) ≤ σ 102 (b.toNat) ∧ σ 102 (b.toNat) ≤ 2147483647 := hI 102 (b.toNat)
    refine j_bipush (pc := 19) dX12_canBegin_19 rfl ?_
    refine j_icmpR_eq (pc := 21) (tgt := 48) ⟨by omega, by omega⟩ ⟨by omega, by omega⟩ dX12_canBegin_21 rfl (fun h4 => ?_) (fun h4 => ?_)
    · refine j_iconst (pc := 48) dX12_canBegin_48 ?_
      exact j_zret (pc := 49) ⟨rfl, rfl⟩ dX12_canBegin_49 rfl (nar_bool (by omega) (by omega)) ⟨_, rfl, ⟨by omega, by omega⟩, hI, (tw_F_rf), by omega⟩
    · refine j_iload_n (pc := 24) dX12_canBegin_24 rfl rfl ?_
      refine j_aload_n (pc := 25) dX12_canBegin_25 rfl rfl ?_
      refine j_getR (pc := 26) (r := 91) fl_X12_17 dX12_canBegin_26 (a_88 hM) rfl ?_
      refine j_bipush (pc := 29) dX12_canBegin_29 rfl ?_
      refine j_iald (pc := 31) dX12_canBegin_31 (a_91 hM) (by omega) (by omega) (by decide) ?_
      refine j_topV (show σ 91 (Int.toNat 8) = σ 91 8 from rfl) ?_
      refine j_icmpR_le (pc := 32) (tgt := 44) ⟨by omega, by omega⟩ ⟨by omega, by omega⟩ dX12_canBegin_32 rfl (fun h5 => ?_) (fun h5 => ?_)
      · refine j_iconst (pc := 44) dX12_canBegin_44 ?_
        refine j_goto (pc := 45) (tgt := 49) dX12_canBegin_45 rfl ?_
        exact j_zret (pc := 49) ⟨rfl, rfl⟩ dX12_canBegin_49 rfl (nar_bool (by omega) (by omega)) ⟨_, rfl, ⟨by omega, by omega⟩, hI, (tw_F_rf), by omega⟩
      · refine j_aload_n (pc := 35) dX12_canBegin_35 rfl rfl ?_
        refine j_iload_n (pc := 36) dX12_canBegin_36 rfl rfl ?_
        refine j_iload_n (pc := 37) dX12_canBegin_37 rfl rfl ?_
        refine j_callV (pc := 38) (As := [vI b, vI b]) (st := []) (c_X12_isClear hM b ⟨by omega, by omega⟩ b ⟨by omega, by omega⟩ σ hI) mv_X12_356 rfl rfl rfl (a_88 hM) dX12_canBegin_38 ⟨Nat.le_of_ble_eq_true rfl, Nat.le_of_ble_eq_true rfl⟩ ⟨Nat.le_refl _, Nat.le_refl _⟩ rfl (Nat.le_of_ble_eq_true rfl) rfl (fun z6 σ7 hz6 => ?_)
        obtain ⟨r9, rfl, hr9, hIσ7, hGσ7, q8_0⟩ := hz6
        replace q8_0 : (r9 = 1 ∧ mIC σ b b) ∨ (r9 = 0 ∧ ¬ mIC σ b b) := q8_0
        have hFσ7 : tw_F (fun c j => (c = 88 ∧ (j = 19 ∨ j = 23))) σ σ7 := tw_F_tr (tw_F_rf) hGσ7 (fun c j q => (show (c = 88 ∧ (j = 19 ∨ j = 23)) from by replace q : (c = 88 ∧ (j = 19 ∨ j = 23)) := q; exact q))
        refine j_st (st' := [vI r9]) rfl ?_
        refine j_ifR_eq (pc := 41) (tgt := 48) ⟨by omega, by omega⟩ dX12_canBegin_41 rfl (fun h10 => ?_) (fun h10 => ?_)
        · refine j_iconst (pc := 48) dX12_canBegin_48 ?_
          exact j_zret (pc := 49) ⟨rfl, rfl⟩ dX12_canBegin_49 rfl (nar_bool (by omega) (by omega)) ⟨_, rfl, ⟨by omega, by omega⟩, hIσ7, hFσ7, by omega⟩
        · refine j_iconst (pc := 44) dX12_canBegin_44 ?_
          refine j_goto (pc := 45) (tgt := 49) dX12_canBegin_45 rfl ?_
          exact j_zret (pc := 49) ⟨rfl, rfl⟩ dX12_canBegin_49 rfl (nar_bool (by omega) (by omega)) ⟨_, rfl, ⟨by omega, by omega⟩, hIσ7, hFσ7, by omega⟩
