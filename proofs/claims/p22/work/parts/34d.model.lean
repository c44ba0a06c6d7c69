/-! 34d.model -/
theorem dX12_isNumber_0 : decode cX12_isNumber 0 = .ok (.aload_n 0, 1) := by decide +kernel
theorem dX12_isNumber_1 : decode cX12_isNumber 1 = .ok (.getfield 91, 3) := by decide +kernel
theorem dX12_isNumber_4 : decode cX12_isNumber 4 = .ok (.ifCond .ne 21, 3) := by decide +kernel
theorem dX12_isNumber_7 : decode cX12_isNumber 7 = .ok (.aload_n 0, 1) := by decide +kernel
theorem dX12_isNumber_8 : decode cX12_isNumber 8 = .ok (.aload_n 0, 1) := by decide +kernel
theorem dX12_isNumber_9 : decode cX12_isNumber 9 = .ok (.getfield 115, 3) := by decide +kernel
theorem dX12_isNumber_12 : decode cX12_isNumber 12 = .ok (.iconst 2, 1) := by decide +kernel
theorem dX12_isNumber_13 : decode cX12_isNumber 13 = .ok (.if_icmp .ne 7, 3) := by decide +kernel
theorem dX12_isNumber_16 : decode cX12_isNumber 16 = .ok (.iconst 1, 1) := by decide +kernel
theorem dX12_isNumber_17 : decode cX12_isNumber 17 = .ok (.goto 4, 3) := by decide +kernel
theorem dX12_isNumber_20 : decode cX12_isNumber 20 = .ok (.iconst 0, 1) := by decide +kernel
theorem dX12_isNumber_21 : decode cX12_isNumber 21 = .ok (.iconst 2, 1) := by decide +kernel
theorem dX12_isNumber_22 : decode cX12_isNumber 22 = .ok (.invokevirtual 129, 3) := by decide +kernel
theorem dX12_isNumber_25 : decode cX12_isNumber 25 = .ok (.aload_n 0, 1) := by decide +kernel
theorem dX12_isNumber_26 : decode cX12_isNumber 26 = .ok (.getfield 91, 3) := by decide +kernel
theorem dX12_isNumber_29 : decode cX12_isNumber 29 = .ok (.ifCond .ne 20, 3) := by decide +kernel
theorem dX12_isNumber_32 : decode cX12_isNumber 32 = .ok (.aload_n 0, 1) := by decide +kernel
theorem dX12_isNumber_33 : decode cX12_isNumber 33 = .ok (.aload_n 0, 1) := by decide +kernel
theorem dX12_isNumber_34 : decode cX12_isNumber 34 = .ok (.getfield 126, 3) := by decide +kernel
theorem dX12_isNumber_37 : decode cX12_isNumber 37 = .ok (.i2l, 1) := by decide +kernel
theorem dX12_isNumber_38 : decode cX12_isNumber 38 = .ok (.iload_n 1, 1) := by decide +kernel
theorem dX12_isNumber_39 : decode cX12_isNumber 39 = .ok (.i2l, 1) := by decide +kernel
theorem dX12_isNumber_40 : decode cX12_isNumber 40 = .ok (.iload_n 2, 1) := by decide +kernel
theorem dX12_isNumber_41 : decode cX12_isNumber 41 = .ok (.i2l, 1) := by decide +kernel
theorem dX12_isNumber_42 : decode cX12_isNumber 42 = .ok (.invokestatic 82, 3) := by decide +kernel
theorem dX12_isNumber_45 : decode cX12_isNumber 45 = .ok (.iconst 3, 1) := by decide +kernel
theorem dX12_isNumber_46 : decode cX12_isNumber 46 = .ok (.invokevirtual 129, 3) := by decide +kernel
theorem dX12_isNumber_49 : decode cX12_isNumber 49 = .ok (.return_, 1) := by decide +kernel
theorem dX12_readNumber_0 : decode cX12_readNumber 0 = .ok (.aload_n 0, 1) := by decide +kernel
theorem dX12_readNumber_1 : decode cX12_readNumber 1 = .ok (.iload_n 1, 1) := by decide +kernel
theorem dX12_readNumber_2 : decode cX12_readNumber 2 = .ok (.iload_n 2, 1) := by decide +kernel
theorem dX12_readNumber_3 : decode cX12_readNumber 3 = .ok (.invokevirtual 133, 3) := by decide +kernel
theorem dX12_readNumber_6 : decode cX12_readNumber 6 = .ok (.aload_n 0, 1) := by decide +kernel
theorem dX12_readNumber_7 : decode cX12_readNumber 7 = .ok (.getfield 126, 3) := by decide +kernel
theorem dX12_readNumber_10 : decode cX12_readNumber 10 = .ok (.istore_n 3, 1) := by decide +kernel
theorem dX12_readNumber_11 : decode cX12_readNumber 11 = .ok (.aload_n 0, 1) := by decide +kernel
theorem dX12_readNumber_12 : decode cX12_readNumber 12 = .ok (.invokevirtual 137, 3) := by decide +kernel
theorem dX12_readNumber_15 : decode cX12_readNumber 15 = .ok (.iload_n 3, 1) := by decide +kernel
theorem dX12_readNumber_16 : decode cX12_readNumber 16 = .ok (.ireturn, 1) := by decide +kernel
abbrev q_X12_isNumber (a : Int) (b : Int) (σ : tw_M) : Option tw_V → tw_M → Prop := fun z τ => z = none ∧ tw_I τ ∧ tw_F (fun c j => (c = 88 ∧ (j = 17 ∨ j = 18))) σ τ ∧ (¬ τ 88 17 = 0 ∨ (σ 88 17 = 0 ∧ a ≤ σ 88 16 ∧ σ 88 16 ≤ b)) ∧ (aM τ = numS a b (aM σ))
set_option maxHeartbeats 4000000 in
set_option maxRecDepth 100000 in
theorem c_X12_isNumber {G : tw_G} (hM : tw_isM G) (a : Int) (ha : -2147483648 ≤ a ∧ a ≤ 2147483647) (b : Int) (hb : -2147483648 ≤ b ∧ b ≤ 2147483647) (σ : tw_M) (hI : tw_I σ) : tw_C G yX12_isNumber cX12_isNumber 3 none 1 [vR 88, vI a, vI b] σ (q_X12_isNumber a b σ) := by
  refine tw_met [(0, vR 88), (1, vI a), (2, vI b)] (by decide +kernel) rfl (Nat.le_of_ble_eq_true rfl) ?_
  refine j_aload_n (pc := 0) dX12_isNumber_0 rfl rfl ?_
  refine j_getI (pc := 1) fl_X12_91 dX12_isNumber_1 (a_88 hM) rfl ?_
  have f1 : (0 : Int) ≤ σ 88 17 ∧ σ 88 17 ≤ 5 := hI 88 17
  refine j_ifR_ne (pc := 4) (tgt := 25) ⟨by omega, by omega⟩ dX12_isNumber_4 rfl (fun h2 => ?_) (fun h2 => ?_)
  · refine j_aload_n (pc := 25) dX12_isNumber_25 rfl rfl ?_
    refine j_getI (pc := 26) fl_X12_91 dX12_isNumber_26 (a_88 hM) rfl ?_
    refine j_ifR_ne (pc := 29) (tgt := 49) ⟨by omega, by omega⟩ dX12_isNumber_29 rfl (fun h3 => ?_) (fun h3 => by exfalso; omega)
    exact j_vret (pc := 49) ⟨rfl, rfl⟩ dX12_isNumber_49 rfl ⟨rfl, hI, (tw_F_rf), by omega, (by first | exact cc | exact aM_num_no (by omega) | (unfold numS; rw [← c1]; exact (need_pF (by rw [aM_4]; omega)).symm))⟩
  · refine j_aload_n (pc := 7) dX12_isNumber_7 rfl rfl ?_
    refine j_aload_n (pc := 8) dX12_isNumber_8 rfl rfl ?_
    refine j_getI (pc := 9) fl_X12_115 dX12_isNumber_9 (a_88 hM) rfl ?_
    have f4 : (-2147483648 : Int) ≤ σ 88 15 ∧ σ 88 15 ≤ 2147483647 := hI 88 15
    refine j_iconst (pc := 12) dX12_isNumber_12 ?_
    refine j_icmpR_ne (pc := 13) (tgt := 20) ⟨by omega, by omega⟩ ⟨by omega, by omega⟩ dX12_isNumber_13 rfl (fun h5 => ?_) (fun h5 => ?_)
    · refine j_iconst (pc := 20) dX12_isNumber_20 ?_
      refine j_iconst (pc := 21) dX12_isNumber_21 ?_
      refine j_callV (pc := 22) (As := [vI 0, vI 2]) (st := []) (c_X12_needs hM 0 (by (first | decide | exact ⟨by omega, by omega⟩)) 2 (by (first | decide | exact ⟨by omega, by omega⟩)) σ hI) mv_X12_129 rfl rfl rfl (a_88 hM) dX12_isNumber_22 ⟨Nat.le_of_ble_eq_true rfl, Nat.le_of_ble_eq_true rfl⟩ ⟨Nat.le_refl _, Nat.le_refl _⟩ rfl (Nat.le_of_ble_eq_true rfl) rfl (fun z6 σ7 hz6 => ?_)
      obtain ⟨rfl, hIσ7, hGσ7, q8_0, q8_1, q8_2⟩ := hz6
      replace q8_0 : (¬ (0 : Int) = 0 ∧ σ7 88 17 = σ 88 17) ∨ ((0 : Int) = 0 ∧ σ 88 17 = 0 ∧ σ7 88 17 = (2 : Int)) ∨ ((0 : Int) = 0 ∧ ¬ σ 88 17 = 0 ∧ σ7 88 17 = σ 88 17) := q8_0
      replace q8_1 : (¬ (0 : Int) = 0 ∧ σ7 88 17 = σ 88 17 ∧ σ7 88 18 = σ 88 18) ∨ ((0 : Int) = 0 ∧ σ 88 17 = 0 ∧ σ7 88 17 = (2 : Int) ∧ σ7 88 18 = σ 88 14) ∨ ((0 : Int) = 0 ∧ ¬ σ 88 17 = 0 ∧ σ7 88 17 = σ 88 17 ∧ σ7 88 18 = σ 88 18) := q8_1
      replace q8_2 : aM σ7 = need (decide (¬ (0 : Int) = 0)) (2 : Int) (aM σ) := q8_2
      have hFσ7 : tw_F (fun c j => (c = 88 ∧ (j = 17 ∨ j = 18))) σ σ7 := tw_F_tr (tw_F_rf) hGσ7 (fun c j q => (show (c = 88 ∧ (j = 17 ∨ j = 18)) from by replace q : (c = 88 ∧ (j = 17 ∨ j = 18)) := q; exact q))
      refine j_st (st' := []) rfl ?_
      have c1 : aM σ7 = need (decide ((aM σ) 2 = 2)) 2 (aM σ) := (q8_2).trans (need_cg (fun h4 => by rw [aM_4] at h4; rw [aM_2 h4]; exact (decide_eq_decide.mpr (by constructor <;> intro z <;> (first | omega | exact ⟨by omega, by omega⟩)))))
      have y10 : σ7 88 16 = σ 88 16 := (hGσ7 88 16 (show ¬ ((88 = 88 ∧ (16 = 17 ∨ 16 = 18))) from by decide))
      have y11 : σ7 88 15 = σ 88 15 := (hGσ7 88 15 (show ¬ ((88 = 88 ∧ (15 = 17 ∨ 15 = 18))) from by decide))
      skip
      refine j_aload_n (pc := 25) dX12_isNumber_25 rfl rfl ?_
      refine j_getI (pc := 26) fl_X12_91 dX12_isNumber_26 (a_88 hM) rfl ?_
      have f12 : (0 : Int) ≤ σ7 88 17 ∧ σ7 88 17 ≤ 5 := hIσ7 88 17
      refine j_ifR_ne (pc := 29) (tgt := 49) ⟨by omega, by omega⟩ dX12_isNumber_29 rfl (fun h13 => ?_) (fun h13 => ?_)
      · exact j_vret (pc := 49) ⟨rfl, rfl⟩ dX12_isNumber_49 rfl ⟨rfl, hIσ7, hFσ7, by omega, (by first | exact cc | exact aM_num_no (by omega) | (unfold numS; rw [← c1]; exact (need_pF (by rw [aM_4]; omega)).symm))⟩
      · refine j_aload_n (pc := 32) dX12_isNumber_32 rfl rfl ?_
        refine j_aload_n (pc := 33) dX12_isNumber_33 rfl rfl ?_
        refine j_getI (pc := 34) fl_X12_126 dX12_isNumber_34 (a_88 hM) rfl ?_
        refine j_topV (show σ7 88 16 = σ 88 16 from (hGσ7 88 16 (show ¬ ((88 = 88 ∧ (16 = 17 ∨ 16 = 18))) from by decide))) ?_
        have f14 : (-2147483648 : Int) ≤ σ 88 16 ∧ σ 88 16 ≤ 2147483647 := hI 88 16
        refine j_i2l (pc := 37) dX12_isNumber_37 ?_
        rw [w32_eq (a := σ 88 16) (by omega) (by omega)]
        refine j_iload_n (pc := 38) dX12_isNumber_38 rfl rfl ?_
        refine j_i2l (pc := 39) dX12_isNumber_39 ?_
        rw [w32_eq (a := a) (by omega) (by omega)]
        refine j_iload_n (pc := 40) dX12_isNumber_40 rfl rfl ?_
        refine j_i2l (pc := 41) dX12_isNumber_41 ?_
        rw [w32_eq (a := b) (by omega) (by omega)]
        refine j_callS (pc := 42) (As := [vL (σ 88 16), vL a, vL b]) (st := [vR 88]) (c_X12_in (σ 88 16) ⟨by omega, by omega⟩ a ⟨by omega, by omega⟩ b ⟨by omega, by omega⟩ σ7 hIσ7) ms_X12_82 rfl dX12_isNumber_42 ⟨Nat.le_of_ble_eq_true rfl, Nat.le_of_ble_eq_true rfl⟩ ⟨Nat.le_refl _, Nat.le_refl _⟩ rfl (Nat.le_of_ble_eq_true rfl) rfl (fun z15 σ16 hz15 => ?_)
        obtain ⟨r18, rfl, hr18, rfl, q17_0⟩ := hz15
        replace q17_0 : (r18 = 1 ∧ a ≤ (σ 88 16) ∧ (σ 88 16) ≤ b) ∨ (r18 = 0 ∧ ¬ (a ≤ (σ 88 16) ∧ (σ 88 16) ≤ b)) := q17_0
        refine j_st (st' := [vI r18, vR 88]) rfl ?_
        refine j_iconst (pc := 45) dX12_isNumber_45 ?_
        refine j_callV (pc := 46) (As := [vI r18, vI 3]) (st := []) (c_X12_needs hM r18 ⟨by omega, by omega⟩ 3 (by (first | decide | exact ⟨by omega, by omega⟩)) σ7 hIσ7) mv_X12_129 rfl rfl rfl (a_88 hM) dX12_isNumber_46 ⟨Nat.le_of_ble_eq_true rfl, Nat.le_of_ble_eq_true rfl⟩ ⟨Nat.le_refl _, Nat.le_refl _⟩ rfl (Nat.le_of_ble_eq_true rfl) rfl (fun z19 σ20 hz19 => ?_)
        obtain ⟨rfl, hIσ20, hGσ20, q21_0, q21_1, q21_2⟩ := hz19
        replace q21_0 : (¬ r18 = 0 ∧ σ20 88 17 = σ7 88 17) ∨ (r18 = 0 ∧ σ7 88 17 = 0 ∧ σ20 88 17 = (3 : Int)) ∨ (r18 = 0 ∧ ¬ σ7 88 17 = 0 ∧ σ20 88 17 = σ7 88 17) := q21_0
        replace q21_1 : (¬ r18 = 0 ∧ σ20 88 17 = σ7 88 17 ∧ σ20 88 18 = σ7 88 18) ∨ (r18 = 0 ∧ σ7 88 17 = 0 ∧ σ20 88 17 = (3 : Int) ∧ σ20 88 18 = σ7 88 14) ∨ (r18 = 0 ∧ ¬ σ7 88 17 = 0 ∧ σ20 88 17 = σ7 88 17 ∧ σ20 88 18 = σ7 88 18) := q21_1
        have y23 : σ7 88 14 = σ 88 14 := (hGσ7 88 14 (show ¬ ((88 = 88 ∧ (14 = 17 ∨ 14 = 18))) from by decide))
        have f24 : (0 : Int) ≤ σ 88 14 ∧ σ 88 14 ≤ 400 := hI 88 14
        replace q21_2 : aM σ20 = need (decide (¬ r18 = 0)) (3 : Int) (aM σ7) := q21_2
        have hFσ20 : tw_F (fun c j => (c = 88 ∧ (j = 17 ∨ j = 18))) σ σ20 := tw_F_tr hFσ7 hGσ20 (fun c j q => (show (c = 88 ∧ (j = 17 ∨ j = 18)) from by replace q : (c = 88 ∧ (j = 17 ∨ j = 18)) := q; exact q))
        refine j_st (st' := []) rfl ?_
        have cc : aM σ20 = numS a b (aM σ) := by unfold numS; rw [← c1]; exact (q21_2).trans (need_cg (fun h4 => by rw [aM_4] at h4; rw [aM_3 (σ := σ) (by omega) (by omega)]; exact (decide_eq_decide.mpr (by constructor <;> intro z <;> (first | omega | exact ⟨by omega, by omega⟩)))))
        exact j_vret (pc := 49) ⟨rfl, rfl⟩ dX12_isNumber_49 rfl ⟨rfl, hIσ20, hFσ20, by omega, (by first | exact cc | exact aM_num_no (by omega) | (unfold numS; rw [← c1]; exact (need_pF (by rw [aM_4]; omega)).symm))⟩
    · refine j_iconst (pc := 16) dX12_isNumber_16 ?_
      refine j_goto (pc := 17) (tgt := 21) dX12_isNumber_17 rfl ?_
      refine j_iconst (pc := 21) dX12_isNumber_21 ?_
      refine j_callV (pc := 22) (As := [vI 1, vI 2]) (st := []) (c_X12_needs hM 1 (by (first | decide | exact ⟨by omega, by omega⟩)) 2 (by (first | decide | exact ⟨by omega, by omega⟩)) σ hI) mv_X12_129 rfl rfl rfl (a_88 hM) dX12_isNumber_22 ⟨Nat.le_of_ble_eq_true rfl, Nat.le_of_ble_eq_true rfl⟩ ⟨Nat.le_refl _, Nat.le_refl _⟩ rfl (Nat.le_of_ble_eq_true rfl) rfl (fun z25 σ26 hz25 => ?_)
      obtain ⟨rfl, hIσ26, hGσ26, q27_0, q27_1, q27_2⟩ := hz25
      replace q27_0 : (¬ (1 : Int) = 0 ∧ σ26 88 17 = σ 88 17) ∨ ((1 : Int) = 0 ∧ σ 88 17 = 0 ∧ σ26 88 17 = (2 : Int)) ∨ ((1 : Int) = 0 ∧ ¬ σ 88 17 = 0 ∧ σ26 88 17 = σ 88 17) := q27_0
      replace q27_1 : (¬ (1 : Int) = 0 ∧ σ26 88 17 = σ 88 17 ∧ σ26 88 18 = σ 88 18) ∨ ((1 : Int) = 0 ∧ σ 88 17 = 0 ∧ σ26 88 17 = (2 : Int) ∧ σ26 88 18 = σ 88 14) ∨ ((1 : Int) = 0 ∧ ¬ σ 88 17 = 0 ∧ σ26 88 17 = σ 88 17 ∧ σ26 88 18 = σ 88 18) := q27_1
      replace q27_2 : aM σ26 = need (decide (¬ (1 : Int) = 0)) (2 : Int) (aM σ) := q27_2
      have hFσ26 : tw_F (fun c j => (c = 88 ∧ (j = 17 ∨ j = 18))) σ σ26 := tw_F_tr (tw_F_rf) hGσ26 (fun c j q => (show (c = 88 ∧ (j = 17 ∨ j = 18)) from by replace q : (c = 88 ∧ (j = 17 ∨ j = 18)) := q; exact q))
      refine j_st (st' := []) rfl ?_
      have c1 : aM σ26 = need (decide ((aM σ) 2 = 2)) 2 (aM σ) := (q27_2).trans (need_cg (fun h4 => by rw [aM_4] at h4; rw [aM_2 h4]; exact (decide_eq_decide.mpr (by constructor <;> intro z <;> (first | omega | exact ⟨by omega, by omega⟩)))))
      have y29 : σ26 88 16 = σ 88 16 := (hGσ26 88 16 (show ¬ ((88 = 88 ∧ (16 = 17 ∨ 16 = 18))) from by decide))
      have y30 : σ26 88 15 = σ 88 15 := (hGσ26 88 15 (show ¬ ((88 = 88 ∧ (15 = 17 ∨ 15 = 18))) from by decide))
      skip
      refine j_aload_n (pc := 25) dX12_isNumber_25 rfl rfl ?_
      refine j_getI (pc := 26) fl_X12_91 dX12_isNumber_26 (a_88 hM) rfl ?_
      have f31 : (0 : Int) ≤ σ26 88 17 ∧ σ26 88 17 ≤ 5 := hIσ26 88 17
      refine j_ifR_ne (pc := 29) (tgt := 49) ⟨by omega, by omega⟩ dX12_isNumber_29 rfl (fun h32 => ?_) (fun h32 => ?_)
      · exact j_vret (pc := 49) ⟨rfl, rfl⟩ dX12_isNumber_49 rfl ⟨rfl, hIσ26, hFσ26, by omega, (by first | exact cc | exact aM_num_no (by omega) | (unfold numS; rw [← c1]; exact (need_pF (by rw [aM_4]; omega)).symm))⟩
      · refine j_aload_n (pc := 32) dX12_isNumber_32 rfl rfl ?_
        refine j_aload_n (pc := 33) dX12_isNumber_33 rfl rfl ?_
        refine j_getI (pc := 34) fl_X12_126 dX12_isNumber_34 (a_88 hM) rfl ?_
        refine j_topV (show σ26 88 16 = σ 88 16 from (hGσ26 88 16 (show ¬ ((88 = 88 ∧ (16 = 17 ∨ 16 = 18))) from by decide))) ?_
        have f33 : (-2147483648 : Int) ≤ σ 88 16 ∧ σ 88 16 ≤ 2147483647 := hI 88 16
        refine j_i2l (pc := 37) dX12_isNumber_37 ?_
        rw [w32_eq (a := σ 88 16) (by omega) (by omega)]
        refine j_iload_n (pc := 38) dX12_isNumber_38 rfl rfl ?_
        refine j_i2l (pc := 39) dX12_isNumber_39 ?_
        rw [w32_eq (a := a) (by omega) (by omega)]
        refine j_iload_n (pc := 40) dX12_isNumber_40 rfl rfl ?_
        refine j_i2l (pc := 41) dX12_isNumber_41 ?_
        rw [w32_eq (a := b) (by omega) (by omega)]
        refine j_callS (pc := 42) (As := [vL (σ 88 16), vL a, vL b]) (st := [vR 88]) (c_X12_in (σ 88 16) ⟨by omega, by omega⟩ a ⟨by omega, by omega⟩ b ⟨by omega, by omega⟩ σ26 hIσ26) ms_X12_82 rfl dX12_isNumber_42 ⟨Nat.le_of_ble_eq_true rfl, Nat.le_of_ble_eq_true rfl⟩ ⟨Nat.le_refl _, Nat.le_refl _⟩ rfl (Nat.le_of_ble_eq_true rfl) rfl (fun z34 σ35 hz34 => ?_)
        obtain ⟨r37, rfl, hr37, rfl, q36_0⟩ := hz34
        replace q36_0 : (r37 = 1 ∧ a ≤ (σ 88 16) ∧ (σ 88 16) ≤ b) ∨ (r37 = 0 ∧ ¬ (a ≤ (σ 88 16) ∧ (σ 88 16) ≤ b)) := q36_0
        refine j_st (st' := [vI r37, vR 88]) rfl ?_
        refine j_iconst (pc := 45) dX12_isNumber_45 ?_
        refine j_callV (pc := 46) (As := [vI r37, vI 3]) (st := []) (c_X12_needs hM r37 ⟨by omega, by omega⟩ 3 (by (first | decide | exact ⟨by omega, by omega⟩)) σ26 hIσ26) mv_X12_129 rfl rfl rfl (a_88 hM) dX12_isNumber_46 ⟨Nat.le_of_ble_eq_true rfl, Nat.le_of_ble_eq_true rfl⟩ ⟨Nat.le_refl _, Nat.le_refl _⟩ rfl (Nat.le_of_ble_eq_true rfl) rfl (fun z38 σ39 hz38 => ?_)
        obtain ⟨rfl, hIσ39, hGσ39, q40_0, q40_1, q40_2⟩ := hz38
        replace q40_0 : (¬ r37 = 0 ∧ σ39 88 17 = σ26 88 17) ∨ (r37 = 0 ∧ σ26 88 17 = 0 ∧ σ39 88 17 = (3 : Int)) ∨ (r37 = 0 ∧ ¬ σ26 88 17 = 0 ∧ σ39 88 17 = σ26 88 17) := q40_0
        replace q40_1 : (¬ r37 = 0 ∧ σ39 88 17 = σ26 88 17 ∧ σ39 88 18 = σ26 88 18) ∨ (r37 = 0 ∧ σ26 88 17 = 0 ∧ σ39 88 17 = (3 : Int) ∧ σ39 88 18 = σ26 88 14) ∨ (r37 = 0 ∧ ¬ σ26 88 17 = 0 ∧ σ39 88 17 = σ26 88 17 ∧ σ39 88 18 = σ26 88 18) := q40_1
        have y42 : σ26 88 14 = σ 88 14 := (hGσ26 88 14 (show ¬ ((88 = 88 ∧ (14 = 17 ∨ 14 = 18))) from by decide))
        have f43 : (0 : Int) ≤ σ 88 14 ∧ σ 88 14 ≤ 400 := hI 88 14
        replace q40_2 : aM σ39 = need (decide (¬ r37 = 0)) (3 : Int) (aM σ26) := q40_2
        have hFσ39 : tw_F (fun c j => (c = 88 ∧ (j = 17 ∨ j = 18))) σ σ39 := tw_F_tr hFσ26 hGσ39 (fun c j q => (show (c = 88 ∧ (j = 17 ∨ j = 18)) from by replace q : (c = 88 ∧ (j = 17 ∨ j = 18)) := q; exact q))
        refine j_st (st' := []) rfl ?_
        have cc : aM σ39 = numS a b (aM σ) := by unfold numS; rw [← c1]; exact (q40_2).trans (need_cg (fun h4 => by rw [aM_4] at h4; rw [aM_3 (σ := σ) (by omega) (by omega)]; exact (decide_eq_decide.mpr (by constructor <;> intro z <;> (first | omega | exact ⟨by omega, by omega⟩)))))
        exact j_vret (pc := 49) ⟨rfl, rfl⟩ dX12_isNumber_49 rfl ⟨rfl, hIσ39, hFσ39, by omega, (by first | exact cc | exact aM_num_no (by omega) | (unfold numS; rw [← c1]; exact (need_pF (by rw [aM_4]; omega)).symm))⟩
abbrev q_X12_readNumber (a : Int) (b : Int) (σ : tw_M) : Option tw_V → tw_M → Prop := fun z τ => ∃ r : Int, z = some (vI r) ∧ (-2147483648 ≤ r ∧ r ≤ 2147483647) ∧ tw_I τ ∧ tw_F (fun c j => (c = 88 ∧ (j = 13 ∨ j = 14 ∨ j = 15 ∨ j = 16 ∨ j = 17 ∨ j = 18))) σ τ ∧ (¬ τ 88 17 = 0 ∨ (σ 88 17 = 0 ∧ a ≤ r ∧ r ≤ b)) ∧ (σ 88 13 ≤ τ 88 13) ∧ (¬ τ 88 17 = 0 ∨ τ 88 15 = 0 ∨ σ 88 13 < τ 88 13) ∧ (aM τ = tok (fM σ) (numS a b (aM σ))) ∧ ((aM τ) 4 = 0 → r = (numS a b (aM σ)) 3)
set_option maxHeartbeats 4000000 in
set_option maxRecDepth 100000 in
theorem c_X12_readNumber {G : tw_G} (hM : tw_isM G) (a : Int) (ha : -2147483648 ≤ a ∧ a ≤ 2147483647) (b : Int) (hb : -2147483648 ≤ b ∧ b ≤ 2147483647) (σ : tw_M) (hI : tw_I σ) : tw_C G yX12_readNumber cX12_readNumber 4 (some .int) 2 [vR 88, vI a, vI b] σ (q_X12_readNumber a b σ) := by
  refine tw_met [(0, vR 88), (1, vI a), (2, vI b)] (by decide +kernel) rfl (Nat.le_of_ble_eq_true rfl) ?_
  refine j_aload_n (pc := 0) dX12_readNumber_0 rfl rfl ?_
  refine j_iload_n (pc := 1) dX12_readNumber_1 rfl rfl ?_
  refine j_iload_n (pc := 2) dX12_readNumber_2 rfl rfl ?_
  refine j_callV (pc := 3) (As := [vI a, vI b]) (st := []) (c_X12_isNumber hM a ⟨by omega, by omega⟩ b ⟨by omega, by omega⟩ σ hI) mv_X12_133 rfl rfl rfl (a_88 hM) dX12_readNumber_3 ⟨Nat.le_of_ble_eq_true rfl, Nat.le_of_ble_eq_true rfl⟩ ⟨Nat.le_refl _, Nat.le_refl _⟩ rfl (Nat.le_of_ble_eq_true rfl) rfl (fun z1 σ2 hz1 => ?_)
  obtain ⟨rfl, hIσ2, hGσ2, q3_0, q3_1⟩ := hz1
  replace q3_0 : ¬ σ2 88 17 = 0 ∨ (σ 88 17 = 0 ∧ a ≤ σ 88 16 ∧ σ 88 16 ≤ b) := q3_0
  replace q3_1 : aM σ2 = numS a b (aM σ) := q3_1
  have hFσ2 : tw_F (fun c j => (c = 88 ∧ (j = 13 ∨ j = 14 ∨ j = 15 ∨ j = 16 ∨ j = 17 ∨ j = 18))) σ σ2 := tw_F_tr (tw_F_rf) hGσ2 (fun c j q => (show (c = 88 ∧ (j = 13 ∨ j = 14 ∨ j = 15 ∨ j = 16 ∨ j = 17 ∨ j = 18)) from by replace q : (c = 88 ∧ (j = 17 ∨ j = 18)) := q; exact ⟨q.1, (q.2.elim (fun z => (Or.inr (Or.inr (Or.inr (Or.inr (Or.inl z)))))) (fun z => (Or.inr (Or.inr (Or.inr (Or.inr (Or.inr z)))))))⟩))
  refine j_st (st' := []) rfl ?_
  have c1 := q3_1
  have y5 : σ2 88 16 = σ 88 16 := (hGσ2 88 16 (show ¬ ((88 = 88 ∧ (16 = 17 ∨ 16 = 18))) from by decide))
  refine j_aload_n (pc := 6) dX12_readNumber_6 rfl rfl ?_
  refine j_getI (pc := 7) fl_X12_126 dX12_readNumber_7 (a_88 hM) rfl ?_
  refine j_topV (show σ2 88 16 = σ 88 16 from (hGσ2 88 16 (show ¬ ((88 = 88 ∧ (16 = 17 ∨ 16 = 18))) from by decide))) ?_
  have f6 : (-2147483648 : Int) ≤ σ 88 16 ∧ σ 88 16 ≤ 2147483647 := hI 88 16
  refine j_istore_n (pc := 10) (i := 3) (ls' := [(0, vR 88), (3, vI (σ 88 16))]) [1, 0] dX12_readNumber_10 rfl (Nat.le_of_ble_eq_true rfl) rfl rfl ?_
  refine j_aload_n (pc := 11) dX12_readNumber_11 rfl rfl ?_
  have fz : fM σ2 = fM σ := fM_F (hFσ2 88 12 (show ¬ ((88 = 88 ∧ (12 = 13 ∨ 12 = 14 ∨ 12 = 15 ∨ 12 = 16 ∨ 12 = 17 ∨ 12 = 18))) from by decide)) (fun j => hFσ2 98 j (show ¬ ((98 = 88 ∧ (j = 13 ∨ j = 14 ∨ j = 15 ∨ j = 16 ∨ j = 17 ∨ j = 18))) from fun h => absurd h.1 (by decide)))
  refine j_callV (pc := 12) (As := []) (st := []) (c_X12_next hM σ2 hIσ2) mv_X12_137 rfl rfl rfl (a_88 hM) dX12_readNumber_12 ⟨Nat.le_of_ble_eq_true rfl, Nat.le_of_ble_eq_true rfl⟩ ⟨Nat.le_refl _, Nat.le_refl _⟩ rfl (Nat.le_of_ble_eq_true rfl) rfl (fun z7 σ8 hz7 => ?_)
  obtain ⟨rfl, hIσ8, hGσ8, q9_0, q9_1, q9_2, q9_3⟩ := hz7
  replace q9_0 : ¬ σ8 88 17 = 0 ∨ σ2 88 17 = 0 := q9_0
  replace q9_1 : σ2 88 13 ≤ σ8 88 13 := q9_1
  have y11 : σ2 88 13 = σ 88 13 := (hGσ2 88 13 (show ¬ ((88 = 88 ∧ (13 = 17 ∨ 13 = 18))) from by decide))
  have f12 : (0 : Int) ≤ σ 88 13 ∧ σ 88 13 ≤ 400 := hI 88 13
  replace q9_2 : ¬ σ8 88 17 = 0 ∨ σ8 88 15 = 0 ∨ σ2 88 13 < σ8 88 13 := q9_2
  have y13 : σ2 88 13 = σ 88 13 := (hGσ2 88 13 (show ¬ ((88 = 88 ∧ (13 = 17 ∨ 13 = 18))) from by decide))
  replace q9_3 : aM σ8 = tok (fM σ2) (aM σ2) := q9_3
  have hFσ8 : tw_F (fun c j => (c = 88 ∧ (j = 13 ∨ j = 14 ∨ j = 15 ∨ j = 16 ∨ j = 17 ∨ j = 18))) σ σ8 := tw_F_tr hFσ2 hGσ8 (fun c j q => (show (c = 88 ∧ (j = 13 ∨ j = 14 ∨ j = 15 ∨ j = 16 ∨ j = 17 ∨ j = 18)) from by replace q : (c = 88 ∧ (j = 13 ∨ j = 14 ∨ j = 15 ∨ j = 16 ∨ j = 17 ∨ j = 18)) := q; exact q))
  refine j_st (st' := []) rfl ?_
  have c2 := q9_3; rw [fz, c1] at c2
  refine j_iload_n (pc := 15) dX12_readNumber_15 rfl rfl ?_
  exact j_iret (pc := 16) ⟨rfl, rfl⟩ dX12_readNumber_16 rfl ⟨_, rfl, ⟨by omega, by omega⟩, hIσ8, hFσ8, by omega, by omega, by omega, c2, (aM_rv c2 (by omega))⟩
