/-! 30an.model -/
theorem dX12_isClear_0 : decode cX12_isClear 0 = .ok (.aload_n 0, 1) := by decide +kernel
theorem dX12_isClear_1 : decode cX12_isClear 1 = .ok (.iload_n 1, 1) := by decide +kernel
theorem dX12_isClear_2 : decode cX12_isClear 2 = .ok (.aload_n 0, 1) := by decide +kernel
theorem dX12_isClear_3 : decode cX12_isClear 3 = .ok (.iload_n 1, 1) := by decide +kernel
theorem dX12_isClear_4 : decode cX12_isClear 4 = .ok (.iload_n 2, 1) := by decide +kernel
theorem dX12_isClear_5 : decode cX12_isClear 5 = .ok (.invokevirtual 235, 3) := by decide +kernel
theorem dX12_isClear_8 : decode cX12_isClear 8 = .ok (.isub, 1) := by decide +kernel
theorem dX12_isClear_9 : decode cX12_isClear 9 = .ok (.putfield 220, 3) := by decide +kernel
theorem dX12_isClear_12 : decode cX12_isClear 12 = .ok (.aload_n 0, 1) := by decide +kernel
theorem dX12_isClear_13 : decode cX12_isClear 13 = .ok (.iload_n 1, 1) := by decide +kernel
theorem dX12_isClear_14 : decode cX12_isClear 14 = .ok (.invokevirtual 238, 3) := by decide +kernel
theorem dX12_isClear_17 : decode cX12_isClear 17 = .ok (.aload_n 0, 1) := by decide +kernel
theorem dX12_isClear_18 : decode cX12_isClear 18 = .ok (.getfield 223, 3) := by decide +kernel
theorem dX12_isClear_21 : decode cX12_isClear 21 = .ok (.bipush (-4), 2) := by decide +kernel
theorem dX12_isClear_23 : decode cX12_isClear 23 = .ok (.if_icmp .ne 7, 3) := by decide +kernel
theorem dX12_isClear_26 : decode cX12_isClear 26 = .ok (.iconst 1, 1) := by decide +kernel
theorem dX12_isClear_27 : decode cX12_isClear 27 = .ok (.goto 4, 3) := by decide +kernel
theorem dX12_isClear_30 : decode cX12_isClear 30 = .ok (.iconst 0, 1) := by decide +kernel
theorem dX12_isClear_31 : decode cX12_isClear 31 = .ok (.ireturn, 1) := by decide +kernel
abbrev q_X12_isClear (h : Int) (b : Int) (σ : tw_M) : Option tw_V → tw_M → Prop := fun z τ => ∃ r : Int, z = some (vI r) ∧ (0 ≤ r ∧ r ≤ 1) ∧ tw_I τ ∧ tw_F (fun c j => (c = 88 ∧ (j = 19 ∨ j = 23))) σ τ ∧ ((r = 1 ∧ mIC σ h b) ∨ (r = 0 ∧ ¬ mIC σ h b))
set_option maxHeartbeats 4000000 in
set_option maxRecDepth 100000 in
theorem c_X12_isClear {G : tw_G} (hM : tw_isM G) (h : Int) (hh : 1 ≤ h ∧ h ≤ 40) (b : Int) (hb : 1 ≤ b ∧ b ≤ 40) (σ : tw_M) (hI : tw_I σ) : tw_C G yX12_isClear cX12_isClear 3 (some .boolean) 2 [vR 88, vI h, vI b] σ (q_X12_isClear h b σ) := by
  refine tw_met [(0, vR 88), (1, vI h), (2, vI b)] (by decide +kernel) rfl (Nat.le_of_ble_eq_true rfl) ?_
  refine j_aload_n (pc := 0) dX12_isClear_0 rfl rfl ?_
  refine j_iload_n (pc := 1) dX12_isClear_1 rfl rfl ?_
  refine j_aload_n (pc := 2) dX12_isClear_2 rfl rfl ?_
  refine j_iload_n (pc := 3) dX12_isClear_3 rfl rfl ?_
  refine j_iload_n (pc := 4) dX12_isClear_4 rfl rfl ?_
  refine j_callV (pc := 5) (As := [vI h, vI b]) (st := [vI h, vR 88]) (c_X12_dropOf hM h ⟨by omega, by omega⟩ b ⟨by omega, by omega⟩ σ hI) mv_X12_235 rfl rfl rfl (a_88 hM) dX12_isClear_5 ⟨Nat.le_of_ble_eq_true rfl, Nat.le_of_ble_eq_true rfl⟩ ⟨Nat.le_refl _, Nat.le_refl _⟩ rfl (Nat.le_of_ble_eq_true rfl) rfl (fun z1 σ2 hz1 => ?_)
  obtain ⟨r4, rfl, hr4, rfl, q3_0⟩ := hz1
  replace q3_0 : r4 = mD σ h b := q3_0
  refine j_st (st' := [vI r4, vI h, vR 88]) rfl ?_
  refine j_isub (pc := 8) dX12_isClear_8 ?_
  refine j_top (fun z5 ez5 hz5 => ?_)
  refine j_putI (pc := 9) fl_X12_220 fp_X12_19 dX12_isClear_9 (a_88 hM) rfl (j_nm (fun σ6 (eσ6 : σ6 = tw_up σ 88 19 z5) => ?_))
  have hIσ6 : tw_I σ6 := tw_I_up hI eσ6 (show (-2147483648 : Int) ≤ z5 ∧ z5 ≤ 2147483647 from ⟨by omega, by omega⟩)
  have hFσ6 : tw_F (fun c j => (c = 88 ∧ (j = 19 ∨ j = 23))) σ σ6 := tw_F_up (tw_F_rf) eσ6 (show (88 = 88 ∧ (19 = 19 ∨ 19 = 23)) from ⟨rfl, (Or.inl rfl)⟩)
  refine j_aload_n (pc := 12) dX12_isClear_12 rfl rfl ?_
  refine j_iload_n (pc := 13) dX12_isClear_13 rfl rfl ?_
  refine j_callV (pc := 14) (As := [vI h]) (st := []) (c_X12_findStruck hM h ⟨by omega, by omega⟩ σ6 hIσ6) mv_X12_238 rfl rfl rfl (a_88 hM) dX12_isClear_14 ⟨Nat.le_of_ble_eq_true rfl, Nat.le_of_ble_eq_true rfl⟩ ⟨Nat.le_refl _, Nat.le_refl _⟩ rfl (Nat.le_of_ble_eq_true rfl) rfl (fun z7 σ8 hz7 => ?_)
  obtain ⟨rfl, hIσ8, hGσ8, q9_0, q9_1⟩ := hz7
  replace q9_0 : SI σ6 (σ6 88 19) (σ8 88 23) h := q9_0
  replace q9_1 : σ8 88 23 = strS (wM σ6) h (σ6 88 19) := q9_1
  have y11 : σ6 88 19 = z5 := (tw_eq1 eσ6)
  have hFσ8 : tw_F (fun c j => (c = 88 ∧ (j = 19 ∨ j = 23))) σ σ8 := tw_F_tr hFσ6 hGσ8 (fun c j q => (show (c = 88 ∧ (j = 19 ∨ j = 23)) from by replace q : (c = 88 ∧ (j = 23)) := q; exact ⟨q.1, (Or.inr q.2)⟩))
  refine j_st (st' := []) rfl ?_
  have ic8 := q9_0
  rw [tw_eq1 eσ6] at ic8
  refine j_aload_n (pc := 17) dX12_isClear_17 rfl rfl ?_
  refine j_getI (pc := 18) fl_X12_223 dX12_isClear_18 (a_88 hM) rfl ?_
  have f12 : (-2147483648 : Int) ≤ σ8 88 23 ∧ σ8 88 23 ≤ 2147483647 := hIσ8 88 23
  refine j_bipush (pc := 21) dX12_isClear_21 rfl ?_
  refine j_icmpR_ne (pc := 23) (tgt := 30) ⟨by omega, by omega⟩ ⟨by omega, by omega⟩ dX12_isClear_23 rfl (fun h13 => ?_) (fun h13 => ?_)
  · have ic9 : ((0 : Int) = 1 ∧ mIC σ h b) ∨ ((0 : Int) = 0 ∧ ¬ mIC σ h b) := IC_0 (fun j => tw_ne1 eσ6 (by (first | decide | omega))) ic8 (by rw [ez5, q3_0]) (by omega)
    refine j_iconst (pc := 30) dX12_isClear_30 ?_
    exact j_zret (pc := 31) ⟨rfl, rfl⟩ dX12_isClear_31 rfl (nar_bool (by omega) (by omega)) ⟨_, rfl, ⟨by omega, by omega⟩, hIσ8, hFσ8, ic9⟩
  · have ic9 : ((1 : Int) = 1 ∧ mIC σ h b) ∨ ((1 : Int) = 0 ∧ ¬ mIC σ h b) := IC_1 (fun j => tw_ne1 eσ6 (by (first | decide | omega))) ic8 (by rw [ez5, q3_0]) (by omega)
    refine j_iconst (pc := 26) dX12_isClear_26 ?_
    refine j_goto (pc := 27) (tgt := 31) dX12_isClear_27 rfl ?_
    exact j_zret (pc := 31) ⟨rfl, rfl⟩ dX12_isClear_31 rfl (nar_bool (by omega) (by omega)) ⟨_, rfl, ⟨by omega, by omega⟩, hIσ8, hFσ8, ic9⟩
