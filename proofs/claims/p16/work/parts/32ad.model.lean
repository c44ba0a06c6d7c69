/-! 32ad.model -/
theorem dX12_sling_0 : decode cX12_sling 0 = .ok (.aload_n 0, 1) := by decide +kernel
theorem dX12_sling_1 : decode cX12_sling 1 = .ok (.iload_n 1, 1) := by decide +kernel
theorem dX12_sling_2 : decode cX12_sling 2 = .ok (.invokevirtual 175, 3) := by decide +kernel
theorem dX12_sling_5 : decode cX12_sling 5 = .ok (.ifCond .ne 5, 3) := by decide +kernel
theorem dX12_sling_8 : decode cX12_sling 8 = .ok (.iconst (-1), 1) := by decide +kernel
theorem dX12_sling_9 : decode cX12_sling 9 = .ok (.ireturn, 1) := by decide +kernel
theorem dX12_sling_10 : decode cX12_sling 10 = .ok (.aload_n 0, 1) := by decide +kernel
theorem dX12_sling_11 : decode cX12_sling 11 = .ok (.getfield 7, 3) := by decide +kernel
theorem dX12_sling_14 : decode cX12_sling 14 = .ok (.iload_n 1, 1) := by decide +kernel
theorem dX12_sling_15 : decode cX12_sling 15 = .ok (.iaload, 1) := by decide +kernel
theorem dX12_sling_16 : decode cX12_sling 16 = .ok (.ifCond .ne 6, 3) := by decide +kernel
theorem dX12_sling_19 : decode cX12_sling 19 = .ok (.bipush (-4), 2) := by decide +kernel
theorem dX12_sling_21 : decode cX12_sling 21 = .ok (.ireturn, 1) := by decide +kernel
theorem dX12_sling_22 : decode cX12_sling 22 = .ok (.aload_n 0, 1) := by decide +kernel
theorem dX12_sling_23 : decode cX12_sling 23 = .ok (.getfield 7, 3) := by decide +kernel
theorem dX12_sling_26 : decode cX12_sling 26 = .ok (.bipush 41, 2) := by decide +kernel
theorem dX12_sling_28 : decode cX12_sling 28 = .ok (.iload_n 1, 1) := by decide +kernel
theorem dX12_sling_29 : decode cX12_sling 29 = .ok (.iadd, 1) := by decide +kernel
theorem dX12_sling_30 : decode cX12_sling 30 = .ok (.iaload, 1) := by decide +kernel
theorem dX12_sling_31 : decode cX12_sling 31 = .ok (.istore_n 3, 1) := by decide +kernel
theorem dX12_sling_32 : decode cX12_sling 32 = .ok (.aload_n 0, 1) := by decide +kernel
theorem dX12_sling_33 : decode cX12_sling 33 = .ok (.getfield 7, 3) := by decide +kernel
theorem dX12_sling_36 : decode cX12_sling 36 = .ok (.bipush 41, 2) := by decide +kernel
theorem dX12_sling_38 : decode cX12_sling 38 = .ok (.iload_n 1, 1) := by decide +kernel
theorem dX12_sling_39 : decode cX12_sling 39 = .ok (.iadd, 1) := by decide +kernel
theorem dX12_sling_40 : decode cX12_sling 40 = .ok (.iload_n 2, 1) := by decide +kernel
theorem dX12_sling_41 : decode cX12_sling 41 = .ok (.invokestatic 168, 3) := by decide +kernel
theorem dX12_sling_44 : decode cX12_sling 44 = .ok (.iastore, 1) := by decide +kernel
theorem dX12_sling_45 : decode cX12_sling 45 = .ok (.iload_n 3, 1) := by decide +kernel
theorem dX12_sling_46 : decode cX12_sling 46 = .ok (.ireturn, 1) := by decide +kernel
abbrev q_X12_sling (h : Int) (e : Int) (σ : tw_M) : Option tw_V → tw_M → Prop := fun z τ => ∃ r : Int, z = some (vI r) ∧ (-2147483648 ≤ r ∧ r ≤ 2147483647) ∧ tw_I τ ∧ tw_F (fun c j => (c = 89 ∧ j < 93)) σ τ ∧ (mI τ) ∧ ((r = -1 ∧ ¬ (1 ≤ h ∧ h ≤ σ 91 0) ∧ ∀ c j, τ c j = σ c j) ∨ (r = -4 ∧ (1 ≤ h ∧ h ≤ σ 91 0) ∧ σ 89 h.toNat = 0 ∧ ∀ c j, τ c j = σ c j) ∨ ((1 ≤ h ∧ h ≤ σ 91 0) ∧ ¬ σ 89 h.toNat = 0 ∧ r = σ 89 (41 + h).toNat ∧ τ 89 (41 + h).toNat = e ∧ ∀ j : Nat, ¬ j = (41 + h).toNat → τ 89 j = σ 89 j))
set_option maxHeartbeats 4000000 in
set_option maxRecDepth 100000 in
theorem c_X12_sling {G : tw_G} (hM : tw_isM G) (h : Int) (hh : -2147483648 ≤ h ∧ h ≤ 2147483647) (e : Int) (he : 0 ≤ e ∧ e ≤ 1) (σ : tw_M) (hI : tw_I σ) (hq0 : mI σ) : tw_C G yX12_sling cX12_sling 4 (some .int) 2 [vR 88, vI h, vI e] σ (q_X12_sling h e σ) := by
  refine tw_met [(0, vR 88), (1, vI h), (2, vI e)] (by decide +kernel) rfl (Nat.le_of_ble_eq_true rfl) ?_
  refine j_aload_n (pc := 0) dX12_sling_0 rfl rfl ?_
  refine j_iload_n (pc := 1) dX12_sling_1 rfl rfl ?_
  refine j_callV (pc := 2) (As := [vI h]) (st := []) (c_X12_isAt hM h ⟨by omega, by omega⟩ σ hI) mv_X12_175 rfl rfl rfl (a_88 hM) dX12_sling_2 ⟨Nat.le_of_ble_eq_true rfl, Nat.le_of_ble_eq_true rfl⟩ ⟨Nat.le_refl _, Nat.le_refl _⟩ rfl (Nat.le_of_ble_eq_true rfl) rfl (fun z1 σ2 hz1 => ?_)
  obtain ⟨r4, rfl, hr4, rfl, q3_0⟩ := hz1
  replace q3_0 : (r4 = 1 ∧ 1 ≤ h ∧ h ≤ σ 91 0 ∧ h ≤ 40) ∨ (r4 = 0 ∧ ¬ (1 ≤ h ∧ h ≤ σ 91 0)) := q3_0
  refine j_st (st' := [vI r4]) rfl ?_
  refine j_ifR_ne (pc := 5) (tgt := 10) ⟨by omega, by omega⟩ dX12_sling_5 rfl (fun h5 => ?_) (fun h5 => ?_)
  · refine j_aload_n (pc := 10) dX12_sling_10 rfl rfl ?_
    refine j_getR (pc := 11) (r := 89) fl_X12_7 dX12_sling_11 (a_88 hM) rfl ?_
    refine j_iload_n (pc := 14) dX12_sling_14 rfl rfl ?_
    refine j_iald (pc := 15) dX12_sling_15 (a_89 hM) (by omega) (by omega) (by decide) ?_
    have f6 : (-2147483648 : Int) ≤ σ 89 (h.toNat) ∧ σ 89 (h.toNat) ≤ 2147483647 := st_D hI _
    refine j_ifR_ne (pc := 16) (tgt := 22) ⟨by omega, by omega⟩ dX12_sling_16 rfl (fun h7 => ?_) (fun h7 => ?_)
    · refine j_aload_n (pc := 22) dX12_sling_22 rfl rfl ?_
      refine j_getR (pc := 23) (r := 89) fl_X12_7 dX12_sling_23 (a_88 hM) rfl ?_
      refine j_bipush (pc := 26) dX12_sling_26 rfl ?_
      refine j_iload_n (pc := 28) dX12_sling_28 rfl rfl ?_
      refine j_iadd (pc := 29) dX12_sling_29 ?_
      refine j_iald (pc := 30) dX12_sling_30 (a_89 hM) (by omega) (by omega) (by decide) ?_
      have f8 : (-2147483648 : Int) ≤ σ 89 ((41 + h).toNat) ∧ σ 89 ((41 + h).toNat) ≤ 2147483647 := st_D hI _
      refine j_istore_n (pc := 31) (i := 3) (ls' := [(0, vR 88), (1, vI h), (2, vI e), (3, vI (σ 89 ((41 + h).toNat)))]) [1, 2, 3, 0] dX12_sling_31 rfl (Nat.le_of_ble_eq_true rfl) rfl rfl ?_
      refine j_aload_n (pc := 32) dX12_sling_32 rfl rfl ?_
      refine j_getR (pc := 33) (r := 89) fl_X12_7 dX12_sling_33 (a_88 hM) rfl ?_
      refine j_bipush (pc := 36) dX12_sling_36 rfl ?_
      refine j_iload_n (pc := 38) dX12_sling_38 rfl rfl ?_
      refine j_iadd (pc := 39) dX12_sling_39 ?_
      refine j_iload_n (pc := 40) dX12_sling_40 rfl rfl ?_
      refine j_callS (pc := 41) (As := [vI e]) (st := [vI (41 + h), vR 89]) (c_X12_flag e ⟨by omega, by omega⟩ σ hI) ms_X12_168 rfl dX12_sling_41 ⟨Nat.le_of_ble_eq_true rfl, Nat.le_of_ble_eq_true rfl⟩ ⟨Nat.le_refl _, Nat.le_refl _⟩ rfl (Nat.le_of_ble_eq_true rfl) rfl (fun z9 σ10 hz9 => ?_)
      obtain ⟨r12, rfl, hr12, rfl, q11_0⟩ := hz9
      replace q11_0 : r12 = e := q11_0
      refine j_st (st' := [vI r12, vI (41 + h), vR 89]) rfl ?_
      refine j_iast (pc := 44) dX12_sling_44 (a_89 hM) (by omega) (by omega) (by decide) (j_nm (fun σ13 (eσ13 : σ13 = tw_up σ 89 ((41 + h).toNat) r12) => ?_))
      have hIσ13 : tw_I σ13 := tw_I_up hI eσ13  (st_wd (by omega) (by omega))
      have hFσ13 : tw_F (fun c j => (c = 89 ∧ j < 93)) σ σ13 := tw_F_up (tw_F_rf) eσ13 (show (89 = 89 ∧ (41 + h).toNat < 93) from by omega)
      refine j_iload_n (pc := 45) dX12_sling_45 rfl rfl ?_
      have fin : ((σ 89 ((41 + h).toNat)) = -1 ∧ ¬ (1 ≤ h ∧ h ≤ σ 91 0) ∧ ∀ c j, σ13 c j = σ c j) ∨ ((σ 89 ((41 + h).toNat)) = -4 ∧ (1 ≤ h ∧ h ≤ σ 91 0) ∧ σ 89 h.toNat = 0 ∧ ∀ c j, σ13 c j = σ c j) ∨ ((1 ≤ h ∧ h ≤ σ 91 0) ∧ ¬ σ 89 h.toNat = 0 ∧ (σ 89 ((41 + h).toNat)) = σ 89 (41 + h).toNat ∧ σ13 89 (41 + h).toNat = e ∧ ∀ j : Nat, ¬ j = (41 + h).toNat → σ13 89 j = σ 89 j) := by
        have m3 : σ13 89 (41 + h).toNat = r12 := tw_eq1 eσ13
        exact Or.inr (Or.inr ⟨by omega, by omega, rfl, by omega, fun j j1 => tw_ne1 eσ13 (Or.inr j1)⟩)
      have y14 : σ13 89 ((41 + h).toNat) = r12 := (tw_eq1 eσ13)
      exact j_iret (pc := 46) ⟨rfl, rfl⟩ dX12_sling_46 rfl ⟨_, rfl, ⟨by omega, by omega⟩, hIσ13, hFσ13, (by first | exact hq0 | exact mI_one hI hq0 (by omega) eσ13), fin⟩
    · refine j_bipush (pc := 19) dX12_sling_19 rfl ?_
      have fin : ((-4) = -1 ∧ ¬ (1 ≤ h ∧ h ≤ σ 91 0) ∧ ∀ c j, σ c j = σ c j) ∨ ((-4) = -4 ∧ (1 ≤ h ∧ h ≤ σ 91 0) ∧ σ 89 h.toNat = 0 ∧ ∀ c j, σ c j = σ c j) ∨ ((1 ≤ h ∧ h ≤ σ 91 0) ∧ ¬ σ 89 h.toNat = 0 ∧ (-4) = σ 89 (41 + h).toNat ∧ σ 89 (41 + h).toNat = e ∧ ∀ j : Nat, ¬ j = (41 + h).toNat → σ 89 j = σ 89 j) := Or.inr (Or.inl ⟨rfl, by omega, by omega, fun c j => rfl⟩)
      exact j_iret (pc := 21) ⟨rfl, rfl⟩ dX12_sling_21 rfl ⟨_, rfl, ⟨by omega, by omega⟩, hI, (tw_F_rf), (by first | exact hq0 | exact mI_one hI hq0 (by omega) _), fin⟩
  · refine j_iconst (pc := 8) dX12_sling_8 ?_
    have fin : ((-1) = -1 ∧ ¬ (1 ≤ h ∧ h ≤ σ 91 0) ∧ ∀ c j, σ c j = σ c j) ∨ ((-1) = -4 ∧ (1 ≤ h ∧ h ≤ σ 91 0) ∧ σ 89 h.toNat = 0 ∧ ∀ c j, σ c j = σ c j) ∨ ((1 ≤ h ∧ h ≤ σ 91 0) ∧ ¬ σ 89 h.toNat = 0 ∧ (-1) = σ 89 (41 + h).toNat ∧ σ 89 (41 + h).toNat = e ∧ ∀ j : Nat, ¬ j = (41 + h).toNat → σ 89 j = σ 89 j) := Or.inl ⟨rfl, by omega, fun c j => rfl⟩
    exact j_iret (pc := 9) ⟨rfl, rfl⟩ dX12_sling_9 rfl ⟨_, rfl, ⟨by omega, by omega⟩, hI, (tw_F_rf), (by first | exact hq0 | exact mI_one hI hq0 (by omega) _), fin⟩
