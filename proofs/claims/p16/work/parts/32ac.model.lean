/-! 32ac.model -/
theorem dX12_take_0 : decode cX12_take 0 = .ok (.aload_n 0, 1) := by decide +kernel
theorem dX12_take_1 : decode cX12_take 1 = .ok (.iload_n 1, 1) := by decide +kernel
theorem dX12_take_2 : decode cX12_take 2 = .ok (.invokevirtual 175, 3) := by decide +kernel
theorem dX12_take_5 : decode cX12_take 5 = .ok (.ifCond .ne 5, 3) := by decide +kernel
theorem dX12_take_8 : decode cX12_take 8 = .ok (.iconst (-1), 1) := by decide +kernel
theorem dX12_take_9 : decode cX12_take 9 = .ok (.ireturn, 1) := by decide +kernel
theorem dX12_take_10 : decode cX12_take 10 = .ok (.aload_n 0, 1) := by decide +kernel
theorem dX12_take_11 : decode cX12_take 11 = .ok (.getfield 7, 3) := by decide +kernel
theorem dX12_take_14 : decode cX12_take 14 = .ok (.iload_n 1, 1) := by decide +kernel
theorem dX12_take_15 : decode cX12_take 15 = .ok (.iaload, 1) := by decide +kernel
theorem dX12_take_16 : decode cX12_take 16 = .ok (.ifCond .ne 6, 3) := by decide +kernel
theorem dX12_take_19 : decode cX12_take 19 = .ok (.bipush (-4), 2) := by decide +kernel
theorem dX12_take_21 : decode cX12_take 21 = .ok (.ireturn, 1) := by decide +kernel
theorem dX12_take_22 : decode cX12_take 22 = .ok (.aload_n 0, 1) := by decide +kernel
theorem dX12_take_23 : decode cX12_take 23 = .ok (.getfield 7, 3) := by decide +kernel
theorem dX12_take_26 : decode cX12_take 26 = .ok (.iload_n 1, 1) := by decide +kernel
theorem dX12_take_27 : decode cX12_take 27 = .ok (.iaload, 1) := by decide +kernel
theorem dX12_take_28 : decode cX12_take 28 = .ok (.istore_n 2, 1) := by decide +kernel
theorem dX12_take_29 : decode cX12_take 29 = .ok (.aload_n 0, 1) := by decide +kernel
theorem dX12_take_30 : decode cX12_take 30 = .ok (.getfield 7, 3) := by decide +kernel
theorem dX12_take_33 : decode cX12_take 33 = .ok (.bipush 82, 2) := by decide +kernel
theorem dX12_take_35 : decode cX12_take 35 = .ok (.iload_n 2, 1) := by decide +kernel
theorem dX12_take_36 : decode cX12_take 36 = .ok (.iadd, 1) := by decide +kernel
theorem dX12_take_37 : decode cX12_take 37 = .ok (.dup2, 1) := by decide +kernel
theorem dX12_take_38 : decode cX12_take 38 = .ok (.iaload, 1) := by decide +kernel
theorem dX12_take_39 : decode cX12_take 39 = .ok (.iconst 1, 1) := by decide +kernel
theorem dX12_take_40 : decode cX12_take 40 = .ok (.iadd, 1) := by decide +kernel
theorem dX12_take_41 : decode cX12_take 41 = .ok (.iastore, 1) := by decide +kernel
theorem dX12_take_42 : decode cX12_take 42 = .ok (.aload_n 0, 1) := by decide +kernel
theorem dX12_take_43 : decode cX12_take 43 = .ok (.getfield 7, 3) := by decide +kernel
theorem dX12_take_46 : decode cX12_take 46 = .ok (.iload_n 1, 1) := by decide +kernel
theorem dX12_take_47 : decode cX12_take 47 = .ok (.iconst 0, 1) := by decide +kernel
theorem dX12_take_48 : decode cX12_take 48 = .ok (.iastore, 1) := by decide +kernel
theorem dX12_take_49 : decode cX12_take 49 = .ok (.aload_n 0, 1) := by decide +kernel
theorem dX12_take_50 : decode cX12_take 50 = .ok (.getfield 7, 3) := by decide +kernel
theorem dX12_take_53 : decode cX12_take 53 = .ok (.bipush 41, 2) := by decide +kernel
theorem dX12_take_55 : decode cX12_take 55 = .ok (.iload_n 1, 1) := by decide +kernel
theorem dX12_take_56 : decode cX12_take 56 = .ok (.iadd, 1) := by decide +kernel
theorem dX12_take_57 : decode cX12_take 57 = .ok (.iconst 0, 1) := by decide +kernel
theorem dX12_take_58 : decode cX12_take 58 = .ok (.iastore, 1) := by decide +kernel
theorem dX12_take_59 : decode cX12_take 59 = .ok (.iload_n 2, 1) := by decide +kernel
theorem dX12_take_60 : decode cX12_take 60 = .ok (.ireturn, 1) := by decide +kernel
abbrev q_X12_take (h : Int) (σ : tw_M) : Option tw_V → tw_M → Prop := fun z τ => ∃ r : Int, z = some (vI r) ∧ (-2147483648 ≤ r ∧ r ≤ 2147483647) ∧ tw_I τ ∧ tw_F (fun c j => (c = 89 ∧ j < 93)) σ τ ∧ (mI τ) ∧ ((r = -1 ∧ ¬ (1 ≤ h ∧ h ≤ σ 91 0) ∧ ∀ c j, τ c j = σ c j) ∨ (r = -4 ∧ (1 ≤ h ∧ h ≤ σ 91 0) ∧ σ 89 h.toNat = 0 ∧ ∀ c j, τ c j = σ c j) ∨ ((1 ≤ h ∧ h ≤ σ 91 0) ∧ 0 < σ 89 h.toNat ∧ r = σ 89 h.toNat ∧ r ≤ 10 ∧ τ 89 h.toNat = 0 ∧ τ 89 (41 + h).toNat = 0 ∧ (1000 < σ 89 (82 + r).toNat ∨ σ 89 (82 + r).toNat < 0 ∨ τ 89 (82 + r).toNat = σ 89 (82 + r).toNat + 1) ∧ ∀ j : Nat, ¬ j = h.toNat → ¬ j = (41 + h).toNat → ¬ j = (82 + r).toNat → τ 89 j = σ 89 j))
set_option maxHeartbeats 4000000 in
set_option maxRecDepth 100000 in
theorem c_X12_take {G : tw_G} (hM : tw_isM G) (h : Int) (hh : -2147483648 ≤ h ∧ h ≤ 2147483647) (σ : tw_M) (hI : tw_I σ) (hq0 : mI σ) : tw_C G yX12_take cX12_take 3 (some .int) 2 [vR 88, vI h] σ (q_X12_take h σ) := by
  refine tw_met [(0, vR 88), (1, vI h)] (by decide +kernel) rfl (Nat.le_of_ble_eq_true rfl) ?_
  refine j_aload_n (pc := 0) dX12_take_0 rfl rfl ?_
  refine j_iload_n (pc := 1) dX12_take_1 rfl rfl ?_
  refine j_callV (pc := 2) (As := [vI h]) (st := []) (c_X12_isAt hM h ⟨by omega, by omega⟩ σ hI) mv_X12_175 rfl rfl rfl (a_88 hM) dX12_take_2 ⟨Nat.le_of_ble_eq_true rfl, Nat.le_of_ble_eq_true rfl⟩ ⟨Nat.le_refl _, Nat.le_refl _⟩ rfl (Nat.le_of_ble_eq_true rfl) rfl (fun z1 σ2 hz1 => ?_)
  obtain ⟨r4, rfl, hr4, rfl, q3_0⟩ := hz1
  replace q3_0 : (r4 = 1 ∧ 1 ≤ h ∧ h ≤ σ 91 0 ∧ h ≤ 40) ∨ (r4 = 0 ∧ ¬ (1 ≤ h ∧ h ≤ σ 91 0)) := q3_0
  refine j_st (st' := [vI r4]) rfl ?_
  refine j_ifR_ne (pc := 5) (tgt := 10) ⟨by omega, by omega⟩ dX12_take_5 rfl (fun h5 => ?_) (fun h5 => ?_)
  · refine j_aload_n (pc := 10) dX12_take_10 rfl rfl ?_
    refine j_getR (pc := 11) (r := 89) fl_X12_7 dX12_take_11 (a_88 hM) rfl ?_
    refine j_iload_n (pc := 14) dX12_take_14 rfl rfl ?_
    refine j_iald (pc := 15) dX12_take_15 (a_89 hM) (by omega) (by omega) (by decide) ?_
    have f6 : (-2147483648 : Int) ≤ σ 89 (h.toNat) ∧ σ 89 (h.toNat) ≤ 2147483647 := st_D hI _
    have g7 : (0 : Int) ≤ σ 89 (h.toNat) ∧ σ 89 (h.toNat) ≤ 10 := st_p hI (by omega)
    refine j_ifR_ne (pc := 16) (tgt := 22) ⟨by omega, by omega⟩ dX12_take_16 rfl (fun h8 => ?_) (fun h8 => ?_)
    · refine j_aload_n (pc := 22) dX12_take_22 rfl rfl ?_
      refine j_getR (pc := 23) (r := 89) fl_X12_7 dX12_take_23 (a_88 hM) rfl ?_
      refine j_iload_n (pc := 26) dX12_take_26 rfl rfl ?_
      refine j_iald (pc := 27) dX12_take_27 (a_89 hM) (by omega) (by omega) (by decide) ?_
      have g9 : (0 : Int) ≤ σ 89 (h.toNat) ∧ σ 89 (h.toNat) ≤ 10 := st_p hI (by omega)
      refine j_istore_n (pc := 28) (i := 2) (ls' := [(0, vR 88), (1, vI h), (2, vI (σ 89 (h.toNat)))]) [1, 2, 0] dX12_take_28 rfl (Nat.le_of_ble_eq_true rfl) rfl rfl ?_
      refine j_aload_n (pc := 29) dX12_take_29 rfl rfl ?_
      refine j_getR (pc := 30) (r := 89) fl_X12_7 dX12_take_30 (a_88 hM) rfl ?_
      refine j_bipush (pc := 33) dX12_take_33 rfl ?_
      refine j_iload_n (pc := 35) dX12_take_35 rfl rfl ?_
      refine j_iadd (pc := 36) dX12_take_36 ?_
      refine j_dup2 (pc := 37) dX12_take_37 rfl rfl ?_
      refine j_iald (pc := 38) dX12_take_38 (a_89 hM) (by omega) (by omega) (by decide) ?_
      have f10 : (-2147483648 : Int) ≤ σ 89 ((82 + (σ 89 (h.toNat))).toNat) ∧ σ 89 ((82 + (σ 89 (h.toNat))).toNat) ≤ 2147483647 := st_D hI _
      refine j_iconst (pc := 39) dX12_take_39 ?_
      refine j_iadd (pc := 40) dX12_take_40 ?_
      refine j_top (fun z11 ez11 hz11 => ?_)
      have gz11 : (σ 89 ((82 + (σ 89 (h.toNat))).toNat)) + 1 < -2147483648 ∨ 2147483647 < (σ 89 ((82 + (σ 89 (h.toNat))).toNat)) + 1 ∨ z11 = (σ 89 ((82 + (σ 89 (h.toNat))).toNat)) + 1 := by rw [ez11]; exact w32_or _
      refine j_iast (pc := 41) dX12_take_41 (a_89 hM) (by omega) (by omega) (by decide) (j_nm (fun σ12 (eσ12 : σ12 = tw_up σ 89 ((82 + (σ 89 (h.toNat))).toNat) z11) => ?_))
      have hIσ12 : tw_I σ12 := tw_I_up hI eσ12  (st_wd (by omega) (by omega))
      have hFσ12 : tw_F (fun c j => (c = 89 ∧ j < 93)) σ σ12 := tw_F_up (tw_F_rf) eσ12 (show (89 = 89 ∧ (82 + (σ 89 (h.toNat))).toNat < 93) from by omega)
      refine j_aload_n (pc := 42) dX12_take_42 rfl rfl ?_
      refine j_getR (pc := 43) (r := 89) fl_X12_7 dX12_take_43 (a_88 hM) rfl ?_
      refine j_iload_n (pc := 46) dX12_take_46 rfl rfl ?_
      refine j_iconst (pc := 47) dX12_take_47 ?_
      refine j_iast (pc := 48) dX12_take_48 (a_89 hM) (by omega) (by omega) (by decide) (j_nm (fun σ13 (eσ13 : σ13 = tw_up σ12 89 (h.toNat) 0) => ?_))
      have hIσ13 : tw_I σ13 := tw_I_up hIσ12 eσ13  st_w0
      have hFσ13 : tw_F (fun c j => (c = 89 ∧ j < 93)) σ σ13 := tw_F_up hFσ12 eσ13 (show (89 = 89 ∧ h.toNat < 93) from by omega)
      refine j_aload_n (pc := 49) dX12_take_49 rfl rfl ?_
      refine j_getR (pc := 50) (r := 89) fl_X12_7 dX12_take_50 (a_88 hM) rfl ?_
      refine j_bipush (pc := 53) dX12_take_53 rfl ?_
      refine j_iload_n (pc := 55) dX12_take_55 rfl rfl ?_
      refine j_iadd (pc := 56) dX12_take_56 ?_
      refine j_iconst (pc := 57) dX12_take_57 ?_
      refine j_iast (pc := 58) dX12_take_58 (a_89 hM) (by omega) (by omega) (by decide) (j_nm (fun σ14 (eσ14 : σ14 = tw_up σ13 89 ((41 + h).toNat) 0) => ?_))
      have hIσ14 : tw_I σ14 := tw_I_up hIσ13 eσ14  st_w0
      have hFσ14 : tw_F (fun c j => (c = 89 ∧ j < 93)) σ σ14 := tw_F_up hFσ13 eσ14 (show (89 = 89 ∧ (41 + h).toNat < 93) from by omega)
      refine j_iload_n (pc := 59) dX12_take_59 rfl rfl ?_
      have fin : ((σ 89 (h.toNat)) = -1 ∧ ¬ (1 ≤ h ∧ h ≤ σ 91 0) ∧ ∀ c j, σ14 c j = σ c j) ∨ ((σ 89 (h.toNat)) = -4 ∧ (1 ≤ h ∧ h ≤ σ 91 0) ∧ σ 89 h.toNat = 0 ∧ ∀ c j, σ14 c j = σ c j) ∨ ((1 ≤ h ∧ h ≤ σ 91 0) ∧ 0 < σ 89 h.toNat ∧ (σ 89 (h.toNat)) = σ 89 h.toNat ∧ (σ 89 (h.toNat)) ≤ 10 ∧ σ14 89 h.toNat = 0 ∧ σ14 89 (41 + h).toNat = 0 ∧ (1000 < σ 89 (82 + (σ 89 (h.toNat))).toNat ∨ σ 89 (82 + (σ 89 (h.toNat))).toNat < 0 ∨ σ14 89 (82 + (σ 89 (h.toNat))).toNat = σ 89 (82 + (σ 89 (h.toNat))).toNat + 1) ∧ ∀ j : Nat, ¬ j = h.toNat → ¬ j = (41 + h).toNat → ¬ j = (82 + (σ 89 (h.toNat))).toNat → σ14 89 j = σ 89 j) := by
        have m3 : σ14 89 (82 + σ 89 h.toNat).toNat = z11 := (tw_ne1 eσ14 (by (first | decide | omega))).trans ((tw_ne1 eσ13 (by (first | decide | omega))).trans (tw_eq1 eσ12))
        exact Or.inr (Or.inr ⟨by omega, by omega, rfl, by omega, (tw_ne1 eσ14 (by (first | decide | omega))).trans (tw_eq1 eσ13), tw_eq1 eσ14, by omega, fun j j1 j2 j3 => (tw_ne1 eσ14 (by (first | decide | omega))).trans ((tw_ne1 eσ13 (by (first | decide | omega))).trans (tw_ne1 eσ12 (by (first | decide | omega))))⟩)
      have y15 : σ14 89 ((41 + h).toNat) = 0 := (tw_eq1 eσ14)
      exact j_iret (pc := 60) ⟨rfl, rfl⟩ dX12_take_60 rfl ⟨_, rfl, ⟨by omega, by omega⟩, hIσ14, hFσ14, (by first | exact hq0 | exact mI_take hI hq0 (by omega) (by omega) eσ12 eσ13 eσ14), fin⟩
    · refine j_bipush (pc := 19) dX12_take_19 rfl ?_
      have fin : ((-4) = -1 ∧ ¬ (1 ≤ h ∧ h ≤ σ 91 0) ∧ ∀ c j, σ c j = σ c j) ∨ ((-4) = -4 ∧ (1 ≤ h ∧ h ≤ σ 91 0) ∧ σ 89 h.toNat = 0 ∧ ∀ c j, σ c j = σ c j) ∨ ((1 ≤ h ∧ h ≤ σ 91 0) ∧ 0 < σ 89 h.toNat ∧ (-4) = σ 89 h.toNat ∧ (-4) ≤ 10 ∧ σ 89 h.toNat = 0 ∧ σ 89 (41 + h).toNat = 0 ∧ (1000 < σ 89 (82 + (-4)).toNat ∨ σ 89 (82 + (-4)).toNat < 0 ∨ σ 89 (82 + (-4)).toNat = σ 89 (82 + (-4)).toNat + 1) ∧ ∀ j : Nat, ¬ j = h.toNat → ¬ j = (41 + h).toNat → ¬ j = (82 + (-4)).toNat → σ 89 j = σ 89 j) := Or.inr (Or.inl ⟨rfl, by omega, by omega, fun c j => rfl⟩)
      exact j_iret (pc := 21) ⟨rfl, rfl⟩ dX12_take_21 rfl ⟨_, rfl, ⟨by omega, by omega⟩, hI, (tw_F_rf), (by first | exact hq0 | exact mI_take hI hq0 (by omega) (by omega) _ _ _), fin⟩
  · refine j_iconst (pc := 8) dX12_take_8 ?_
    have fin : ((-1) = -1 ∧ ¬ (1 ≤ h ∧ h ≤ σ 91 0) ∧ ∀ c j, σ c j = σ c j) ∨ ((-1) = -4 ∧ (1 ≤ h ∧ h ≤ σ 91 0) ∧ σ 89 h.toNat = 0 ∧ ∀ c j, σ c j = σ c j) ∨ ((1 ≤ h ∧ h ≤ σ 91 0) ∧ 0 < σ 89 h.toNat ∧ (-1) = σ 89 h.toNat ∧ (-1) ≤ 10 ∧ σ 89 h.toNat = 0 ∧ σ 89 (41 + h).toNat = 0 ∧ (1000 < σ 89 (82 + (-1)).toNat ∨ σ 89 (82 + (-1)).toNat < 0 ∨ σ 89 (82 + (-1)).toNat = σ 89 (82 + (-1)).toNat + 1) ∧ ∀ j : Nat, ¬ j = h.toNat → ¬ j = (41 + h).toNat → ¬ j = (82 + (-1)).toNat → σ 89 j = σ 89 j) := Or.inl ⟨rfl, by omega, fun c j => rfl⟩
    exact j_iret (pc := 9) ⟨rfl, rfl⟩ dX12_take_9 rfl ⟨_, rfl, ⟨by omega, by omega⟩, hI, (tw_F_rf), (by first | exact hq0 | exact mI_take hI hq0 (by omega) (by omega) _ _ _), fin⟩
