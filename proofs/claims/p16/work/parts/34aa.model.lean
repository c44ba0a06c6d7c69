/-! 34aa.model -/
theorem dX12_needs_0 : decode cX12_needs 0 = .ok (.iload_n 1, 1) := by decide +kernel
theorem dX12_needs_1 : decode cX12_needs 1 = .ok (.ifCond .ne 23, 3) := by decide +kernel
theorem dX12_needs_4 : decode cX12_needs 4 = .ok (.aload_n 0, 1) := by decide +kernel
theorem dX12_needs_5 : decode cX12_needs 5 = .ok (.getfield 91, 3) := by decide +kernel
theorem dX12_needs_8 : decode cX12_needs 8 = .ok (.ifCond .ne 16, 3) := by decide +kernel
theorem dX12_needs_11 : decode cX12_needs 11 = .ok (.aload_n 0, 1) := by decide +kernel
theorem dX12_needs_12 : decode cX12_needs 12 = .ok (.iload_n 2, 1) := by decide +kernel
theorem dX12_needs_13 : decode cX12_needs 13 = .ok (.putfield 91, 3) := by decide +kernel
theorem dX12_needs_16 : decode cX12_needs 16 = .ok (.aload_n 0, 1) := by decide +kernel
theorem dX12_needs_17 : decode cX12_needs 17 = .ok (.aload_n 0, 1) := by decide +kernel
theorem dX12_needs_18 : decode cX12_needs 18 = .ok (.getfield 94, 3) := by decide +kernel
theorem dX12_needs_21 : decode cX12_needs 21 = .ok (.putfield 97, 3) := by decide +kernel
theorem dX12_needs_24 : decode cX12_needs 24 = .ok (.return_, 1) := by decide +kernel
abbrev q_X12_needs (g : Int) (c : Int) (σ : tw_M) : Option tw_V → tw_M → Prop := fun z τ => z = none ∧ tw_I τ ∧ tw_F (fun c j => (c = 88 ∧ (j = 17 ∨ j = 18))) σ τ ∧ ((¬ g = 0 ∧ τ 88 17 = σ 88 17) ∨ (g = 0 ∧ σ 88 17 = 0 ∧ τ 88 17 = c) ∨ (g = 0 ∧ ¬ σ 88 17 = 0 ∧ τ 88 17 = σ 88 17)) ∧ ((¬ g = 0 ∧ τ 88 17 = σ 88 17 ∧ τ 88 18 = σ 88 18) ∨ (g = 0 ∧ σ 88 17 = 0 ∧ τ 88 17 = c ∧ τ 88 18 = σ 88 14) ∨ (g = 0 ∧ ¬ σ 88 17 = 0 ∧ τ 88 17 = σ 88 17 ∧ τ 88 18 = σ 88 18)) ∧ (aM τ = need (decide (¬ g = 0)) c (aM σ))
set_option maxHeartbeats 4000000 in
set_option maxRecDepth 100000 in
theorem c_X12_needs {G : tw_G} (hM : tw_isM G) (g : Int) (hg : 0 ≤ g ∧ g ≤ 1) (c : Int) (hc : 1 ≤ c ∧ c ≤ 5) (σ : tw_M) (hI : tw_I σ) : tw_C G yX12_needs cX12_needs 3 none 0 [vR 88, vI g, vI c] σ (q_X12_needs g c σ) := by
  refine tw_met [(0, vR 88), (1, vI g), (2, vI c)] (by decide +kernel) rfl (Nat.le_of_ble_eq_true rfl) ?_
  refine j_iload_n (pc := 0) dX12_needs_0 rfl rfl ?_
  refine j_ifR_ne (pc := 1) (tgt := 24) ⟨by omega, by omega⟩ dX12_needs_1 rfl (fun h1 => ?_) (fun h1 => ?_)
  · exact j_vret (pc := 24) ⟨rfl, rfl⟩ dX12_needs_24 rfl ⟨rfl, hI, (tw_F_rf), by omega, by omega, (by first | exact aM_needt (fun _ => decide_eq_true (by omega)) | exact aM_need (by omega) (fun _ => decide_eq_false (by omega)) (by omega))⟩
  · refine j_aload_n (pc := 4) dX12_needs_4 rfl rfl ?_
    refine j_getI (pc := 5) fl_X12_91 dX12_needs_5 (a_88 hM) rfl ?_
    have f2 : (0 : Int) ≤ σ 88 17 ∧ σ 88 17 ≤ 5 := hI 88 17
    refine j_ifR_ne (pc := 8) (tgt := 24) ⟨by omega, by omega⟩ dX12_needs_8 rfl (fun h3 => ?_) (fun h3 => ?_)
    · exact j_vret (pc := 24) ⟨rfl, rfl⟩ dX12_needs_24 rfl ⟨rfl, hI, (tw_F_rf), by omega, by omega, (by first | exact aM_needt (fun _ => decide_eq_true (by omega)) | exact aM_need (by omega) (fun _ => decide_eq_false (by omega)) (by omega))⟩
    · refine j_aload_n (pc := 11) dX12_needs_11 rfl rfl ?_
      refine j_iload_n (pc := 12) dX12_needs_12 rfl rfl ?_
      refine j_putI (pc := 13) fl_X12_91 fp_X12_17 dX12_needs_13 (a_88 hM) rfl (j_nm (fun σ4 (eσ4 : σ4 = tw_up σ 88 17 c) => ?_))
      have hIσ4 : tw_I σ4 := tw_I_up hI eσ4 (show (0 : Int) ≤ c ∧ c ≤ 5 from ⟨by omega, by omega⟩)
      have hFσ4 : tw_F (fun c j => (c = 88 ∧ (j = 17 ∨ j = 18))) σ σ4 := tw_F_up (tw_F_rf) eσ4 (show (88 = 88 ∧ (17 = 17 ∨ 17 = 18)) from ⟨rfl, (Or.inl rfl)⟩)
      refine j_aload_n (pc := 16) dX12_needs_16 rfl rfl ?_
      refine j_aload_n (pc := 17) dX12_needs_17 rfl rfl ?_
      refine j_getI (pc := 18) fl_X12_94 dX12_needs_18 (a_88 hM) rfl ?_
      refine j_topV (show σ4 88 14 = σ 88 14 from (tw_ne1 eσ4 (by (first | decide | omega)))) ?_
      have f5 : (0 : Int) ≤ σ 88 14 ∧ σ 88 14 ≤ 400 := hI 88 14
      refine j_putI (pc := 21) fl_X12_97 fp_X12_18 dX12_needs_21 (a_88 hM) rfl (j_nm (fun σ6 (eσ6 : σ6 = tw_up σ4 88 18 (σ 88 14)) => ?_))
      have hIσ6 : tw_I σ6 := tw_I_up hIσ4 eσ6 (show (0 : Int) ≤ σ 88 14 ∧ σ 88 14 ≤ 400 from ⟨by omega, by omega⟩)
      have hFσ6 : tw_F (fun c j => (c = 88 ∧ (j = 17 ∨ j = 18))) σ σ6 := tw_F_up hFσ4 eσ6 (show (88 = 88 ∧ (18 = 17 ∨ 18 = 18)) from ⟨rfl, (Or.inr rfl)⟩)
      have y7 : σ6 88 17 = c := ((tw_ne1 eσ6 (by (first | decide | omega)))).trans (tw_eq1 eσ4)
      have y8 : σ6 88 17 = c := ((tw_ne1 eσ6 (by (first | decide | omega)))).trans (tw_eq1 eσ4)
      have y9 : σ6 88 18 = σ 88 14 := (tw_eq1 eσ6)
      exact j_vret (pc := 24) ⟨rfl, rfl⟩ dX12_needs_24 rfl ⟨rfl, hIσ6, hFσ6, by omega, by omega, (by first | exact aM_needt (fun _ => decide_eq_true (by omega)) | exact aM_need (by omega) (fun _ => decide_eq_false (by omega)) (by omega))⟩
