/-! 19ab.tape -/
theorem dX9_fail_0 : decode cX9_fail 0 = .ok (.aload_n 0, 1) := by decide +kernel
theorem dX9_fail_1 : decode cX9_fail 1 = .ok (.getfield 33, 3) := by decide +kernel
theorem dX9_fail_4 : decode cX9_fail 4 = .ok (.ifCond .eq 4, 3) := by decide +kernel
theorem dX9_fail_7 : decode cX9_fail 7 = .ok (.return_, 1) := by decide +kernel
theorem dX9_fail_8 : decode cX9_fail 8 = .ok (.aload_n 0, 1) := by decide +kernel
theorem dX9_fail_9 : decode cX9_fail 9 = .ok (.iload_n 1, 1) := by decide +kernel
theorem dX9_fail_10 : decode cX9_fail 10 = .ok (.putfield 33, 3) := by decide +kernel
theorem dX9_fail_13 : decode cX9_fail 13 = .ok (.aload_n 0, 1) := by decide +kernel
theorem dX9_fail_14 : decode cX9_fail 14 = .ok (.iload_n 2, 1) := by decide +kernel
theorem dX9_fail_15 : decode cX9_fail 15 = .ok (.putfield 36, 3) := by decide +kernel
theorem dX9_fail_18 : decode cX9_fail 18 = .ok (.return_, 1) := by decide +kernel
abbrev q_X9_fail (a : Int) (b : Int) (σ : tw_M) : Option tw_V → tw_M → Prop := fun z τ => z = none ∧ tw_I τ ∧ tw_F (fun c j => (c = 10 ∧ (j = 11 ∨ j = 12))) σ τ ∧ ((σ 10 11 = 0 ∧ τ 10 11 = a ∧ τ 10 12 = b) ∨ (¬ σ 10 11 = 0 ∧ τ 10 11 = σ 10 11 ∧ τ 10 12 = σ 10 12))
set_option maxHeartbeats 4000000 in
set_option maxRecDepth 100000 in
theorem c_X9_fail {G : tw_G} (hX : tw_isX G) (a : Int) (ha : 1 ≤ a ∧ a ≤ 5) (b : Int) (hb : 0 ≤ b ∧ b ≤ 400) (σ : tw_M) (hI : tw_I σ) : tw_C G yX9_fail cX9_fail 3 none 0 [vR 10, vI a, vI b] σ (q_X9_fail a b σ) := by
  refine tw_met [(0, vR 10), (1, vI a), (2, vI b)] (by decide +kernel) rfl (Nat.le_of_ble_eq_true rfl) ?_
  refine j_aload_n (pc := 0) dX9_fail_0 rfl rfl ?_
  refine j_getI (pc := 1) fl_X9_33 dX9_fail_1 (a_10 hX) rfl ?_
  have f1 : (0 : Int) ≤ σ 10 11 ∧ σ 10 11 ≤ 5 := hI 10 11
  refine j_ifR_eq (pc := 4) (tgt := 8) ⟨by omega, by omega⟩ dX9_fail_4 rfl (fun h2 => ?_) (fun h2 => ?_)
  · refine j_aload_n (pc := 8) dX9_fail_8 rfl rfl ?_
    refine j_iload_n (pc := 9) dX9_fail_9 rfl rfl ?_
    refine j_putI (pc := 10) fl_X9_33 fp_X9_11 dX9_fail_10 (a_10 hX) rfl (j_nm (fun σ3 (eσ3 : σ3 = tw_up σ 10 11 a) => ?_))
    have hIσ3 : tw_I σ3 := tw_I_up hI eσ3 (show (0 : Int) ≤ a ∧ a ≤ 5 from ⟨by omega, by omega⟩)
    have hFσ3 : tw_F (fun c j => (c = 10 ∧ (j = 11 ∨ j = 12))) σ σ3 := tw_F_up (tw_F_rf) eσ3 (show (10 = 10 ∧ (11 = 11 ∨ 11 = 12)) from ⟨rfl, (Or.inl rfl)⟩)
    refine j_aload_n (pc := 13) dX9_fail_13 rfl rfl ?_
    refine j_iload_n (pc := 14) dX9_fail_14 rfl rfl ?_
    refine j_putI (pc := 15) fl_X9_36 fp_X9_12 dX9_fail_15 (a_10 hX) rfl (j_nm (fun σ4 (eσ4 : σ4 = tw_up σ3 10 12 b) => ?_))
    have hIσ4 : tw_I σ4 := tw_I_up hIσ3 eσ4 (show (0 : Int) ≤ b ∧ b ≤ 400 from ⟨by omega, by omega⟩)
    have hFσ4 : tw_F (fun c j => (c = 10 ∧ (j = 11 ∨ j = 12))) σ σ4 := tw_F_up hFσ3 eσ4 (show (10 = 10 ∧ (12 = 11 ∨ 12 = 12)) from ⟨rfl, (Or.inr rfl)⟩)
    have y5 : σ4 10 11 = a := ((tw_ne1 eσ4 (by (first | decide | omega)))).trans (tw_eq1 eσ3)
    have y6 : σ4 10 12 = b := (tw_eq1 eσ4)
    exact j_vret (pc := 18) ⟨rfl, rfl⟩ dX9_fail_18 rfl ⟨rfl, hIσ4, hFσ4, by omega⟩
  · exact j_vret (pc := 7) ⟨rfl, rfl⟩ dX9_fail_7 rfl ⟨rfl, hI, (tw_F_rf), by omega⟩
