/-! 19ai.tape -/
theorem dX9_readSign_0 : decode cX9_readSign 0 = .ok (.aload_n 0, 1) := by decide +kernel
theorem dX9_readSign_1 : decode cX9_readSign 1 = .ok (.iconst 3, 1) := by decide +kernel
theorem dX9_readSign_2 : decode cX9_readSign 2 = .ok (.putfield 48, 3) := by decide +kernel
theorem dX9_readSign_5 : decode cX9_readSign 5 = .ok (.aload_n 0, 1) := by decide +kernel
theorem dX9_readSign_6 : decode cX9_readSign 6 = .ok (.dup, 1) := by decide +kernel
theorem dX9_readSign_7 : decode cX9_readSign 7 = .ok (.getfield 69, 3) := by decide +kernel
theorem dX9_readSign_10 : decode cX9_readSign 10 = .ok (.iconst 1, 1) := by decide +kernel
theorem dX9_readSign_11 : decode cX9_readSign 11 = .ok (.iadd, 1) := by decide +kernel
theorem dX9_readSign_12 : decode cX9_readSign 12 = .ok (.putfield 69, 3) := by decide +kernel
theorem dX9_readSign_15 : decode cX9_readSign 15 = .ok (.return_, 1) := by decide +kernel
abbrev q_X9_readSign  (σ : tw_M) : Option tw_V → tw_M → Prop := fun z τ => z = none ∧ tw_I τ ∧ tw_F (fun c j => (c = 10 ∧ (j = 5 ∨ j = 6))) σ τ ∧ (τ 10 6 = 3) ∧ (τ 10 5 = σ 10 5 + 1)
set_option maxHeartbeats 4000000 in
set_option maxRecDepth 100000 in
theorem c_X9_readSign {G : tw_G} (hX : tw_isX G) (σ : tw_M) (hI : tw_I σ) (hq0 : σ 10 5 < 400) : tw_C G yX9_readSign cX9_readSign 1 none 0 [vR 10] σ (q_X9_readSign σ) := by
  refine tw_met [(0, vR 10)] (by decide +kernel) rfl (Nat.le_of_ble_eq_true rfl) ?_
  refine j_aload_n (pc := 0) dX9_readSign_0 rfl rfl ?_
  refine j_iconst (pc := 1) dX9_readSign_1 ?_
  refine j_putI (pc := 2) fl_X9_48 fp_X9_6 dX9_readSign_2 (a_10 hX) rfl (j_nm (fun σ1 (eσ1 : σ1 = tw_up σ 10 6 3) => ?_))
  have hIσ1 : tw_I σ1 := tw_I_up hI eσ1 (show (0 : Int) ≤ 3 ∧ 3 ≤ 3 from by decide)
  have hFσ1 : tw_F (fun c j => (c = 10 ∧ (j = 5 ∨ j = 6))) σ σ1 := tw_F_up (tw_F_rf) eσ1 (show (10 = 10 ∧ (6 = 5 ∨ 6 = 6)) from ⟨rfl, (Or.inr rfl)⟩)
  refine j_aload_n (pc := 5) dX9_readSign_5 rfl rfl ?_
  refine j_dup (pc := 6) dX9_readSign_6 rfl ?_
  refine j_getI (pc := 7) fl_X9_69 dX9_readSign_7 (a_10 hX) rfl ?_
  refine j_topV (show σ1 10 5 = σ 10 5 from (tw_ne1 eσ1 (by (first | decide | omega)))) ?_
  have f2 : (0 : Int) ≤ σ 10 5 ∧ σ 10 5 ≤ 400 := hI 10 5
  refine j_iconst (pc := 10) dX9_readSign_10 ?_
  refine j_iadd (pc := 11) dX9_readSign_11 ?_
  refine j_putI (pc := 12) fl_X9_69 fp_X9_5 dX9_readSign_12 (a_10 hX) rfl (j_nm (fun σ3 (eσ3 : σ3 = tw_up σ1 10 5 ((σ 10 5) + 1)) => ?_))
  have hIσ3 : tw_I σ3 := tw_I_up hIσ1 eσ3 (show (0 : Int) ≤ (σ 10 5) + 1 ∧ (σ 10 5) + 1 ≤ 400 from ⟨by omega, by omega⟩)
  have hFσ3 : tw_F (fun c j => (c = 10 ∧ (j = 5 ∨ j = 6))) σ σ3 := tw_F_up hFσ1 eσ3 (show (10 = 10 ∧ (5 = 5 ∨ 5 = 6)) from ⟨rfl, (Or.inl rfl)⟩)
  have y4 : σ3 10 6 = 3 := ((tw_ne1 eσ3 (by (first | decide | omega)))).trans (tw_eq1 eσ1)
  have y5 : σ3 10 5 = (σ 10 5) + 1 := (tw_eq1 eσ3)
  exact j_vret (pc := 15) ⟨rfl, rfl⟩ dX9_readSign_15 rfl ⟨rfl, hIσ3, hFσ3, by omega, by omega⟩
