/-! 30af.model -/
theorem dX12_triesAll_0 : decode cX12_triesAll 0 = .ok (.aload_n 0, 1) := by decide +kernel
theorem dX12_triesAll_1 : decode cX12_triesAll 1 = .ok (.getfield 7, 3) := by decide +kernel
theorem dX12_triesAll_4 : decode cX12_triesAll 4 = .ok (.bipush 93, 2) := by decide +kernel
theorem dX12_triesAll_6 : decode cX12_triesAll 6 = .ok (.iaload, 1) := by decide +kernel
theorem dX12_triesAll_7 : decode cX12_triesAll 7 = .ok (.aload_n 0, 1) := by decide +kernel
theorem dX12_triesAll_8 : decode cX12_triesAll 8 = .ok (.getfield 7, 3) := by decide +kernel
theorem dX12_triesAll_11 : decode cX12_triesAll 11 = .ok (.bipush 95, 2) := by decide +kernel
theorem dX12_triesAll_13 : decode cX12_triesAll 13 = .ok (.iaload, 1) := by decide +kernel
theorem dX12_triesAll_14 : decode cX12_triesAll 14 = .ok (.iadd, 1) := by decide +kernel
theorem dX12_triesAll_15 : decode cX12_triesAll 15 = .ok (.ireturn, 1) := by decide +kernel
abbrev q_X12_triesAll  (σ : tw_M) : Option tw_V → tw_M → Prop := fun z τ => ∃ r : Int, z = some (vI r) ∧ (-2147483648 ≤ r ∧ r ≤ 2147483647) ∧ σ = τ ∧ (r = σ 89 93 + σ 89 95)
set_option maxHeartbeats 4000000 in
set_option maxRecDepth 100000 in
theorem c_X12_triesAll {G : tw_G} (hM : tw_isM G) (σ : tw_M) (hI : tw_I σ) : tw_C G yX12_triesAll cX12_triesAll 1 (some .int) 0 [vR 88] σ (q_X12_triesAll σ) := by
  refine tw_met [(0, vR 88)] (by decide +kernel) rfl (Nat.le_of_ble_eq_true rfl) ?_
  refine j_aload_n (pc := 0) dX12_triesAll_0 rfl rfl ?_
  refine j_getR (pc := 1) (r := 89) fl_X12_7 dX12_triesAll_1 (a_88 hM) rfl ?_
  refine j_bipush (pc := 4) dX12_triesAll_4 rfl ?_
  refine j_iald (pc := 6) dX12_triesAll_6 (a_89 hM) (by omega) (by omega) (by decide) ?_
  refine j_topV (show σ 89 (Int.toNat 93) = σ 89 93 from rfl) ?_
  have f1 : (0 : Int) ≤ σ 89 93 ∧ σ 89 93 ≤ 999 := hI 89 93
  refine j_aload_n (pc := 7) dX12_triesAll_7 rfl rfl ?_
  refine j_getR (pc := 8) (r := 89) fl_X12_7 dX12_triesAll_8 (a_88 hM) rfl ?_
  refine j_bipush (pc := 11) dX12_triesAll_11 rfl ?_
  refine j_iald (pc := 13) dX12_triesAll_13 (a_89 hM) (by omega) (by omega) (by decide) ?_
  refine j_topV (show σ 89 (Int.toNat 95) = σ 89 95 from rfl) ?_
  have f2 : (0 : Int) ≤ σ 89 95 ∧ σ 89 95 ≤ 999 := hI 89 95
  refine j_iadd (pc := 14) dX12_triesAll_14 ?_
  exact j_iret (pc := 15) ⟨rfl, rfl⟩ dX12_triesAll_15 rfl ⟨_, rfl, ⟨by omega, by omega⟩, rfl, by omega⟩
