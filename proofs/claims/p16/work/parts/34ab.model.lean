/-! 34ab.model -/
theorem dX12_look_0 : decode cX12_look 0 = .ok (.iload_n 1, 1) := by decide +kernel
theorem dX12_look_1 : decode cX12_look 1 = .ok (.aload_n 0, 1) := by decide +kernel
theorem dX12_look_2 : decode cX12_look 2 = .ok (.getfield 86, 3) := by decide +kernel
theorem dX12_look_5 : decode cX12_look 5 = .ok (.if_icmp .ge 12, 3) := by decide +kernel
theorem dX12_look_8 : decode cX12_look 8 = .ok (.aload_n 0, 1) := by decide +kernel
theorem dX12_look_9 : decode cX12_look 9 = .ok (.getfield 38, 3) := by decide +kernel
theorem dX12_look_12 : decode cX12_look 12 = .ok (.iload_n 1, 1) := by decide +kernel
theorem dX12_look_13 : decode cX12_look 13 = .ok (.iaload, 1) := by decide +kernel
theorem dX12_look_14 : decode cX12_look 14 = .ok (.goto 4, 3) := by decide +kernel
theorem dX12_look_17 : decode cX12_look 17 = .ok (.iconst (-1), 1) := by decide +kernel
theorem dX12_look_18 : decode cX12_look 18 = .ok (.ireturn, 1) := by decide +kernel
abbrev q_X12_look (p : Int) (σ : tw_M) : Option tw_V → tw_M → Prop := fun z τ => ∃ r : Int, z = some (vI r) ∧ (-2147483648 ≤ r ∧ r ≤ 2147483647) ∧ σ = τ ∧ ((p < σ 88 12 ∧ r = σ 98 p.toNat) ∨ (¬ p < σ 88 12 ∧ r = -1)) ∧ (r = fM σ p)
set_option maxHeartbeats 4000000 in
set_option maxRecDepth 100000 in
theorem c_X12_look {G : tw_G} (hM : tw_isM G) (p : Int) (hp : 0 ≤ p ∧ p ≤ 2147483647) (σ : tw_M) (hI : tw_I σ) : tw_C G yX12_look cX12_look 2 (some .int) 0 [vR 88, vI p] σ (q_X12_look p σ) := by
  refine tw_met [(0, vR 88), (1, vI p)] (by decide +kernel) rfl (Nat.le_of_ble_eq_true rfl) ?_
  refine j_iload_n (pc := 0) dX12_look_0 rfl rfl ?_
  refine j_aload_n (pc := 1) dX12_look_1 rfl rfl ?_
  refine j_getI (pc := 2) fl_X12_86 dX12_look_2 (a_88 hM) rfl ?_
  have f1 : (0 : Int) ≤ σ 88 12 ∧ σ 88 12 ≤ 400 := hI 88 12
  refine j_icmpR_ge (pc := 5) (tgt := 17) ⟨by omega, by omega⟩ ⟨by omega, by omega⟩ dX12_look_5 rfl (fun h2 => ?_) (fun h2 => ?_)
  · refine j_iconst (pc := 17) dX12_look_17 ?_
    exact j_iret (pc := 18) ⟨rfl, rfl⟩ dX12_look_18 rfl ⟨_, rfl, ⟨by omega, by omega⟩, rfl, by omega, (by first | exact Eq.trans (by omega) (fM_at ⟨by omega, by omega⟩).symm | exact Eq.trans (by omega) (fM_no (by omega)).symm)⟩
  · refine j_aload_n (pc := 8) dX12_look_8 rfl rfl ?_
    refine j_getR (pc := 9) (r := 98) fl_X12_38 dX12_look_9 (a_88 hM) rfl ?_
    refine j_iload_n (pc := 12) dX12_look_12 rfl rfl ?_
    refine j_iald (pc := 13) dX12_look_13 (a_98 hM) (by omega) (by omega) (by decide) ?_
    have f3 : (-2147483648 : Int) ≤ σ 98 (p.toNat) ∧ σ 98 (p.toNat) ≤ 2147483647 := hI 98 (p.toNat)
    refine j_goto (pc := 14) (tgt := 18) dX12_look_14 rfl ?_
    exact j_iret (pc := 18) ⟨rfl, rfl⟩ dX12_look_18 rfl ⟨_, rfl, ⟨by omega, by omega⟩, rfl, by omega, (by first | exact Eq.trans (by omega) (fM_at ⟨by omega, by omega⟩).symm | exact Eq.trans (by omega) (fM_no (by omega)).symm)⟩
