/-! 30aj.model -/
theorem dX12_isStory_0 : decode cX12_isStory 0 = .ok (.aload_n 0, 1) := by decide +kernel
theorem dX12_isStory_1 : decode cX12_isStory 1 = .ok (.iload_n 1, 1) := by decide +kernel
theorem dX12_isStory_2 : decode cX12_isStory 2 = .ok (.invokevirtual 242, 3) := by decide +kernel
theorem dX12_isStory_5 : decode cX12_isStory 5 = .ok (.ifCond .eq 23, 3) := by decide +kernel
theorem dX12_isStory_8 : decode cX12_isStory 8 = .ok (.iload_n 2, 1) := by decide +kernel
theorem dX12_isStory_9 : decode cX12_isStory 9 = .ok (.i2l, 1) := by decide +kernel
theorem dX12_isStory_10 : decode cX12_isStory 10 = .ok (.lconst 0, 1) := by decide +kernel
theorem dX12_isStory_11 : decode cX12_isStory 11 = .ok (.aload_n 0, 1) := by decide +kernel
theorem dX12_isStory_12 : decode cX12_isStory 12 = .ok (.getfield 17, 3) := by decide +kernel
theorem dX12_isStory_15 : decode cX12_isStory 15 = .ok (.iconst 0, 1) := by decide +kernel
theorem dX12_isStory_16 : decode cX12_isStory 16 = .ok (.iaload, 1) := by decide +kernel
theorem dX12_isStory_17 : decode cX12_isStory 17 = .ok (.i2l, 1) := by decide +kernel
theorem dX12_isStory_18 : decode cX12_isStory 18 = .ok (.invokestatic 82, 3) := by decide +kernel
theorem dX12_isStory_21 : decode cX12_isStory 21 = .ok (.ifCond .eq 7, 3) := by decide +kernel
theorem dX12_isStory_24 : decode cX12_isStory 24 = .ok (.iconst 1, 1) := by decide +kernel
theorem dX12_isStory_25 : decode cX12_isStory 25 = .ok (.goto 4, 3) := by decide +kernel
theorem dX12_isStory_28 : decode cX12_isStory 28 = .ok (.iconst 0, 1) := by decide +kernel
theorem dX12_isStory_29 : decode cX12_isStory 29 = .ok (.ireturn, 1) := by decide +kernel
abbrev q_X12_isStory (p : Int) (q : Int) (σ : tw_M) : Option tw_V → tw_M → Prop := fun z τ => ∃ r : Int, z = some (vI r) ∧ (0 ≤ r ∧ r ≤ 1) ∧ σ = τ ∧ (r = 0 ∨ (0 ≤ q ∧ q ≤ σ 91 0))
set_option maxHeartbeats 4000000 in
set_option maxRecDepth 100000 in
theorem c_X12_isStory {G : tw_G} (hM : tw_isM G) (p : Int) (hp : -2147483648 ≤ p ∧ p ≤ 2147483647) (q : Int) (hq : -2147483648 ≤ q ∧ q ≤ 2147483647) (σ : tw_M) (hI : tw_I σ) (hq0 : mc σ 0 (σ 91 0).toNat ≤ 10) : tw_C G yX12_isStory cX12_isStory 3 (some .boolean) 4 [vR 88, vI p, vI q] σ (q_X12_isStory p q σ) := by
  refine tw_met [(0, vR 88), (1, vI p), (2, vI q)] (by decide +kernel) rfl (Nat.le_of_ble_eq_true rfl) ?_
  refine j_aload_n (pc := 0) dX12_isStory_0 rfl rfl ?_
  refine j_iload_n (pc := 1) dX12_isStory_1 rfl rfl ?_
  refine j_callV (pc := 2) (As := [vI p]) (st := []) (c_X12_arePieces hM p ⟨by omega, by omega⟩ σ hI (by omega)) mv_X12_242 rfl rfl rfl (a_88 hM) dX12_isStory_2 ⟨Nat.le_of_ble_eq_true rfl, Nat.le_of_ble_eq_true rfl⟩ ⟨Nat.le_refl _, Nat.le_refl _⟩ rfl (Nat.le_of_ble_eq_true rfl) rfl (fun z1 σ2 hz1 => ?_)
  obtain ⟨r4, rfl, hr4, rfl, -⟩ := hz1
  refine j_st (st' := [vI r4]) rfl ?_
  refine j_ifR_eq (pc := 5) (tgt := 28) ⟨by omega, by omega⟩ dX12_isStory_5 rfl (fun h5 => ?_) (fun h5 => ?_)
  · refine j_iconst (pc := 28) dX12_isStory_28 ?_
    exact j_zret (pc := 29) ⟨rfl, rfl⟩ dX12_isStory_29 rfl (nar_bool (by omega) (by omega)) ⟨_, rfl, ⟨by omega, by omega⟩, rfl, by omega⟩
  · refine j_iload_n (pc := 8) dX12_isStory_8 rfl rfl ?_
    refine j_i2l (pc := 9) dX12_isStory_9 ?_
    rw [w32_eq (a := q) (by omega) (by omega)]
    refine j_lconst (pc := 10) (z := 0) dX12_isStory_10 rfl ?_
    refine j_aload_n (pc := 11) dX12_isStory_11 rfl rfl ?_
    refine j_getR (pc := 12) (r := 91) fl_X12_17 dX12_isStory_12 (a_88 hM) rfl ?_
    refine j_iconst (pc := 15) dX12_isStory_15 ?_
    refine j_iald (pc := 16) dX12_isStory_16 (a_91 hM) (by omega) (by omega) (by decide) ?_
    refine j_topV (show σ 91 (Int.toNat 0) = σ 91 0 from rfl) ?_
    have f6 : (1 : Int) ≤ σ 91 0 ∧ σ 91 0 ≤ 40 := hI 91 0
    refine j_i2l (pc := 17) dX12_isStory_17 ?_
    rw [w32_eq (a := σ 91 0) (by omega) (by omega)]
    refine j_callS (pc := 18) (As := [vL q, vL 0, vL (σ 91 0)]) (st := []) (c_X12_in q ⟨by omega, by omega⟩ 0 (by (first | decide | exact ⟨by omega, by omega⟩)) (σ 91 0) ⟨by omega, by omega⟩ σ hI) ms_X12_82 rfl dX12_isStory_18 ⟨Nat.le_of_ble_eq_true rfl, Nat.le_of_ble_eq_true rfl⟩ ⟨Nat.le_refl _, Nat.le_refl _⟩ rfl (Nat.le_of_ble_eq_true rfl) rfl (fun z7 σ8 hz7 => ?_)
    obtain ⟨r10, rfl, hr10, rfl, q9_0⟩ := hz7
    replace q9_0 : (r10 = 1 ∧ (0 : Int) ≤ q ∧ q ≤ (σ 91 0)) ∨ (r10 = 0 ∧ ¬ ((0 : Int) ≤ q ∧ q ≤ (σ 91 0))) := q9_0
    refine j_st (st' := [vI r10]) rfl ?_
    refine j_ifR_eq (pc := 21) (tgt := 28) ⟨by omega, by omega⟩ dX12_isStory_21 rfl (fun h11 => ?_) (fun h11 => ?_)
    · refine j_iconst (pc := 28) dX12_isStory_28 ?_
      exact j_zret (pc := 29) ⟨rfl, rfl⟩ dX12_isStory_29 rfl (nar_bool (by omega) (by omega)) ⟨_, rfl, ⟨by omega, by omega⟩, rfl, by omega⟩
    · refine j_iconst (pc := 24) dX12_isStory_24 ?_
      refine j_goto (pc := 25) (tgt := 29) dX12_isStory_25 rfl ?_
      exact j_zret (pc := 29) ⟨rfl, rfl⟩ dX12_isStory_29 rfl (nar_bool (by omega) (by omega)) ⟨_, rfl, ⟨by omega, by omega⟩, rfl, by omega⟩
