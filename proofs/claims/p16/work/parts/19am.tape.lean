/-! 19am.tape -/
theorem dX9_withName_0 : decode cX9_withName 0 = .ok (.aload_n 0, 1) := by decide +kernel
theorem dX9_withName_1 : decode cX9_withName 1 = .ok (.ldc 128, 2) := by decide +kernel
theorem dX9_withName_3 : decode cX9_withName 3 = .ok (.invokevirtual 108, 3) := by decide +kernel
theorem dX9_withName_6 : decode cX9_withName 6 = .ok (.ifCond .eq 5, 3) := by decide +kernel
theorem dX9_withName_9 : decode cX9_withName 9 = .ok (.iconst 0, 1) := by decide +kernel
theorem dX9_withName_10 : decode cX9_withName 10 = .ok (.ireturn, 1) := by decide +kernel
theorem dX9_withName_11 : decode cX9_withName 11 = .ok (.aload_n 0, 1) := by decide +kernel
theorem dX9_withName_12 : decode cX9_withName 12 = .ok (.ldc 130, 2) := by decide +kernel
theorem dX9_withName_14 : decode cX9_withName 14 = .ok (.invokevirtual 108, 3) := by decide +kernel
theorem dX9_withName_17 : decode cX9_withName 17 = .ok (.ifCond .eq 5, 3) := by decide +kernel
theorem dX9_withName_20 : decode cX9_withName 20 = .ok (.iconst 1, 1) := by decide +kernel
theorem dX9_withName_21 : decode cX9_withName 21 = .ok (.ireturn, 1) := by decide +kernel
theorem dX9_withName_22 : decode cX9_withName 22 = .ok (.aload_n 0, 1) := by decide +kernel
theorem dX9_withName_23 : decode cX9_withName 23 = .ok (.ldc 132, 2) := by decide +kernel
theorem dX9_withName_25 : decode cX9_withName 25 = .ok (.invokevirtual 108, 3) := by decide +kernel
theorem dX9_withName_28 : decode cX9_withName 28 = .ok (.ifCond .eq 5, 3) := by decide +kernel
theorem dX9_withName_31 : decode cX9_withName 31 = .ok (.iconst 2, 1) := by decide +kernel
theorem dX9_withName_32 : decode cX9_withName 32 = .ok (.ireturn, 1) := by decide +kernel
theorem dX9_withName_33 : decode cX9_withName 33 = .ok (.aload_n 0, 1) := by decide +kernel
theorem dX9_withName_34 : decode cX9_withName 34 = .ok (.ldc 134, 2) := by decide +kernel
theorem dX9_withName_36 : decode cX9_withName 36 = .ok (.invokevirtual 108, 3) := by decide +kernel
theorem dX9_withName_39 : decode cX9_withName 39 = .ok (.ifCond .eq 7, 3) := by decide +kernel
theorem dX9_withName_42 : decode cX9_withName 42 = .ok (.iconst 3, 1) := by decide +kernel
theorem dX9_withName_43 : decode cX9_withName 43 = .ok (.goto 4, 3) := by decide +kernel
theorem dX9_withName_46 : decode cX9_withName 46 = .ok (.iconst (-1), 1) := by decide +kernel
theorem dX9_withName_47 : decode cX9_withName 47 = .ok (.ireturn, 1) := by decide +kernel
abbrev q_X9_withName  (σ : tw_M) : Option tw_V → tw_M → Prop := fun z τ => ∃ r : Int, z = some (vI r) ∧ (-1 ≤ r ∧ r ≤ 3) ∧ σ = τ ∧ (r = wnm (fX σ) (σ 10 6) (σ 10 7) (σ 10 5))
set_option maxHeartbeats 4000000 in
set_option maxRecDepth 100000 in
theorem c_X9_withName {G : tw_G} (hX : tw_isX G) (σ : tw_M) (hI : tw_I σ) : tw_C G yX9_withName cX9_withName 1 (some .int) 5 [vR 10] σ (q_X9_withName σ) := by
  refine tw_met [(0, vR 10)] (by decide +kernel) rfl (Nat.le_of_ble_eq_true rfl) ?_
  refine j_aload_n (pc := 0) dX9_withName_0 rfl rfl ?_
  refine j_ldcS (pc := 1) (i := 10) rfl rfl rfl dX9_withName_1 ?_
  refine j_callV (pc := 3) (As := [vR (200 + 10)]) (st := []) (c_X9_isName hX 10 (show 10 < tw_lit.length from by decide) σ hI) mv_X9_108 rfl rfl rfl (a_10 hX) dX9_withName_3 ⟨Nat.le_of_ble_eq_true rfl, Nat.le_of_ble_eq_true rfl⟩ ⟨Nat.le_refl _, Nat.le_refl _⟩ rfl (Nat.le_of_ble_eq_true rfl) rfl (fun z1 σ2 hz1 => ?_)
  obtain ⟨r4, rfl, hr4, rfl, q3_0⟩ := hz1
  replace q3_0 : r4 = nmk (fX σ) (σ 10 6) (σ 10 7) (σ 10 5) 10 := q3_0
  refine j_st (st' := [vI r4]) rfl ?_
  refine j_ifR_eq (pc := 6) (tgt := 11) ⟨by omega, by omega⟩ dX9_withName_6 rfl (fun h5 => ?_) (fun h5 => ?_)
  · refine j_aload_n (pc := 11) dX9_withName_11 rfl rfl ?_
    refine j_ldcS (pc := 12) (i := 11) rfl rfl rfl dX9_withName_12 ?_
    refine j_callV (pc := 14) (As := [vR (200 + 11)]) (st := []) (c_X9_isName hX 11 (show 11 < tw_lit.length from by decide) σ hI) mv_X9_108 rfl rfl rfl (a_10 hX) dX9_withName_14 ⟨Nat.le_of_ble_eq_true rfl, Nat.le_of_ble_eq_true rfl⟩ ⟨Nat.le_refl _, Nat.le_refl _⟩ rfl (Nat.le_of_ble_eq_true rfl) rfl (fun z6 σ7 hz6 => ?_)
    obtain ⟨r9, rfl, hr9, rfl, q8_0⟩ := hz6
    replace q8_0 : r9 = nmk (fX σ) (σ 10 6) (σ 10 7) (σ 10 5) 11 := q8_0
    refine j_st (st' := [vI r9]) rfl ?_
    refine j_ifR_eq (pc := 17) (tgt := 22) ⟨by omega, by omega⟩ dX9_withName_17 rfl (fun h10 => ?_) (fun h10 => ?_)
    · refine j_aload_n (pc := 22) dX9_withName_22 rfl rfl ?_
      refine j_ldcS (pc := 23) (i := 12) rfl rfl rfl dX9_withName_23 ?_
      refine j_callV (pc := 25) (As := [vR (200 + 12)]) (st := []) (c_X9_isName hX 12 (show 12 < tw_lit.length from by decide) σ hI) mv_X9_108 rfl rfl rfl (a_10 hX) dX9_withName_25 ⟨Nat.le_of_ble_eq_true rfl, Nat.le_of_ble_eq_true rfl⟩ ⟨Nat.le_refl _, Nat.le_refl _⟩ rfl (Nat.le_of_ble_eq_true rfl) rfl (fun z11 σ12 hz11 => ?_)
      obtain ⟨r14, rfl, hr14, rfl, q13_0⟩ := hz11
      replace q13_0 : r14 = nmk (fX σ) (σ 10 6) (σ 10 7) (σ 10 5) 12 := q13_0
      refine j_st (st' := [vI r14]) rfl ?_
      refine j_ifR_eq (pc := 28) (tgt := 33) ⟨by omega, by omega⟩ dX9_withName_28 rfl (fun h15 => ?_) (fun h15 => ?_)
      · refine j_aload_n (pc := 33) dX9_withName_33 rfl rfl ?_
        refine j_ldcS (pc := 34) (i := 13) rfl rfl rfl dX9_withName_34 ?_
        refine j_callV (pc := 36) (As := [vR (200 + 13)]) (st := []) (c_X9_isName hX 13 (show 13 < tw_lit.length from by decide) σ hI) mv_X9_108 rfl rfl rfl (a_10 hX) dX9_withName_36 ⟨Nat.le_of_ble_eq_true rfl, Nat.le_of_ble_eq_true rfl⟩ ⟨Nat.le_refl _, Nat.le_refl _⟩ rfl (Nat.le_of_ble_eq_true rfl) rfl (fun z16 σ17 hz16 => ?_)
        obtain ⟨r19, rfl, hr19, rfl, q18_0⟩ := hz16
        replace q18_0 : r19 = nmk (fX σ) (σ 10 6) (σ 10 7) (σ 10 5) 13 := q18_0
        refine j_st (st' := [vI r19]) rfl ?_
        refine j_ifR_eq (pc := 39) (tgt := 46) ⟨by omega, by omega⟩ dX9_withName_39 rfl (fun h20 => ?_) (fun h20 => ?_)
        · refine j_iconst (pc := 46) dX9_withName_46 ?_
          exact j_iret (pc := 47) ⟨rfl, rfl⟩ dX9_withName_47 rfl ⟨_, rfl, ⟨by omega, by omega⟩, rfl, (by rw [wnm_z]; repeat (first | rw [if_pos (by omega)] | rw [if_neg (by omega)]))⟩
        · refine j_iconst (pc := 42) dX9_withName_42 ?_
          refine j_goto (pc := 43) (tgt := 47) dX9_withName_43 rfl ?_
          exact j_iret (pc := 47) ⟨rfl, rfl⟩ dX9_withName_47 rfl ⟨_, rfl, ⟨by omega, by omega⟩, rfl, (by rw [wnm_z]; repeat (first | rw [if_pos (by omega)] | rw [if_neg (by omega)]))⟩
      · refine j_iconst (pc := 31) dX9_withName_31 ?_
        exact j_iret (pc := 32) ⟨rfl, rfl⟩ dX9_withName_32 rfl ⟨_, rfl, ⟨by omega, by omega⟩, rfl, (by rw [wnm_z]; repeat (first | rw [if_pos (by omega)] | rw [if_neg (by omega)]))⟩
    · refine j_iconst (pc := 20) dX9_withName_20 ?_
      exact j_iret (pc := 21) ⟨rfl, rfl⟩ dX9_withName_21 rfl ⟨_, rfl, ⟨by omega, by omega⟩, rfl, (by rw [wnm_z]; repeat (first | rw [if_pos (by omega)] | rw [if_neg (by omega)]))⟩
  · refine j_iconst (pc := 9) dX9_withName_9 ?_
    exact j_iret (pc := 10) ⟨rfl, rfl⟩ dX9_withName_10 rfl ⟨_, rfl, ⟨by omega, by omega⟩, rfl, (by rw [wnm_z]; repeat (first | rw [if_pos (by omega)] | rw [if_neg (by omega)]))⟩
