/-! 32ao.model -/
theorem dX12_lay_0 : decode cX12_lay 0 = .ok (.iload_n 1, 1) := by decide +kernel
theorem dX12_lay_1 : decode cX12_lay 1 = .ok (.iconst 0, 1) := by decide +kernel
theorem dX12_lay_2 : decode cX12_lay 2 = .ok (.invokestatic 377, 3) := by decide +kernel
theorem dX12_lay_5 : decode cX12_lay 5 = .ok (.ifCond .ne 5, 3) := by decide +kernel
theorem dX12_lay_8 : decode cX12_lay 8 = .ok (.iconst (-1), 1) := by decide +kernel
theorem dX12_lay_9 : decode cX12_lay 9 = .ok (.ireturn, 1) := by decide +kernel
theorem dX12_lay_10 : decode cX12_lay 10 = .ok (.aload_n 0, 1) := by decide +kernel
theorem dX12_lay_11 : decode cX12_lay 11 = .ok (.getfield 56, 3) := by decide +kernel
theorem dX12_lay_14 : decode cX12_lay 14 = .ok (.iload_n 1, 1) := by decide +kernel
theorem dX12_lay_15 : decode cX12_lay 15 = .ok (.iaload, 1) := by decide +kernel
theorem dX12_lay_16 : decode cX12_lay 16 = .ok (.bipush (-4), 2) := by decide +kernel
theorem dX12_lay_18 : decode cX12_lay 18 = .ok (.if_icmp .ne 6, 3) := by decide +kernel
theorem dX12_lay_21 : decode cX12_lay 21 = .ok (.bipush (-11), 2) := by decide +kernel
theorem dX12_lay_23 : decode cX12_lay 23 = .ok (.ireturn, 1) := by decide +kernel
theorem dX12_lay_24 : decode cX12_lay 24 = .ok (.iload_n 2, 1) := by decide +kernel
theorem dX12_lay_25 : decode cX12_lay 25 = .ok (.i2l, 1) := by decide +kernel
theorem dX12_lay_26 : decode cX12_lay 26 = .ok (.lconst 0, 1) := by decide +kernel
theorem dX12_lay_27 : decode cX12_lay 27 = .ok (.aload_n 0, 1) := by decide +kernel
theorem dX12_lay_28 : decode cX12_lay 28 = .ok (.getfield 59, 3) := by decide +kernel
theorem dX12_lay_31 : decode cX12_lay 31 = .ok (.iload_n 1, 1) := by decide +kernel
theorem dX12_lay_32 : decode cX12_lay 32 = .ok (.iaload, 1) := by decide +kernel
theorem dX12_lay_33 : decode cX12_lay 33 = .ok (.iconst 1, 1) := by decide +kernel
theorem dX12_lay_34 : decode cX12_lay 34 = .ok (.isub, 1) := by decide +kernel
theorem dX12_lay_35 : decode cX12_lay 35 = .ok (.i2l, 1) := by decide +kernel
theorem dX12_lay_36 : decode cX12_lay 36 = .ok (.invokestatic 82, 3) := by decide +kernel
theorem dX12_lay_39 : decode cX12_lay 39 = .ok (.ifCond .ne 6, 3) := by decide +kernel
theorem dX12_lay_42 : decode cX12_lay 42 = .ok (.bipush (-12), 2) := by decide +kernel
theorem dX12_lay_44 : decode cX12_lay 44 = .ok (.ireturn, 1) := by decide +kernel
theorem dX12_lay_45 : decode cX12_lay 45 = .ok (.aload_n 0, 1) := by decide +kernel
theorem dX12_lay_46 : decode cX12_lay 46 = .ok (.getfield 62, 3) := by decide +kernel
theorem dX12_lay_49 : decode cX12_lay 49 = .ok (.bipush 40, 2) := by decide +kernel
theorem dX12_lay_51 : decode cX12_lay 51 = .ok (.iload_n 1, 1) := by decide +kernel
theorem dX12_lay_52 : decode cX12_lay 52 = .ok (.imul, 1) := by decide +kernel
theorem dX12_lay_53 : decode cX12_lay 53 = .ok (.iload_n 2, 1) := by decide +kernel
theorem dX12_lay_54 : decode cX12_lay 54 = .ok (.iadd, 1) := by decide +kernel
theorem dX12_lay_55 : decode cX12_lay 55 = .ok (.aload_n 0, 1) := by decide +kernel
theorem dX12_lay_56 : decode cX12_lay 56 = .ok (.getfield 56, 3) := by decide +kernel
theorem dX12_lay_59 : decode cX12_lay 59 = .ok (.iload_n 1, 1) := by decide +kernel
theorem dX12_lay_60 : decode cX12_lay 60 = .ok (.iaload, 1) := by decide +kernel
theorem dX12_lay_61 : decode cX12_lay 61 = .ok (.ifCond .ne 8, 3) := by decide +kernel
theorem dX12_lay_64 : decode cX12_lay 64 = .ok (.iload_n 3, 1) := by decide +kernel
theorem dX12_lay_65 : decode cX12_lay 65 = .ok (.i2b, 1) := by decide +kernel
theorem dX12_lay_66 : decode cX12_lay 66 = .ok (.goto 19, 3) := by decide +kernel
theorem dX12_lay_69 : decode cX12_lay 69 = .ok (.aload_n 0, 1) := by decide +kernel
theorem dX12_lay_70 : decode cX12_lay 70 = .ok (.getfield 56, 3) := by decide +kernel
theorem dX12_lay_73 : decode cX12_lay 73 = .ok (.iload_n 1, 1) := by decide +kernel
theorem dX12_lay_74 : decode cX12_lay 74 = .ok (.iaload, 1) := by decide +kernel
theorem dX12_lay_75 : decode cX12_lay 75 = .ok (.iconst 1, 1) := by decide +kernel
theorem dX12_lay_76 : decode cX12_lay 76 = .ok (.if_icmp .ne 8, 3) := by decide +kernel
theorem dX12_lay_79 : decode cX12_lay 79 = .ok (.iload_n 3, 1) := by decide +kernel
theorem dX12_lay_80 : decode cX12_lay 80 = .ok (.i2s, 1) := by decide +kernel
theorem dX12_lay_81 : decode cX12_lay 81 = .ok (.goto 4, 3) := by decide +kernel
theorem dX12_lay_84 : decode cX12_lay 84 = .ok (.iload_n 3, 1) := by decide +kernel
theorem dX12_lay_85 : decode cX12_lay 85 = .ok (.iastore, 1) := by decide +kernel
theorem dX12_lay_86 : decode cX12_lay 86 = .ok (.iconst 1, 1) := by decide +kernel
theorem dX12_lay_87 : decode cX12_lay 87 = .ok (.ireturn, 1) := by decide +kernel
abbrev q_X12_lay (k : Int) (i : Int) (v : Int) (σ : tw_M) : Option tw_V → tw_M → Prop := fun z τ => ∃ r : Int, z = some (vI r) ∧ (-2147483648 ≤ r ∧ r ≤ 2147483647) ∧ tw_I τ ∧ tw_F (fun c j => c = 106) σ τ ∧ ((r = -1 ∧ ¬ (0 ≤ k ∧ k ≤ 3)) ∨ (r = -11 ∧ 0 ≤ k ∧ k ≤ 3 ∧ σ 104 k.toNat = -4) ∨ (r = -12 ∧ 0 ≤ k ∧ k ≤ 3 ∧ ¬ σ 104 k.toNat = -4 ∧ ¬ (0 ≤ i ∧ i < σ 105 k.toNat)) ∨ (r = 1 ∧ 0 ≤ k ∧ k ≤ 3 ∧ ¬ σ 104 k.toNat = -4 ∧ 0 ≤ i ∧ i < σ 105 k.toNat)) ∧ ((r = 1 ∧ τ 106 (40 * k + i).toNat = nrw (σ 104 k.toNat) v ∧ ∀ j : Nat, ¬ j = (40 * k + i).toNat → τ 106 j = σ 106 j) ∨ (¬ r = 1 ∧ ∀ j : Nat, τ 106 j = σ 106 j))
set_option maxHeartbeats 4000000 in
set_option maxRecDepth 100000 in
theorem c_X12_lay {G : tw_G} (hM : tw_isM G) (k : Int) (hk : -2147483648 ≤ k ∧ k ≤ 2147483647) (i : Int) (hi : -2147483648 ≤ i ∧ i ≤ 2147483647) (v : Int) (hv : -2147483648 ≤ v ∧ v ≤ 2147483647) (σ : tw_M) (hI : tw_I σ) : tw_C G yX12_lay cX12_lay 4 (some .int) 2 [vR 88, vI k, vI i, vI v] σ (q_X12_lay k i v σ) := by
  refine tw_met [(0, vR 88), (1, vI k), (2, vI i), (3, vI v)] (by decide +kernel) rfl (Nat.le_of_ble_eq_true rfl) ?_
  refine j_iload_n (pc := 0) dX12_lay_0 rfl rfl ?_
  refine j_iconst (pc := 1) dX12_lay_1 ?_
  refine j_callS (pc := 2) (As := [vI k, vI 0]) (st := []) (c_X12_isSheet k ⟨by omega, by omega⟩ 0 (by (first | decide | exact ⟨by omega, by omega⟩)) σ hI) ms_X12_377 rfl dX12_lay_2 ⟨Nat.le_of_ble_eq_true rfl, Nat.le_of_ble_eq_true rfl⟩ ⟨Nat.le_refl _, Nat.le_refl _⟩ rfl (Nat.le_of_ble_eq_true rfl) rfl (fun z1 σ2 hz1 => ?_)
  obtain ⟨r4, rfl, hr4, rfl, q3_0⟩ := hz1
  replace q3_0 : (r4 = 1 ∧ 0 ≤ k ∧ k ≤ 3 ∧ 0 ≤ (0 : Int) ∧ (0 : Int) ≤ 2) ∨ (r4 = 0 ∧ ¬ (0 ≤ k ∧ k ≤ 3 ∧ 0 ≤ (0 : Int) ∧ (0 : Int) ≤ 2)) := q3_0
  refine j_st (st' := [vI r4]) rfl ?_
  refine j_ifR_ne (pc := 5) (tgt := 10) ⟨by omega, by omega⟩ dX12_lay_5 rfl (fun h5 => ?_) (fun h5 => ?_)
  · refine j_aload_n (pc := 10) dX12_lay_10 rfl rfl ?_
    refine j_getR (pc := 11) (r := 104) fl_X12_56 dX12_lay_11 (a_88 hM) rfl ?_
    refine j_iload_n (pc := 14) dX12_lay_14 rfl rfl ?_
    refine j_iald (pc := 15) dX12_lay_15 (a_104 hM) (by omega) (by omega) (by decide) ?_
    have f6 : (-4 : Int) ≤ σ 104 (k.toNat) ∧ σ 104 (k.toNat) ≤ 2 := hI 104 (k.toNat)
    refine j_bipush (pc := 16) dX12_lay_16 rfl ?_
    refine j_icmpR_ne (pc := 18) (tgt := 24) ⟨by omega, by omega⟩ ⟨by omega, by omega⟩ dX12_lay_18 rfl (fun h7 => ?_) (fun h7 => ?_)
    · refine j_iload_n (pc := 24) dX12_lay_24 rfl rfl ?_
      refine j_i2l (pc := 25) dX12_lay_25 ?_
      rw [w32_eq (a := i) (by omega) (by omega)]
      refine j_lconst (pc := 26) (z := 0) dX12_lay_26 rfl ?_
      refine j_aload_n (pc := 27) dX12_lay_27 rfl rfl ?_
      refine j_getR (pc := 28) (r := 105) fl_X12_59 dX12_lay_28 (a_88 hM) rfl ?_
      refine j_iload_n (pc := 31) dX12_lay_31 rfl rfl ?_
      refine j_iald (pc := 32) dX12_lay_32 (a_105 hM) (by omega) (by omega) (by decide) ?_
      have f8 : (0 : Int) ≤ σ 105 (k.toNat) ∧ σ 105 (k.toNat) ≤ 40 := hI 105 (k.toNat)
      refine j_iconst (pc := 33) dX12_lay_33 ?_
      refine j_isub (pc := 34) dX12_lay_34 ?_
      refine j_i2l (pc := 35) dX12_lay_35 ?_
      rw [w32_eq (a := (σ 105 (k.toNat)) - 1) (by omega) (by omega)]
      refine j_callS (pc := 36) (As := [vL i, vL 0, vL ((σ 105 (k.toNat)) - 1)]) (st := []) (c_X12_in i ⟨by omega, by omega⟩ 0 (by (first | decide | exact ⟨by omega, by omega⟩)) ((σ 105 (k.toNat)) - 1) ⟨by omega, by omega⟩ σ hI) ms_X12_82 rfl dX12_lay_36 ⟨Nat.le_of_ble_eq_true rfl, Nat.le_of_ble_eq_true rfl⟩ ⟨Nat.le_refl _, Nat.le_refl _⟩ rfl (Nat.le_of_ble_eq_true rfl) rfl (fun z9 σ10 hz9 => ?_)
      obtain ⟨r12, rfl, hr12, rfl, q11_0⟩ := hz9
      replace q11_0 : (r12 = 1 ∧ (0 : Int) ≤ i ∧ i ≤ ((σ 105 (k.toNat)) - 1)) ∨ (r12 = 0 ∧ ¬ ((0 : Int) ≤ i ∧ i ≤ ((σ 105 (k.toNat)) - 1))) := q11_0
      refine j_st (st' := [vI r12]) rfl ?_
      refine j_ifR_ne (pc := 39) (tgt := 45) ⟨by omega, by omega⟩ dX12_lay_39 rfl (fun h13 => ?_) (fun h13 => ?_)
      · refine j_aload_n (pc := 45) dX12_lay_45 rfl rfl ?_
        refine j_getR (pc := 46) (r := 106) fl_X12_62 dX12_lay_46 (a_88 hM) rfl ?_
        refine j_bipush (pc := 49) dX12_lay_49 rfl ?_
        refine j_iload_n (pc := 51) dX12_lay_51 rfl rfl ?_
        refine j_imul (pc := 52) dX12_lay_52 ?_
        refine j_iload_n (pc := 53) dX12_lay_53 rfl rfl ?_
        refine j_iadd (pc := 54) dX12_lay_54 ?_
        refine j_aload_n (pc := 55) dX12_lay_55 rfl rfl ?_
        refine j_getR (pc := 56) (r := 104) fl_X12_56 dX12_lay_56 (a_88 hM) rfl ?_
        refine j_iload_n (pc := 59) dX12_lay_59 rfl rfl ?_
        refine j_iald (pc := 60) dX12_lay_60 (a_104 hM) (by omega) (by omega) (by decide) ?_
        refine j_ifR_ne (pc := 61) (tgt := 69) ⟨by omega, by omega⟩ dX12_lay_61 rfl (fun h14 => ?_) (fun h14 => ?_)
        · refine j_aload_n (pc := 69) dX12_lay_69 rfl rfl ?_
          refine j_getR (pc := 70) (r := 104) fl_X12_56 dX12_lay_70 (a_88 hM) rfl ?_
          refine j_iload_n (pc := 73) dX12_lay_73 rfl rfl ?_
          refine j_iald (pc := 74) dX12_lay_74 (a_104 hM) (by omega) (by omega) (by decide) ?_
          refine j_iconst (pc := 75) dX12_lay_75 ?_
          refine j_icmpR_ne (pc := 76) (tgt := 84) ⟨by omega, by omega⟩ ⟨by omega, by omega⟩ dX12_lay_76 rfl (fun h15 => ?_) (fun h15 => ?_)
          · refine j_iload_n (pc := 84) dX12_lay_84 rfl rfl ?_
            have nv : v = nrw (σ 104 k.toNat) v := by unfold nrw; rw [if_neg (by omega), if_neg (by omega)]
            refine j_iast (pc := 85) dX12_lay_85 (a_106 hM) (by omega) (by omega) (by decide) (j_nm (fun σ16 (eσ16 : σ16 = tw_up σ 106 (((40 * k) + i).toNat) v) => ?_))
            have hIσ16 : tw_I σ16 := tw_I_up hI eσ16 (show (-2147483648 : Int) ≤ v ∧ v ≤ 2147483647 from ⟨by omega, by omega⟩)
            have hFσ16 : tw_F (fun c j => c = 106) σ σ16 := tw_F_up (tw_F_rf) eσ16 (show 106 = 106 from rfl)
            refine j_iconst (pc := 86) dX12_lay_86 ?_
            exact j_iret (pc := 87) ⟨rfl, rfl⟩ dX12_lay_87 rfl ⟨_, rfl, ⟨by omega, by omega⟩, hIσ16, hFσ16, (by first | exact Or.inl ⟨by omega, by omega⟩ | exact Or.inr (Or.inl ⟨by omega, by omega, by omega, by omega⟩) | exact Or.inr (Or.inr (Or.inl ⟨by omega, by omega, by omega, by omega, by omega⟩)) | exact Or.inr (Or.inr (Or.inr ⟨by omega, by omega, by omega, by omega, by omega, by omega⟩))), (by first | exact Or.inl ⟨rfl, (tw_eq1 eσ16).trans nv, fun j hj => tw_ne1 eσ16 (Or.inr hj)⟩ | exact Or.inr ⟨by decide, fun j => rfl⟩)⟩
          · refine j_iload_n (pc := 79) dX12_lay_79 rfl rfl ?_
            refine j_i2s (pc := 80) dX12_lay_80 (fun z17 ez17 => ?_)
            have hz17 : (-32768 : Int) ≤ z17 ∧ z17 ≤ 32767 := by rw [ez17]; exact i2s_in _
            refine j_goto (pc := 81) (tgt := 85) dX12_lay_81 rfl ?_
            have nv : z17 = nrw (σ 104 k.toNat) v := by unfold nrw; rw [if_neg (by omega), if_pos (by omega)]; exact ez17
            refine j_iast (pc := 85) dX12_lay_85 (a_106 hM) (by omega) (by omega) (by decide) (j_nm (fun σ18 (eσ18 : σ18 = tw_up σ 106 (((40 * k) + i).toNat) z17) => ?_))
            have hIσ18 : tw_I σ18 := tw_I_up hI eσ18 (show (-2147483648 : Int) ≤ z17 ∧ z17 ≤ 2147483647 from ⟨by omega, by omega⟩)
            have hFσ18 : tw_F (fun c j => c = 106) σ σ18 := tw_F_up (tw_F_rf) eσ18 (show 106 = 106 from rfl)
            refine j_iconst (pc := 86) dX12_lay_86 ?_
            exact j_iret (pc := 87) ⟨rfl, rfl⟩ dX12_lay_87 rfl ⟨_, rfl, ⟨by omega, by omega⟩, hIσ18, hFσ18, (by first | exact Or.inl ⟨by omega, by omega⟩ | exact Or.inr (Or.inl ⟨by omega, by omega, by omega, by omega⟩) | exact Or.inr (Or.inr (Or.inl ⟨by omega, by omega, by omega, by omega, by omega⟩)) | exact Or.inr (Or.inr (Or.inr ⟨by omega, by omega, by omega, by omega, by omega, by omega⟩))), (by first | exact Or.inl ⟨rfl, (tw_eq1 eσ18).trans nv, fun j hj => tw_ne1 eσ18 (Or.inr hj)⟩ | exact Or.inr ⟨by decide, fun j => rfl⟩)⟩
        · refine j_iload_n (pc := 64) dX12_lay_64 rfl rfl ?_
          refine j_i2b (pc := 65) dX12_lay_65 (fun z19 ez19 => ?_)
          have hz19 : (-128 : Int) ≤ z19 ∧ z19 ≤ 127 := by rw [ez19]; exact i2b_in _
          refine j_goto (pc := 66) (tgt := 85) dX12_lay_66 rfl ?_
          have nv : z19 = nrw (σ 104 k.toNat) v := by unfold nrw; rw [if_pos (by omega)]; exact ez19
          refine j_iast (pc := 85) dX12_lay_85 (a_106 hM) (by omega) (by omega) (by decide) (j_nm (fun σ20 (eσ20 : σ20 = tw_up σ 106 (((40 * k) + i).toNat) z19) => ?_))
          have hIσ20 : tw_I σ20 := tw_I_up hI eσ20 (show (-2147483648 : Int) ≤ z19 ∧ z19 ≤ 2147483647 from ⟨by omega, by omega⟩)
          have hFσ20 : tw_F (fun c j => c = 106) σ σ20 := tw_F_up (tw_F_rf) eσ20 (show 106 = 106 from rfl)
          refine j_iconst (pc := 86) dX12_lay_86 ?_
          exact j_iret (pc := 87) ⟨rfl, rfl⟩ dX12_lay_87 rfl ⟨_, rfl, ⟨by omega, by omega⟩, hIσ20, hFσ20, (by first | exact Or.inl ⟨by omega, by omega⟩ | exact Or.inr (Or.inl ⟨by omega, by omega, by omega, by omega⟩) | exact Or.inr (Or.inr (Or.inl ⟨by omega, by omega, by omega, by omega, by omega⟩)) | exact Or.inr (Or.inr (Or.inr ⟨by omega, by omega, by omega, by omega, by omega, by omega⟩))), (by first | exact Or.inl ⟨rfl, (tw_eq1 eσ20).trans nv, fun j hj => tw_ne1 eσ20 (Or.inr hj)⟩ | exact Or.inr ⟨by decide, fun j => rfl⟩)⟩
      · refine j_bipush (pc := 42) dX12_lay_42 rfl ?_
        exact j_iret (pc := 44) ⟨rfl, rfl⟩ dX12_lay_44 rfl ⟨_, rfl, ⟨by omega, by omega⟩, hI, (tw_F_rf), (by first | exact Or.inl ⟨by omega, by omega⟩ | exact Or.inr (Or.inl ⟨by omega, by omega, by omega, by omega⟩) | exact Or.inr (Or.inr (Or.inl ⟨by omega, by omega, by omega, by omega, by omega⟩)) | exact Or.inr (Or.inr (Or.inr ⟨by omega, by omega, by omega, by omega, by omega, by omega⟩))), (by first | exact Or.inl ⟨rfl, (tw_eq1 _).trans nv, fun j hj => tw_ne1 _ (Or.inr hj)⟩ | exact Or.inr ⟨by decide, fun j => rfl⟩)⟩
    · refine j_bipush (pc := 21) dX12_lay_21 rfl ?_
      exact j_iret (pc := 23) ⟨rfl, rfl⟩ dX12_lay_23 rfl ⟨_, rfl, ⟨by omega, by omega⟩, hI, (tw_F_rf), (by first | exact Or.inl ⟨by omega, by omega⟩ | exact Or.inr (Or.inl ⟨by omega, by omega, by omega, by omega⟩) | exact Or.inr (Or.inr (Or.inl ⟨by omega, by omega, by omega, by omega, by omega⟩)) | exact Or.inr (Or.inr (Or.inr ⟨by omega, by omega, by omega, by omega, by omega, by omega⟩))), (by first | exact Or.inl ⟨rfl, (tw_eq1 _).trans nv, fun j hj => tw_ne1 _ (Or.inr hj)⟩ | exact Or.inr ⟨by decide, fun j => rfl⟩)⟩
  · refine j_iconst (pc := 8) dX12_lay_8 ?_
    exact j_iret (pc := 9) ⟨rfl, rfl⟩ dX12_lay_9 rfl ⟨_, rfl, ⟨by omega, by omega⟩, hI, (tw_F_rf), (by first | exact Or.inl ⟨by omega, by omega⟩ | exact Or.inr (Or.inl ⟨by omega, by omega, by omega, by omega⟩) | exact Or.inr (Or.inr (Or.inl ⟨by omega, by omega, by omega, by omega, by omega⟩)) | exact Or.inr (Or.inr (Or.inr ⟨by omega, by omega, by omega, by omega, by omega, by omega⟩))), (by first | exact Or.inl ⟨rfl, (tw_eq1 _).trans nv, fun j hj => tw_ne1 _ (Or.inr hj)⟩ | exact Or.inr ⟨by decide, fun j => rfl⟩)⟩
