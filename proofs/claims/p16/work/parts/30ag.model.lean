/-! 30ag.model -/
theorem dX12_tried_0 : decode cX12_tried 0 = .ok (.iload_n 1, 1) := by decide +kernel
theorem dX12_tried_1 : decode cX12_tried 1 = .ok (.i2l, 1) := by decide +kernel
theorem dX12_tried_2 : decode cX12_tried 2 = .ok (.lconst 0, 1) := by decide +kernel
theorem dX12_tried_3 : decode cX12_tried 3 = .ok (.lconst 1, 1) := by decide +kernel
theorem dX12_tried_4 : decode cX12_tried 4 = .ok (.invokestatic 82, 3) := by decide +kernel
theorem dX12_tried_7 : decode cX12_tried 7 = .ok (.ifCond .ne 5, 3) := by decide +kernel
theorem dX12_tried_10 : decode cX12_tried 10 = .ok (.iconst (-1), 1) := by decide +kernel
theorem dX12_tried_11 : decode cX12_tried 11 = .ok (.ireturn, 1) := by decide +kernel
theorem dX12_tried_12 : decode cX12_tried 12 = .ok (.aload_n 0, 1) := by decide +kernel
theorem dX12_tried_13 : decode cX12_tried 13 = .ok (.invokevirtual 343, 3) := by decide +kernel
theorem dX12_tried_16 : decode cX12_tried 16 = .ok (.sipush 999, 3) := by decide +kernel
theorem dX12_tried_19 : decode cX12_tried 19 = .ok (.if_icmp .ne 6, 3) := by decide +kernel
theorem dX12_tried_22 : decode cX12_tried 22 = .ok (.bipush (-3), 2) := by decide +kernel
theorem dX12_tried_24 : decode cX12_tried 24 = .ok (.ireturn, 1) := by decide +kernel
theorem dX12_tried_25 : decode cX12_tried 25 = .ok (.aload_n 0, 1) := by decide +kernel
theorem dX12_tried_26 : decode cX12_tried 26 = .ok (.getfield 7, 3) := by decide +kernel
theorem dX12_tried_29 : decode cX12_tried 29 = .ok (.bipush 93, 2) := by decide +kernel
theorem dX12_tried_31 : decode cX12_tried 31 = .ok (.iconst 2, 1) := by decide +kernel
theorem dX12_tried_32 : decode cX12_tried 32 = .ok (.iload_n 1, 1) := by decide +kernel
theorem dX12_tried_33 : decode cX12_tried 33 = .ok (.imul, 1) := by decide +kernel
theorem dX12_tried_34 : decode cX12_tried 34 = .ok (.iadd, 1) := by decide +kernel
theorem dX12_tried_35 : decode cX12_tried 35 = .ok (.dup2, 1) := by decide +kernel
theorem dX12_tried_36 : decode cX12_tried 36 = .ok (.iaload, 1) := by decide +kernel
theorem dX12_tried_37 : decode cX12_tried 37 = .ok (.iconst 1, 1) := by decide +kernel
theorem dX12_tried_38 : decode cX12_tried 38 = .ok (.iadd, 1) := by decide +kernel
theorem dX12_tried_39 : decode cX12_tried 39 = .ok (.iastore, 1) := by decide +kernel
theorem dX12_tried_40 : decode cX12_tried 40 = .ok (.aload_n 0, 1) := by decide +kernel
theorem dX12_tried_41 : decode cX12_tried 41 = .ok (.getfield 7, 3) := by decide +kernel
theorem dX12_tried_44 : decode cX12_tried 44 = .ok (.bipush 93, 2) := by decide +kernel
theorem dX12_tried_46 : decode cX12_tried 46 = .ok (.iconst 2, 1) := by decide +kernel
theorem dX12_tried_47 : decode cX12_tried 47 = .ok (.iload_n 1, 1) := by decide +kernel
theorem dX12_tried_48 : decode cX12_tried 48 = .ok (.imul, 1) := by decide +kernel
theorem dX12_tried_49 : decode cX12_tried 49 = .ok (.iadd, 1) := by decide +kernel
theorem dX12_tried_50 : decode cX12_tried 50 = .ok (.iconst 1, 1) := by decide +kernel
theorem dX12_tried_51 : decode cX12_tried 51 = .ok (.iadd, 1) := by decide +kernel
theorem dX12_tried_52 : decode cX12_tried 52 = .ok (.dup2, 1) := by decide +kernel
theorem dX12_tried_53 : decode cX12_tried 53 = .ok (.iaload, 1) := by decide +kernel
theorem dX12_tried_54 : decode cX12_tried 54 = .ok (.iload_n 2, 1) := by decide +kernel
theorem dX12_tried_55 : decode cX12_tried 55 = .ok (.invokestatic 168, 3) := by decide +kernel
theorem dX12_tried_58 : decode cX12_tried 58 = .ok (.iadd, 1) := by decide +kernel
theorem dX12_tried_59 : decode cX12_tried 59 = .ok (.iastore, 1) := by decide +kernel
theorem dX12_tried_60 : decode cX12_tried 60 = .ok (.aload_n 0, 1) := by decide +kernel
theorem dX12_tried_61 : decode cX12_tried 61 = .ok (.getfield 7, 3) := by decide +kernel
theorem dX12_tried_64 : decode cX12_tried 64 = .ok (.bipush 93, 2) := by decide +kernel
theorem dX12_tried_66 : decode cX12_tried 66 = .ok (.iconst 2, 1) := by decide +kernel
theorem dX12_tried_67 : decode cX12_tried 67 = .ok (.iload_n 1, 1) := by decide +kernel
theorem dX12_tried_68 : decode cX12_tried 68 = .ok (.imul, 1) := by decide +kernel
theorem dX12_tried_69 : decode cX12_tried 69 = .ok (.iadd, 1) := by decide +kernel
theorem dX12_tried_70 : decode cX12_tried 70 = .ok (.iaload, 1) := by decide +kernel
theorem dX12_tried_71 : decode cX12_tried 71 = .ok (.ireturn, 1) := by decide +kernel
abbrev q_X12_tried (s : Int) (e : Int) (σ : tw_M) : Option tw_V → tw_M → Prop := fun z τ => ∃ r : Int, z = some (vI r) ∧ (-2147483648 ≤ r ∧ r ≤ 2147483647) ∧ tw_I τ ∧ tw_F (fun c j => (c = 89 ∧ 93 ≤ j ∧ j < 97)) σ τ ∧ (mI τ) ∧ ((r = -1 ∧ ¬ (s = 0 ∨ s = 1) ∧ τ 89 93 = σ 89 93 ∧ τ 89 94 = σ 89 94 ∧ τ 89 95 = σ 89 95 ∧ τ 89 96 = σ 89 96) ∨ (r = -3 ∧ (s = 0 ∨ s = 1) ∧ 999 ≤ σ 89 93 + σ 89 95 ∧ τ 89 93 = σ 89 93 ∧ τ 89 94 = σ 89 94 ∧ τ 89 95 = σ 89 95 ∧ τ 89 96 = σ 89 96) ∨ (s = 0 ∧ σ 89 93 + σ 89 95 < 999 ∧ r = σ 89 93 + 1 ∧ τ 89 93 = σ 89 93 + 1 ∧ (2147483647 ≤ σ 89 94 ∨ τ 89 94 = σ 89 94 + e) ∧ τ 89 95 = σ 89 95 ∧ τ 89 96 = σ 89 96) ∨ (s = 1 ∧ σ 89 93 + σ 89 95 < 999 ∧ r = σ 89 95 + 1 ∧ τ 89 95 = σ 89 95 + 1 ∧ (2147483647 ≤ σ 89 96 ∨ τ 89 96 = σ 89 96 + e) ∧ τ 89 93 = σ 89 93 ∧ τ 89 94 = σ 89 94))
set_option maxHeartbeats 4000000 in
set_option maxRecDepth 100000 in
theorem c_X12_tried {G : tw_G} (hM : tw_isM G) (s : Int) (hs : -2147483648 ≤ s ∧ s ≤ 2147483647) (e : Int) (he : 0 ≤ e ∧ e ≤ 1) (σ : tw_M) (hI : tw_I σ) (hq0 : mI σ) : tw_C G yX12_tried cX12_tried 3 (some .int) 1 [vR 88, vI s, vI e] σ (q_X12_tried s e σ) := by
  refine tw_met [(0, vR 88), (1, vI s), (2, vI e)] (by decide +kernel) rfl (Nat.le_of_ble_eq_true rfl) ?_
  refine j_iload_n (pc := 0) dX12_tried_0 rfl rfl ?_
  refine j_i2l (pc := 1) dX12_tried_1 ?_
  rw [w32_eq (a := s) (by omega) (by omega)]
  refine j_lconst (pc := 2) (z := 0) dX12_tried_2 rfl ?_
  refine j_lconst (pc := 3) (z := 1) dX12_tried_3 rfl ?_
  refine j_callS (pc := 4) (As := [vL s, vL 0, vL 1]) (st := []) (c_X12_in s ⟨by omega, by omega⟩ 0 (by (first | decide | exact ⟨by omega, by omega⟩)) 1 (by (first | decide | exact ⟨by omega, by omega⟩)) σ hI) ms_X12_82 rfl dX12_tried_4 ⟨Nat.le_of_ble_eq_true rfl, Nat.le_of_ble_eq_true rfl⟩ ⟨Nat.le_refl _, Nat.le_refl _⟩ rfl (Nat.le_of_ble_eq_true rfl) rfl (fun z1 σ2 hz1 => ?_)
  obtain ⟨r4, rfl, hr4, rfl, q3_0⟩ := hz1
  replace q3_0 : (r4 = 1 ∧ (0 : Int) ≤ s ∧ s ≤ (1 : Int)) ∨ (r4 = 0 ∧ ¬ ((0 : Int) ≤ s ∧ s ≤ (1 : Int))) := q3_0
  refine j_st (st' := [vI r4]) rfl ?_
  refine j_ifR_ne (pc := 7) (tgt := 12) ⟨by omega, by omega⟩ dX12_tried_7 rfl (fun h5 => ?_) (fun h5 => ?_)
  · refine j_aload_n (pc := 12) dX12_tried_12 rfl rfl ?_
    refine j_callV (pc := 13) (As := []) (st := []) (c_X12_triesAll hM σ hI) mv_X12_343 rfl rfl rfl (a_88 hM) dX12_tried_13 ⟨Nat.le_of_ble_eq_true rfl, Nat.le_of_ble_eq_true rfl⟩ ⟨Nat.le_refl _, Nat.le_refl _⟩ rfl (Nat.le_of_ble_eq_true rfl) rfl (fun z6 σ7 hz6 => ?_)
    obtain ⟨r9, rfl, hr9, rfl, q8_0⟩ := hz6
    replace q8_0 : r9 = σ 89 93 + σ 89 95 := q8_0
    refine j_st (st' := [vI r9]) rfl ?_
    refine j_sipush (pc := 16) dX12_tried_16 rfl ?_
    refine j_icmpR_ne (pc := 19) (tgt := 25) ⟨by omega, by omega⟩ ⟨by omega, by omega⟩ dX12_tried_19 rfl (fun h10 => ?_) (fun h10 => ?_)
    · have t9 := t9_s (s := s) ⟨by omega, by omega⟩ hI hq0 (by omega)
      refine j_aload_n (pc := 25) dX12_tried_25 rfl rfl ?_
      refine j_getR (pc := 26) (r := 89) fl_X12_7 dX12_tried_26 (a_88 hM) rfl ?_
      refine j_bipush (pc := 29) dX12_tried_29 rfl ?_
      refine j_iconst (pc := 31) dX12_tried_31 ?_
      refine j_iload_n (pc := 32) dX12_tried_32 rfl rfl ?_
      refine j_imul (pc := 33) dX12_tried_33 ?_
      refine j_iadd (pc := 34) dX12_tried_34 ?_
      refine j_dup2 (pc := 35) dX12_tried_35 rfl rfl ?_
      refine j_iald (pc := 36) dX12_tried_36 (a_89 hM) (by omega) (by omega) (by decide) ?_
      have f11 : (-2147483648 : Int) ≤ σ 89 ((93 + (2 * s)).toNat) ∧ σ 89 ((93 + (2 * s)).toNat) ≤ 2147483647 := st_D hI _
      have g12 : (0 : Int) ≤ σ 89 ((93 + (2 * s)).toNat) ∧ σ 89 ((93 + (2 * s)).toNat) ≤ 998 := t9
      refine j_iconst (pc := 37) dX12_tried_37 ?_
      refine j_iadd (pc := 38) dX12_tried_38 ?_
      refine j_iast (pc := 39) dX12_tried_39 (a_89 hM) (by omega) (by omega) (by decide) (j_nm (fun σ13 (eσ13 : σ13 = tw_up σ 89 ((93 + (2 * s)).toNat) ((σ 89 ((93 + (2 * s)).toNat)) + 1)) => ?_))
      have hIσ13 : tw_I σ13 := tw_I_up hI eσ13  (st_wt (by omega) (by omega))
      have hFσ13 : tw_F (fun c j => (c = 89 ∧ 93 ≤ j ∧ j < 97)) σ σ13 := tw_F_up (tw_F_rf) eσ13 (show (89 = 89 ∧ 93 ≤ (93 + (2 * s)).toNat ∧ (93 + (2 * s)).toNat < 97) from by omega)
      have y1 := tri4 (p := 93) (q := 95) (a := 94) (b := 96) (s := s) eσ13 (by omega) (by decide)
      refine j_aload_n (pc := 40) dX12_tried_40 rfl rfl ?_
      refine j_getR (pc := 41) (r := 89) fl_X12_7 dX12_tried_41 (a_88 hM) rfl ?_
      refine j_bipush (pc := 44) dX12_tried_44 rfl ?_
      refine j_iconst (pc := 46) dX12_tried_46 ?_
      refine j_iload_n (pc := 47) dX12_tried_47 rfl rfl ?_
      refine j_imul (pc := 48) dX12_tried_48 ?_
      refine j_iadd (pc := 49) dX12_tried_49 ?_
      refine j_iconst (pc := 50) dX12_tried_50 ?_
      refine j_iadd (pc := 51) dX12_tried_51 ?_
      refine j_dup2 (pc := 52) dX12_tried_52 rfl rfl ?_
      refine j_iald (pc := 53) dX12_tried_53 (a_89 hM) (by omega) (by omega) (by decide) ?_
      have f14 : (-2147483648 : Int) ≤ σ13 89 (((93 + (2 * s)) + 1).toNat) ∧ σ13 89 (((93 + (2 * s)) + 1).toNat) ≤ 2147483647 := st_D hIσ13 _
      refine j_iload_n (pc := 54) dX12_tried_54 rfl rfl ?_
      refine j_callS (pc := 55) (As := [vI e]) (st := [vI (σ13 89 (((93 + (2 * s)) + 1).toNat)), vI ((93 + (2 * s)) + 1), vR 89]) (c_X12_flag e ⟨by omega, by omega⟩ σ13 hIσ13) ms_X12_168 rfl dX12_tried_55 ⟨Nat.le_of_ble_eq_true rfl, Nat.le_of_ble_eq_true rfl⟩ ⟨Nat.le_refl _, Nat.le_refl _⟩ rfl (Nat.le_of_ble_eq_true rfl) rfl (fun z15 σ16 hz15 => ?_)
      obtain ⟨r18, rfl, hr18, rfl, q17_0⟩ := hz15
      replace q17_0 : r18 = e := q17_0
      refine j_st (st' := [vI r18, vI (σ13 89 (((93 + (2 * s)) + 1).toNat)), vI ((93 + (2 * s)) + 1), vR 89]) rfl ?_
      refine j_iadd (pc := 58) dX12_tried_58 ?_
      refine j_top (fun z19 ez19 hz19 => ?_)
      have gz19 : (σ13 89 (((93 + (2 * s)) + 1).toNat)) + r18 < -2147483648 ∨ 2147483647 < (σ13 89 (((93 + (2 * s)) + 1).toNat)) + r18 ∨ z19 = (σ13 89 (((93 + (2 * s)) + 1).toNat)) + r18 := by rw [ez19]; exact w32_or _
      refine j_iast (pc := 59) dX12_tried_59 (a_89 hM) (by omega) (by omega) (by decide) (j_nm (fun σ20 (eσ20 : σ20 = tw_up σ13 89 (((93 + (2 * s)) + 1).toNat) z19) => ?_))
      have hIσ20 : tw_I σ20 := tw_I_up hIσ13 eσ20  (st_wd (by omega) (by omega))
      have hFσ20 : tw_F (fun c j => (c = 89 ∧ 93 ≤ j ∧ j < 97)) σ σ20 := tw_F_up hFσ13 eσ20 (show (89 = 89 ∧ 93 ≤ ((93 + (2 * s)) + 1).toNat ∧ ((93 + (2 * s)) + 1).toNat < 97) from by omega)
      have y2 := tri4 (p := 94) (q := 96) (a := 93) (b := 95) (s := s) eσ20 (by omega) (by decide)
      refine j_aload_n (pc := 60) dX12_tried_60 rfl rfl ?_
      refine j_getR (pc := 61) (r := 89) fl_X12_7 dX12_tried_61 (a_88 hM) rfl ?_
      refine j_bipush (pc := 64) dX12_tried_64 rfl ?_
      refine j_iconst (pc := 66) dX12_tried_66 ?_
      refine j_iload_n (pc := 67) dX12_tried_67 rfl rfl ?_
      refine j_imul (pc := 68) dX12_tried_68 ?_
      refine j_iadd (pc := 69) dX12_tried_69 ?_
      refine j_iald (pc := 70) dX12_tried_70 (a_89 hM) (by omega) (by omega) (by decide) ?_
      have f21 : (-2147483648 : Int) ≤ σ20 89 ((93 + (2 * s)).toNat) ∧ σ20 89 ((93 + (2 * s)).toNat) ≤ 2147483647 := st_D hIσ20 _
      have y3 := tri_at (τ := σ20) (c := 89) (s := s) (p := 93) (q := 95) (j := (93 + 2 * s).toNat) (by omega)
      have n9 : σ 89 93 + σ 89 95 ≤ 999 := hq0.2.2.2.1
      have kk : (s = 0 ∧ σ 89 93 + σ 89 95 < 999 ∧ (σ20 89 ((93 + (2 * s)).toNat)) = σ 89 93 + 1 ∧ σ20 89 93 = σ 89 93 + 1 ∧ (2147483647 ≤ σ 89 94 ∨ σ20 89 94 = σ 89 94 + e) ∧ σ20 89 95 = σ 89 95 ∧ σ20 89 96 = σ 89 96) ∨ (s = 1 ∧ σ 89 93 + σ 89 95 < 999 ∧ (σ20 89 ((93 + (2 * s)).toNat)) = σ 89 95 + 1 ∧ σ20 89 95 = σ 89 95 + 1 ∧ (2147483647 ≤ σ 89 96 ∨ σ20 89 96 = σ 89 96 + e) ∧ σ20 89 93 = σ 89 93 ∧ σ20 89 94 = σ 89 94) := by
        rcases (show s = 0 ∨ s = 1 by omega) with q | q
        · exact Or.inl ⟨q, by omega, by omega, by omega, by omega, by omega, by omega⟩
        · exact Or.inr ⟨q, by omega, by omega, by omega, by omega, by omega, by omega⟩
      exact j_iret (pc := 71) ⟨rfl, rfl⟩ dX12_tried_71 rfl ⟨_, rfl, ⟨by omega, by omega⟩, hIσ20, hFσ20, (by first | exact hq0 | exact mI_tried ⟨by omega, by omega⟩ hI hq0 (by omega) rfl eσ13 eσ20), (by first | exact Or.inr (Or.inr kk) | omega)⟩
    · refine j_bipush (pc := 22) dX12_tried_22 rfl ?_
      exact j_iret (pc := 24) ⟨rfl, rfl⟩ dX12_tried_24 rfl ⟨_, rfl, ⟨by omega, by omega⟩, hI, (tw_F_rf), (by first | exact hq0 | exact mI_tried ⟨by omega, by omega⟩ hI hq0 (by omega) rfl _ _), (by first | exact Or.inr (Or.inr kk) | omega)⟩
  · refine j_iconst (pc := 10) dX12_tried_10 ?_
    exact j_iret (pc := 11) ⟨rfl, rfl⟩ dX12_tried_11 rfl ⟨_, rfl, ⟨by omega, by omega⟩, hI, (tw_F_rf), (by first | exact hq0 | exact mI_tried ⟨by omega, by omega⟩ hI hq0 (by omega) rfl _ _), (by first | exact Or.inr (Or.inr kk) | omega)⟩
