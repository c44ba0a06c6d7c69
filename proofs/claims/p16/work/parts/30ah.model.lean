/-! 30ah.model -/
theorem dX12_eye_0 : decode cX12_eye 0 = .ok (.iload_n 1, 1) := by decide +kernel
theorem dX12_eye_1 : decode cX12_eye 1 = .ok (.i2l, 1) := by decide +kernel
theorem dX12_eye_2 : decode cX12_eye 2 = .ok (.lconst 0, 1) := by decide +kernel
theorem dX12_eye_3 : decode cX12_eye 3 = .ok (.lconst 1, 1) := by decide +kernel
theorem dX12_eye_4 : decode cX12_eye 4 = .ok (.invokestatic 82, 3) := by decide +kernel
theorem dX12_eye_7 : decode cX12_eye 7 = .ok (.ifCond .eq 13, 3) := by decide +kernel
theorem dX12_eye_10 : decode cX12_eye 10 = .ok (.iload_n 2, 1) := by decide +kernel
theorem dX12_eye_11 : decode cX12_eye 11 = .ok (.i2l, 1) := by decide +kernel
theorem dX12_eye_12 : decode cX12_eye 12 = .ok (.lconst 0, 1) := by decide +kernel
theorem dX12_eye_13 : decode cX12_eye 13 = .ok (.lconst 1, 1) := by decide +kernel
theorem dX12_eye_14 : decode cX12_eye 14 = .ok (.invokestatic 82, 3) := by decide +kernel
theorem dX12_eye_17 : decode cX12_eye 17 = .ok (.ifCond .ne 5, 3) := by decide +kernel
theorem dX12_eye_20 : decode cX12_eye 20 = .ok (.iconst (-1), 1) := by decide +kernel
theorem dX12_eye_21 : decode cX12_eye 21 = .ok (.ireturn, 1) := by decide +kernel
theorem dX12_eye_22 : decode cX12_eye 22 = .ok (.aload_n 0, 1) := by decide +kernel
theorem dX12_eye_23 : decode cX12_eye 23 = .ok (.getfield 7, 3) := by decide +kernel
theorem dX12_eye_26 : decode cX12_eye 26 = .ok (.bipush 93, 2) := by decide +kernel
theorem dX12_eye_28 : decode cX12_eye 28 = .ok (.iconst 2, 1) := by decide +kernel
theorem dX12_eye_29 : decode cX12_eye 29 = .ok (.iload_n 1, 1) := by decide +kernel
theorem dX12_eye_30 : decode cX12_eye 30 = .ok (.imul, 1) := by decide +kernel
theorem dX12_eye_31 : decode cX12_eye 31 = .ok (.iadd, 1) := by decide +kernel
theorem dX12_eye_32 : decode cX12_eye 32 = .ok (.iaload, 1) := by decide +kernel
theorem dX12_eye_33 : decode cX12_eye 33 = .ok (.istore_n 3, 1) := by decide +kernel
theorem dX12_eye_34 : decode cX12_eye 34 = .ok (.iload_n 3, 1) := by decide +kernel
theorem dX12_eye_35 : decode cX12_eye 35 = .ok (.ifCond .ne 8, 3) := by decide +kernel
theorem dX12_eye_38 : decode cX12_eye 38 = .ok (.bipush (-4), 2) := by decide +kernel
theorem dX12_eye_40 : decode cX12_eye 40 = .ok (.goto 24, 3) := by decide +kernel
theorem dX12_eye_43 : decode cX12_eye 43 = .ok (.aload_n 0, 1) := by decide +kernel
theorem dX12_eye_44 : decode cX12_eye 44 = .ok (.getfield 7, 3) := by decide +kernel
theorem dX12_eye_47 : decode cX12_eye 47 = .ok (.bipush 93, 2) := by decide +kernel
theorem dX12_eye_49 : decode cX12_eye 49 = .ok (.iconst 2, 1) := by decide +kernel
theorem dX12_eye_50 : decode cX12_eye 50 = .ok (.iload_n 1, 1) := by decide +kernel
theorem dX12_eye_51 : decode cX12_eye 51 = .ok (.imul, 1) := by decide +kernel
theorem dX12_eye_52 : decode cX12_eye 52 = .ok (.iadd, 1) := by decide +kernel
theorem dX12_eye_53 : decode cX12_eye 53 = .ok (.iconst 1, 1) := by decide +kernel
theorem dX12_eye_54 : decode cX12_eye 54 = .ok (.iadd, 1) := by decide +kernel
theorem dX12_eye_55 : decode cX12_eye 55 = .ok (.iaload, 1) := by decide +kernel
theorem dX12_eye_56 : decode cX12_eye 56 = .ok (.i2l, 1) := by decide +kernel
theorem dX12_eye_57 : decode cX12_eye 57 = .ok (.iload_n 3, 1) := by decide +kernel
theorem dX12_eye_58 : decode cX12_eye 58 = .ok (.i2l, 1) := by decide +kernel
theorem dX12_eye_59 : decode cX12_eye 59 = .ok (.iload_n 2, 1) := by decide +kernel
theorem dX12_eye_60 : decode cX12_eye 60 = .ok (.invokestatic 267, 3) := by decide +kernel
theorem dX12_eye_63 : decode cX12_eye 63 = .ok (.l2i, 1) := by decide +kernel
theorem dX12_eye_64 : decode cX12_eye 64 = .ok (.ireturn, 1) := by decide +kernel
abbrev q_X12_eye (s : Int) (w : Int) (σ : tw_M) : Option tw_V → tw_M → Prop := fun z τ => ∃ r : Int, z = some (vI r) ∧ (-2147483648 ≤ r ∧ r ≤ 2147483647) ∧ σ = τ ∧ ((r = -1 ∧ ¬ ((s = 0 ∨ s = 1) ∧ (w = 0 ∨ w = 1))) ∨ (r = -4 ∧ ((s = 0 ∧ σ 89 93 = 0) ∨ (s = 1 ∧ σ 89 95 = 0)) ∧ (w = 0 ∨ w = 1)) ∨ (s = 0 ∧ (w = 0 ∨ w = 1) ∧ ¬ σ 89 93 = 0 ∧ r = EYM (σ 89 94) (σ 89 93) w) ∨ (s = 1 ∧ (w = 0 ∨ w = 1) ∧ ¬ σ 89 95 = 0 ∧ r = EYM (σ 89 96) (σ 89 95) w))
set_option maxHeartbeats 4000000 in
set_option maxRecDepth 100000 in
theorem c_X12_eye {G : tw_G} (hM : tw_isM G) (s : Int) (hs : -2147483648 ≤ s ∧ s ≤ 2147483647) (w : Int) (hw : -2147483648 ≤ w ∧ w ≤ 2147483647) (σ : tw_M) (hI : tw_I σ) : tw_C G yX12_eye cX12_eye 4 (some .int) 1 [vR 88, vI s, vI w] σ (q_X12_eye s w σ) := by
  refine tw_met [(0, vR 88), (1, vI s), (2, vI w)] (by decide +kernel) rfl (Nat.le_of_ble_eq_true rfl) ?_
  refine j_iload_n (pc := 0) dX12_eye_0 rfl rfl ?_
  refine j_i2l (pc := 1) dX12_eye_1 ?_
  rw [w32_eq (a := s) (by omega) (by omega)]
  refine j_lconst (pc := 2) (z := 0) dX12_eye_2 rfl ?_
  refine j_lconst (pc := 3) (z := 1) dX12_eye_3 rfl ?_
  refine j_callS (pc := 4) (As := [vL s, vL 0, vL 1]) (st := []) (c_X12_in s ⟨by omega, by omega⟩ 0 (by (first | decide | exact ⟨by omega, by omega⟩)) 1 (by (first | decide | exact ⟨by omega, by omega⟩)) σ hI) ms_X12_82 rfl dX12_eye_4 ⟨Nat.le_of_ble_eq_true rfl, Nat.le_of_ble_eq_true rfl⟩ ⟨Nat.le_refl _, Nat.le_refl _⟩ rfl (Nat.le_of_ble_eq_true rfl) rfl (fun z1 σ2 hz1 => ?_)
  obtain ⟨r4, rfl, hr4, rfl, q3_0⟩ := hz1
  replace q3_0 : (r4 = 1 ∧ (0 : Int) ≤ s ∧ s ≤ (1 : Int)) ∨ (r4 = 0 ∧ ¬ ((0 : Int) ≤ s ∧ s ≤ (1 : Int))) := q3_0
  refine j_st (st' := [vI r4]) rfl ?_
  refine j_ifR_eq (pc := 7) (tgt := 20) ⟨by omega, by omega⟩ dX12_eye_7 rfl (fun h5 => ?_) (fun h5 => ?_)
  · refine j_iconst (pc := 20) dX12_eye_20 ?_
    exact j_iret (pc := 21) ⟨rfl, rfl⟩ dX12_eye_21 rfl ⟨_, rfl, ⟨by omega, by omega⟩, rfl, (by first | exact (k8.elim (fun z => Or.inr (Or.inr (Or.inl ⟨z.1, by omega, z.2.1, z.2.2⟩))) (fun z => Or.inr (Or.inr (Or.inr ⟨z.1, by omega, z.2.1, z.2.2⟩)))) | omega)⟩
  · refine j_iload_n (pc := 10) dX12_eye_10 rfl rfl ?_
    refine j_i2l (pc := 11) dX12_eye_11 ?_
    rw [w32_eq (a := w) (by omega) (by omega)]
    refine j_lconst (pc := 12) (z := 0) dX12_eye_12 rfl ?_
    refine j_lconst (pc := 13) (z := 1) dX12_eye_13 rfl ?_
    refine j_callS (pc := 14) (As := [vL w, vL 0, vL 1]) (st := []) (c_X12_in w ⟨by omega, by omega⟩ 0 (by (first | decide | exact ⟨by omega, by omega⟩)) 1 (by (first | decide | exact ⟨by omega, by omega⟩)) σ hI) ms_X12_82 rfl dX12_eye_14 ⟨Nat.le_of_ble_eq_true rfl, Nat.le_of_ble_eq_true rfl⟩ ⟨Nat.le_refl _, Nat.le_refl _⟩ rfl (Nat.le_of_ble_eq_true rfl) rfl (fun z6 σ7 hz6 => ?_)
    obtain ⟨r9, rfl, hr9, rfl, q8_0⟩ := hz6
    replace q8_0 : (r9 = 1 ∧ (0 : Int) ≤ w ∧ w ≤ (1 : Int)) ∨ (r9 = 0 ∧ ¬ ((0 : Int) ≤ w ∧ w ≤ (1 : Int))) := q8_0
    refine j_st (st' := [vI r9]) rfl ?_
    refine j_ifR_ne (pc := 17) (tgt := 22) ⟨by omega, by omega⟩ dX12_eye_17 rfl (fun h10 => ?_) (fun h10 => ?_)
    · have y3 := tri_at (τ := σ) (c := 89) (s := s) (p := 93) (q := 95) (j := (93 + 2 * s).toNat) (by omega)
      refine j_aload_n (pc := 22) dX12_eye_22 rfl rfl ?_
      refine j_getR (pc := 23) (r := 89) fl_X12_7 dX12_eye_23 (a_88 hM) rfl ?_
      refine j_bipush (pc := 26) dX12_eye_26 rfl ?_
      refine j_iconst (pc := 28) dX12_eye_28 ?_
      refine j_iload_n (pc := 29) dX12_eye_29 rfl rfl ?_
      refine j_imul (pc := 30) dX12_eye_30 ?_
      refine j_iadd (pc := 31) dX12_eye_31 ?_
      refine j_iald (pc := 32) dX12_eye_32 (a_89 hM) (by omega) (by omega) (by decide) ?_
      have f11 : (-2147483648 : Int) ≤ σ 89 ((93 + (2 * s)).toNat) ∧ σ 89 ((93 + (2 * s)).toNat) ≤ 2147483647 := st_D hI _
      refine j_istore_n (pc := 33) (i := 3) (ls' := [(0, vR 88), (1, vI s), (2, vI w), (3, vI (σ 89 ((93 + (2 * s)).toNat)))]) [1, 2, 3, 0] dX12_eye_33 rfl (Nat.le_of_ble_eq_true rfl) rfl rfl ?_
      refine j_iload_n (pc := 34) dX12_eye_34 rfl rfl ?_
      refine j_ifR_ne (pc := 35) (tgt := 43) ⟨by omega, by omega⟩ dX12_eye_35 rfl (fun h12 => ?_) (fun h12 => ?_)
      · refine j_aload_n (pc := 43) dX12_eye_43 rfl rfl ?_
        refine j_getR (pc := 44) (r := 89) fl_X12_7 dX12_eye_44 (a_88 hM) rfl ?_
        refine j_bipush (pc := 47) dX12_eye_47 rfl ?_
        refine j_iconst (pc := 49) dX12_eye_49 ?_
        refine j_iload_n (pc := 50) dX12_eye_50 rfl rfl ?_
        refine j_imul (pc := 51) dX12_eye_51 ?_
        refine j_iadd (pc := 52) dX12_eye_52 ?_
        refine j_iconst (pc := 53) dX12_eye_53 ?_
        refine j_iadd (pc := 54) dX12_eye_54 ?_
        refine j_iald (pc := 55) dX12_eye_55 (a_89 hM) (by omega) (by omega) (by decide) ?_
        have f13 : (-2147483648 : Int) ≤ σ 89 (((93 + (2 * s)) + 1).toNat) ∧ σ 89 (((93 + (2 * s)) + 1).toNat) ≤ 2147483647 := st_D hI _
        refine j_i2l (pc := 56) dX12_eye_56 ?_
        rw [w32_eq (a := σ 89 (((93 + (2 * s)) + 1).toNat)) (by omega) (by omega)]
        refine j_iload_n (pc := 57) dX12_eye_57 rfl rfl ?_
        refine j_i2l (pc := 58) dX12_eye_58 ?_
        rw [w32_eq (a := σ 89 ((93 + (2 * s)).toNat)) (by omega) (by omega)]
        refine j_iload_n (pc := 59) dX12_eye_59 rfl rfl ?_
        refine j_callS (pc := 60) (As := [vL (σ 89 (((93 + (2 * s)) + 1).toNat)), vL (σ 89 ((93 + (2 * s)).toNat)), vI w]) (st := []) (c_X12_told (σ 89 (((93 + (2 * s)) + 1).toNat)) ⟨by omega, by omega⟩ (σ 89 ((93 + (2 * s)).toNat)) ⟨by omega, by omega⟩ w ⟨by omega, by omega⟩ σ hI (by omega)) ms_X12_267 rfl dX12_eye_60 ⟨Nat.le_of_ble_eq_true rfl, Nat.le_of_ble_eq_true rfl⟩ ⟨Nat.le_refl _, Nat.le_refl _⟩ rfl (Nat.le_of_ble_eq_true rfl) rfl (fun z14 σ15 hz14 => ?_)
        obtain ⟨r17, rfl, hr17, rfl, q16_0⟩ := hz14
        replace q16_0 : r17 = euM (σ 89 (((93 + (2 * s)) + 1).toNat)) (σ 89 ((93 + (2 * s)).toNat)) (eu (σ 89 (((93 + (2 * s)) + 1).toNat)).natAbs (σ 89 ((93 + (2 * s)).toNat)) (σ 89 (((93 + (2 * s)) + 1).toNat))) w := q16_0
        refine j_st (st' := [vL r17]) rfl ?_
        refine j_l2i (pc := 63) dX12_eye_63 (fun z18 ez18 => ?_)
        have hz18 : (-2147483648 : Int) ≤ z18 ∧ z18 ≤ 2147483647 := by rw [ez18]; exact l2i_in _
        have k9 : z18 = EYM (σ 89 (93 + 2 * s + 1).toNat) (σ 89 (93 + 2 * s).toNat) w := by
          unfold EYM
          rw [ez18, q16_0]
        have k8 : (s = 0 ∧ ¬ σ 89 93 = 0 ∧ z18 = EYM (σ 89 94) (σ 89 93) w) ∨ (s = 1 ∧ ¬ σ 89 95 = 0 ∧ z18 = EYM (σ 89 96) (σ 89 95) w) := by
          rcases (show s = 0 ∨ s = 1 by omega) with q | q
          · exact Or.inl ⟨q, by omega, by rw [show (93 + 2 * s + 1).toNat = 94 from by omega, show (93 + 2 * s).toNat = 93 from by omega] at k9; exact k9⟩
          · exact Or.inr ⟨q, by omega, by rw [show (93 + 2 * s + 1).toNat = 96 from by omega, show (93 + 2 * s).toNat = 95 from by omega] at k9; exact k9⟩
        exact j_iret (pc := 64) ⟨rfl, rfl⟩ dX12_eye_64 rfl ⟨_, rfl, ⟨by omega, by omega⟩, rfl, (by first | exact (k8.elim (fun z => Or.inr (Or.inr (Or.inl ⟨z.1, by omega, z.2.1, z.2.2⟩))) (fun z => Or.inr (Or.inr (Or.inr ⟨z.1, by omega, z.2.1, z.2.2⟩)))) | omega)⟩
      · refine j_bipush (pc := 38) dX12_eye_38 rfl ?_
        refine j_goto (pc := 40) (tgt := 64) dX12_eye_40 rfl ?_
        exact j_iret (pc := 64) ⟨rfl, rfl⟩ dX12_eye_64 rfl ⟨_, rfl, ⟨by omega, by omega⟩, rfl, (by first | exact (k8.elim (fun z => Or.inr (Or.inr (Or.inl ⟨z.1, by omega, z.2.1, z.2.2⟩))) (fun z => Or.inr (Or.inr (Or.inr ⟨z.1, by omega, z.2.1, z.2.2⟩)))) | omega)⟩
    · refine j_iconst (pc := 20) dX12_eye_20 ?_
      exact j_iret (pc := 21) ⟨rfl, rfl⟩ dX12_eye_21 rfl ⟨_, rfl, ⟨by omega, by omega⟩, rfl, (by first | exact (k8.elim (fun z => Or.inr (Or.inr (Or.inl ⟨z.1, by omega, z.2.1, z.2.2⟩))) (fun z => Or.inr (Or.inr (Or.inr ⟨z.1, by omega, z.2.1, z.2.2⟩)))) | omega)⟩
