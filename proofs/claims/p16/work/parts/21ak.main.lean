/-! 21ak.main -/
theorem dX11_eye_0 : decode cX11_eye 0 = .ok (.iload_n 1, 1) := by decide +kernel
theorem dX11_eye_1 : decode cX11_eye 1 = .ok (.invokestatic 242, 3) := by decide +kernel
theorem dX11_eye_4 : decode cX11_eye 4 = .ok (.ifCond .eq 10, 3) := by decide +kernel
theorem dX11_eye_7 : decode cX11_eye 7 = .ok (.iload_n 2, 1) := by decide +kernel
theorem dX11_eye_8 : decode cX11_eye 8 = .ok (.invokestatic 242, 3) := by decide +kernel
theorem dX11_eye_11 : decode cX11_eye 11 = .ok (.ifCond .ne 5, 3) := by decide +kernel
theorem dX11_eye_14 : decode cX11_eye 14 = .ok (.iconst (-1), 1) := by decide +kernel
theorem dX11_eye_15 : decode cX11_eye 15 = .ok (.ireturn, 1) := by decide +kernel
theorem dX11_eye_16 : decode cX11_eye 16 = .ok (.aload_n 0, 1) := by decide +kernel
theorem dX11_eye_17 : decode cX11_eye 17 = .ok (.getfield 26, 3) := by decide +kernel
theorem dX11_eye_20 : decode cX11_eye 20 = .ok (.getfield 362, 3) := by decide +kernel
theorem dX11_eye_23 : decode cX11_eye 23 = .ok (.iload_n 1, 1) := by decide +kernel
theorem dX11_eye_24 : decode cX11_eye 24 = .ok (.iaload, 1) := by decide +kernel
theorem dX11_eye_25 : decode cX11_eye 25 = .ok (.ifCond .ne 6, 3) := by decide +kernel
theorem dX11_eye_28 : decode cX11_eye 28 = .ok (.bipush (-4), 2) := by decide +kernel
theorem dX11_eye_30 : decode cX11_eye 30 = .ok (.ireturn, 1) := by decide +kernel
theorem dX11_eye_31 : decode cX11_eye 31 = .ok (.aload_n 0, 1) := by decide +kernel
theorem dX11_eye_32 : decode cX11_eye 32 = .ok (.getfield 58, 3) := by decide +kernel
theorem dX11_eye_35 : decode cX11_eye 35 = .ok (.aload_n 0, 1) := by decide +kernel
theorem dX11_eye_36 : decode cX11_eye 36 = .ok (.getfield 26, 3) := by decide +kernel
theorem dX11_eye_39 : decode cX11_eye 39 = .ok (.getfield 365, 3) := by decide +kernel
theorem dX11_eye_42 : decode cX11_eye 42 = .ok (.iload_n 1, 1) := by decide +kernel
theorem dX11_eye_43 : decode cX11_eye 43 = .ok (.iaload, 1) := by decide +kernel
theorem dX11_eye_44 : decode cX11_eye 44 = .ok (.i2l, 1) := by decide +kernel
theorem dX11_eye_45 : decode cX11_eye 45 = .ok (.aload_n 0, 1) := by decide +kernel
theorem dX11_eye_46 : decode cX11_eye 46 = .ok (.getfield 26, 3) := by decide +kernel
theorem dX11_eye_49 : decode cX11_eye 49 = .ok (.getfield 362, 3) := by decide +kernel
theorem dX11_eye_52 : decode cX11_eye 52 = .ok (.iload_n 1, 1) := by decide +kernel
theorem dX11_eye_53 : decode cX11_eye 53 = .ok (.iaload, 1) := by decide +kernel
theorem dX11_eye_54 : decode cX11_eye 54 = .ok (.i2l, 1) := by decide +kernel
theorem dX11_eye_55 : decode cX11_eye 55 = .ok (.invokevirtual 368, 3) := by decide +kernel
theorem dX11_eye_58 : decode cX11_eye 58 = .ok (.aload_n 0, 1) := by decide +kernel
theorem dX11_eye_59 : decode cX11_eye 59 = .ok (.getfield 58, 3) := by decide +kernel
theorem dX11_eye_62 : decode cX11_eye 62 = .ok (.iload_n 2, 1) := by decide +kernel
theorem dX11_eye_63 : decode cX11_eye 63 = .ok (.invokevirtual 251, 3) := by decide +kernel
theorem dX11_eye_66 : decode cX11_eye 66 = .ok (.l2i, 1) := by decide +kernel
theorem dX11_eye_67 : decode cX11_eye 67 = .ok (.ireturn, 1) := by decide +kernel
abbrev q_X11_eye (s : Int) (w : Int) (σ : tw_M) : Option tw_V → tw_M → Prop := fun z τ => ∃ r : Int, z = some (vI r) ∧ (-2147483648 ≤ r ∧ r ≤ 2147483647) ∧ tw_I τ ∧ tw_F (fun c j => (c = 58 ∧ (j = 2 ∨ j = 3))) σ τ ∧ ((r = -1 ∧ ¬ ((s = 0 ∨ s = 1) ∧ (w = 0 ∨ w = 1))) ∨ (r = -4 ∧ ((s = 0 ∧ σ 29 0 = 0) ∨ (s = 1 ∧ σ 29 1 = 0)) ∧ (w = 0 ∨ w = 1)) ∨ (s = 0 ∧ (w = 0 ∨ w = 1) ∧ ¬ σ 29 0 = 0 ∧ r = EYX (σ 30 0) (σ 29 0) w) ∨ (s = 1 ∧ (w = 0 ∨ w = 1) ∧ ¬ σ 29 1 = 0 ∧ r = EYX (σ 30 1) (σ 29 1) w))
set_option maxHeartbeats 4000000 in
set_option maxRecDepth 100000 in
theorem c_X11_eye {G : tw_G} (hX : tw_isX G) (s : Int) (hs : -2147483648 ≤ s ∧ s ≤ 2147483647) (w : Int) (hw : -2147483648 ≤ w ∧ w ≤ 2147483647) (σ : tw_M) (hI : tw_I σ) : tw_C G yX11_eye cX11_eye 3 (some .int) 1 [vR 0, vI s, vI w] σ (q_X11_eye s w σ) := by
  refine tw_met [(0, vR 0), (1, vI s), (2, vI w)] (by decide +kernel) rfl (Nat.le_of_ble_eq_true rfl) ?_
  refine j_iload_n (pc := 0) dX11_eye_0 rfl rfl ?_
  refine j_callS (pc := 1) (As := [vI s]) (st := []) (c_X11_isPart s ⟨by omega, by omega⟩ σ hI) ms_X11_242 rfl dX11_eye_1 ⟨Nat.le_of_ble_eq_true rfl, Nat.le_of_ble_eq_true rfl⟩ ⟨Nat.le_refl _, Nat.le_refl _⟩ rfl (Nat.le_of_ble_eq_true rfl) rfl (fun z1 σ2 hz1 => ?_)
  obtain ⟨r4, rfl, hr4, rfl, q3_0⟩ := hz1
  replace q3_0 : (r4 = 1 ∧ (s = 0 ∨ s = 1)) ∨ (r4 = 0 ∧ ¬ s = 0 ∧ ¬ s = 1) := q3_0
  refine j_st (st' := [vI r4]) rfl ?_
  refine j_ifR_eq (pc := 4) (tgt := 14) ⟨by omega, by omega⟩ dX11_eye_4 rfl (fun h5 => ?_) (fun h5 => ?_)
  · refine j_iconst (pc := 14) dX11_eye_14 ?_
    exact j_iret (pc := 15) ⟨rfl, rfl⟩ dX11_eye_15 rfl ⟨_, rfl, ⟨by omega, by omega⟩, hI, (tw_F_rf), (by first | exact (k8.elim (fun z => Or.inr (Or.inr (Or.inl ⟨z.1, by omega, z.2.1, z.2.2⟩))) (fun z => Or.inr (Or.inr (Or.inr ⟨z.1, by omega, z.2.1, z.2.2⟩)))) | omega)⟩
  · refine j_iload_n (pc := 7) dX11_eye_7 rfl rfl ?_
    refine j_callS (pc := 8) (As := [vI w]) (st := []) (c_X11_isPart w ⟨by omega, by omega⟩ σ hI) ms_X11_242 rfl dX11_eye_8 ⟨Nat.le_of_ble_eq_true rfl, Nat.le_of_ble_eq_true rfl⟩ ⟨Nat.le_refl _, Nat.le_refl _⟩ rfl (Nat.le_of_ble_eq_true rfl) rfl (fun z6 σ7 hz6 => ?_)
    obtain ⟨r9, rfl, hr9, rfl, q8_0⟩ := hz6
    replace q8_0 : (r9 = 1 ∧ (w = 0 ∨ w = 1)) ∨ (r9 = 0 ∧ ¬ w = 0 ∧ ¬ w = 1) := q8_0
    refine j_st (st' := [vI r9]) rfl ?_
    refine j_ifR_ne (pc := 11) (tgt := 16) ⟨by omega, by omega⟩ dX11_eye_11 rfl (fun h10 => ?_) (fun h10 => ?_)
    · have y3 := tri_at (τ := σ) (c := 29) (s := s) (p := 0) (q := 1) (j := s.toNat) (by omega)
      refine j_aload_n (pc := 16) dX11_eye_16 rfl rfl ?_
      refine j_getR (pc := 17) (r := 23) fl_X11_26 dX11_eye_17 (a_0 hX) rfl ?_
      refine j_getR (pc := 20) (r := 29) fl_X11_362 dX11_eye_20 (a_23 hX) rfl ?_
      refine j_iload_n (pc := 23) dX11_eye_23 rfl rfl ?_
      refine j_iald (pc := 24) dX11_eye_24 (a_29 hX) (by omega) (by omega) (by decide) ?_
      have f11 : (0 : Int) ≤ σ 29 (s.toNat) ∧ σ 29 (s.toNat) ≤ 999 := hI 29 (s.toNat)
      refine j_ifR_ne (pc := 25) (tgt := 31) ⟨by omega, by omega⟩ dX11_eye_25 rfl (fun h12 => ?_) (fun h12 => ?_)
      · refine j_aload_n (pc := 31) dX11_eye_31 rfl rfl ?_
        refine j_getR (pc := 32) (r := 58) fl_X11_58 dX11_eye_32 (a_0 hX) rfl ?_
        refine j_aload_n (pc := 35) dX11_eye_35 rfl rfl ?_
        refine j_getR (pc := 36) (r := 23) fl_X11_26 dX11_eye_36 (a_0 hX) rfl ?_
        refine j_getR (pc := 39) (r := 30) fl_X11_365 dX11_eye_39 (a_23 hX) rfl ?_
        refine j_iload_n (pc := 42) dX11_eye_42 rfl rfl ?_
        refine j_iald (pc := 43) dX11_eye_43 (a_30 hX) (by omega) (by omega) (by decide) ?_
        have f13 : (-2147483648 : Int) ≤ σ 30 (s.toNat) ∧ σ 30 (s.toNat) ≤ 2147483647 := hI 30 (s.toNat)
        refine j_i2l (pc := 44) dX11_eye_44 ?_
        rw [w32_eq (a := σ 30 (s.toNat)) (by omega) (by omega)]
        refine j_aload_n (pc := 45) dX11_eye_45 rfl rfl ?_
        refine j_getR (pc := 46) (r := 23) fl_X11_26 dX11_eye_46 (a_0 hX) rfl ?_
        refine j_getR (pc := 49) (r := 29) fl_X11_362 dX11_eye_49 (a_23 hX) rfl ?_
        refine j_iload_n (pc := 52) dX11_eye_52 rfl rfl ?_
        refine j_iald (pc := 53) dX11_eye_53 (a_29 hX) (by omega) (by omega) (by decide) ?_
        refine j_i2l (pc := 54) dX11_eye_54 ?_
        rw [w32_eq (a := σ 29 (s.toNat)) (by omega) (by omega)]
        refine j_callV (pc := 55) (As := [vL (σ 30 (s.toNat)), vL (σ 29 (s.toNat))]) (st := []) (c_X1_fraction hX (σ 30 (s.toNat)) ⟨by omega, by omega⟩ (σ 29 (s.toNat)) ⟨by omega, by omega⟩ σ hI) mv_X11_368 rfl rfl rfl (a_58 hX) dX11_eye_55 ⟨Nat.le_of_ble_eq_true rfl, Nat.le_of_ble_eq_true rfl⟩ ⟨Nat.le_refl _, Nat.le_refl _⟩ rfl (Nat.le_of_ble_eq_true rfl) rfl (fun z14 σ15 hz14 => ?_)
        obtain ⟨rfl, hIσ15, hGσ15, q16_0, q16_1⟩ := hz14
        replace q16_0 : σ15 58 2 = euA (σ 30 (s.toNat)) (eu 1000 (σ 29 (s.toNat)) (σ 30 (s.toNat))) := q16_0
        replace q16_1 : σ15 58 3 = euB (σ 29 (s.toNat)) (eu 1000 (σ 29 (s.toNat)) (σ 30 (s.toNat))) := q16_1
        have hFσ15 : tw_F (fun c j => (c = 58 ∧ (j = 2 ∨ j = 3))) σ σ15 := tw_F_tr (tw_F_rf) hGσ15 (fun c j q => (show (c = 58 ∧ (j = 2 ∨ j = 3)) from by replace q : (c = 58 ∧ (j = 2 ∨ j = 3)) := q; exact q))
        refine j_st (st' := []) rfl ?_
        refine j_aload_n (pc := 58) dX11_eye_58 rfl rfl ?_
        refine j_getR (pc := 59) (r := 58) fl_X11_58 dX11_eye_59 (a_0 hX) rfl ?_
        refine j_iload_n (pc := 62) dX11_eye_62 rfl rfl ?_
        refine j_callV (pc := 63) (As := [vI w]) (st := []) (c_X1_part hX w ⟨by omega, by omega⟩ σ15 hIσ15) mv_X11_251 rfl rfl rfl (a_58 hX) dX11_eye_63 ⟨Nat.le_of_ble_eq_true rfl, Nat.le_of_ble_eq_true rfl⟩ ⟨Nat.le_refl _, Nat.le_refl _⟩ rfl (Nat.le_of_ble_eq_true rfl) rfl (fun z18 σ19 hz18 => ?_)
        obtain ⟨r21, rfl, hr21, rfl, q20_0⟩ := hz18
        replace q20_0 : (w = 0 ∧ r21 = σ15 58 2) ∨ (¬ w = 0 ∧ r21 = σ15 58 3) := q20_0
        refine j_st (st' := [vL r21]) rfl ?_
        refine j_l2i (pc := 66) dX11_eye_66 (fun z22 ez22 => ?_)
        have hz22 : (-2147483648 : Int) ≤ z22 ∧ z22 ≤ 2147483647 := by rw [ez22]; exact l2i_in _
        have k9 : z22 = EYX (σ 30 s.toNat) (σ 29 s.toNat) w := by
          unfold EYX
          rw [ez22]
          rcases q20_0 with ⟨g1, g2⟩ | ⟨g1, g2⟩
          · rw [g2, q16_0, if_pos g1]
          · rw [g2, q16_1, if_neg g1]
        have k8 : (s = 0 ∧ ¬ σ 29 0 = 0 ∧ z22 = EYX (σ 30 0) (σ 29 0) w) ∨ (s = 1 ∧ ¬ σ 29 1 = 0 ∧ z22 = EYX (σ 30 1) (σ 29 1) w) := by
          rcases (show s = 0 ∨ s = 1 by omega) with q | q
          · exact Or.inl ⟨q, by omega, by rw [show s.toNat = 0 from by omega] at k9; exact k9⟩
          · exact Or.inr ⟨q, by omega, by rw [show s.toNat = 1 from by omega] at k9; exact k9⟩
        exact j_iret (pc := 67) ⟨rfl, rfl⟩ dX11_eye_67 rfl ⟨_, rfl, ⟨by omega, by omega⟩, hIσ15, hFσ15, (by first | exact (k8.elim (fun z => Or.inr (Or.inr (Or.inl ⟨z.1, by omega, z.2.1, z.2.2⟩))) (fun z => Or.inr (Or.inr (Or.inr ⟨z.1, by omega, z.2.1, z.2.2⟩)))) | omega)⟩
      · refine j_bipush (pc := 28) dX11_eye_28 rfl ?_
        exact j_iret (pc := 30) ⟨rfl, rfl⟩ dX11_eye_30 rfl ⟨_, rfl, ⟨by omega, by omega⟩, hI, (tw_F_rf), (by first | exact (k8.elim (fun z => Or.inr (Or.inr (Or.inl ⟨z.1, by omega, z.2.1, z.2.2⟩))) (fun z => Or.inr (Or.inr (Or.inr ⟨z.1, by omega, z.2.1, z.2.2⟩)))) | omega)⟩
    · refine j_iconst (pc := 14) dX11_eye_14 ?_
      exact j_iret (pc := 15) ⟨rfl, rfl⟩ dX11_eye_15 rfl ⟨_, rfl, ⟨by omega, by omega⟩, hI, (tw_F_rf), (by first | exact (k8.elim (fun z => Or.inr (Or.inr (Or.inl ⟨z.1, by omega, z.2.1, z.2.2⟩))) (fun z => Or.inr (Or.inr (Or.inr ⟨z.1, by omega, z.2.1, z.2.2⟩)))) | omega)⟩
