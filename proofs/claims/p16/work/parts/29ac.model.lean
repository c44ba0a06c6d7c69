/-! 29ac.model -/
theorem dX12_keep_0 : decode cX12_keep 0 = .ok (.iload_n 1, 1) := by decide +kernel
theorem dX12_keep_1 : decode cX12_keep 1 = .ok (.i2l, 1) := by decide +kernel
theorem dX12_keep_2 : decode cX12_keep 2 = .ok (.lconst 1, 1) := by decide +kernel
theorem dX12_keep_3 : decode cX12_keep 3 = .ok (.ldc2_w 255, 3) := by decide +kernel
theorem dX12_keep_6 : decode cX12_keep 6 = .ok (.invokestatic 82, 3) := by decide +kernel
theorem dX12_keep_9 : decode cX12_keep 9 = .ok (.ifCond .eq 15, 3) := by decide +kernel
theorem dX12_keep_12 : decode cX12_keep 12 = .ok (.iload_n 2, 1) := by decide +kernel
theorem dX12_keep_13 : decode cX12_keep 13 = .ok (.i2l, 1) := by decide +kernel
theorem dX12_keep_14 : decode cX12_keep 14 = .ok (.lconst 0, 1) := by decide +kernel
theorem dX12_keep_15 : decode cX12_keep 15 = .ok (.ldc2_w 312, 3) := by decide +kernel
theorem dX12_keep_18 : decode cX12_keep 18 = .ok (.invokestatic 82, 3) := by decide +kernel
theorem dX12_keep_21 : decode cX12_keep 21 = .ok (.ifCond .ne 5, 3) := by decide +kernel
theorem dX12_keep_24 : decode cX12_keep 24 = .ok (.iconst (-1), 1) := by decide +kernel
theorem dX12_keep_25 : decode cX12_keep 25 = .ok (.ireturn, 1) := by decide +kernel
theorem dX12_keep_26 : decode cX12_keep 26 = .ok (.aload_n 0, 1) := by decide +kernel
theorem dX12_keep_27 : decode cX12_keep 27 = .ok (.iload_n 1, 1) := by decide +kernel
theorem dX12_keep_28 : decode cX12_keep 28 = .ok (.invokevirtual 314, 3) := by decide +kernel
theorem dX12_keep_31 : decode cX12_keep 31 = .ok (.aload_n 0, 1) := by decide +kernel
theorem dX12_keep_32 : decode cX12_keep 32 = .ok (.sipush 300, 3) := by decide +kernel
theorem dX12_keep_35 : decode cX12_keep 35 = .ok (.invokevirtual 277, 3) := by decide +kernel
theorem dX12_keep_38 : decode cX12_keep 38 = .ok (.iload_n 2, 1) := by decide +kernel
theorem dX12_keep_39 : decode cX12_keep 39 = .ok (.ifCond .ne 13, 3) := by decide +kernel
theorem dX12_keep_42 : decode cX12_keep 42 = .ok (.aload_n 0, 1) := by decide +kernel
theorem dX12_keep_43 : decode cX12_keep 43 = .ok (.sipush 300, 3) := by decide +kernel
theorem dX12_keep_46 : decode cX12_keep 46 = .ok (.invokevirtual 280, 3) := by decide +kernel
theorem dX12_keep_49 : decode cX12_keep 49 = .ok (.goto 35, 3) := by decide +kernel
theorem dX12_keep_52 : decode cX12_keep 52 = .ok (.iload_n 2, 1) := by decide +kernel
theorem dX12_keep_53 : decode cX12_keep 53 = .ok (.iconst 1, 1) := by decide +kernel
theorem dX12_keep_54 : decode cX12_keep 54 = .ok (.if_icmp .ne 13, 3) := by decide +kernel
theorem dX12_keep_57 : decode cX12_keep 57 = .ok (.aload_n 0, 1) := by decide +kernel
theorem dX12_keep_58 : decode cX12_keep 58 = .ok (.sipush 300, 3) := by decide +kernel
theorem dX12_keep_61 : decode cX12_keep 61 = .ok (.invokevirtual 192, 3) := by decide +kernel
theorem dX12_keep_64 : decode cX12_keep 64 = .ok (.goto 20, 3) := by decide +kernel
theorem dX12_keep_67 : decode cX12_keep 67 = .ok (.aload_n 0, 1) := by decide +kernel
theorem dX12_keep_68 : decode cX12_keep 68 = .ok (.getfield 274, 3) := by decide +kernel
theorem dX12_keep_71 : decode cX12_keep 71 = .ok (.bipush (-4), 2) := by decide +kernel
theorem dX12_keep_73 : decode cX12_keep 73 = .ok (.if_icmp .eq 7, 3) := by decide +kernel
theorem dX12_keep_76 : decode cX12_keep 76 = .ok (.iconst 1, 1) := by decide +kernel
theorem dX12_keep_77 : decode cX12_keep 77 = .ok (.goto 4, 3) := by decide +kernel
theorem dX12_keep_80 : decode cX12_keep 80 = .ok (.iconst 0, 1) := by decide +kernel
theorem dX12_keep_81 : decode cX12_keep 81 = .ok (.invokestatic 168, 3) := by decide +kernel
theorem dX12_keep_84 : decode cX12_keep 84 = .ok (.ireturn, 1) := by decide +kernel
abbrev q_X12_keep (e : Int) (w : Int) (σ : tw_M) : Option tw_V → tw_M → Prop := fun z τ => ∃ r : Int, z = some (vI r) ∧ (-2147483648 ≤ r ∧ r ≤ 2147483647) ∧ tw_I τ ∧ tw_F (fun c j => (c = 88 ∧ (j = 19 ∨ j = 20 ∨ j = 21 ∨ j = 22 ∨ j = 23 ∨ j = 24 ∨ j = 25)) ∨ (c = 89 ∧ 300 ≤ j)) σ τ ∧ True
set_option maxHeartbeats 4000000 in
set_option maxRecDepth 100000 in
theorem c_X12_keep {G : tw_G} (hM : tw_isM G) (e : Int) (he : -2147483648 ≤ e ∧ e ≤ 2147483647) (w : Int) (hw : -2147483648 ≤ w ∧ w ≤ 2147483647) (σ : tw_M) (hI : tw_I σ) : tw_C G yX12_keep cX12_keep 3 (some .int) 4 [vR 88, vI e, vI w] σ (q_X12_keep e w σ) := by
  refine tw_met [(0, vR 88), (1, vI e), (2, vI w)] (by decide +kernel) rfl (Nat.le_of_ble_eq_true rfl) ?_
  refine j_iload_n (pc := 0) dX12_keep_0 rfl rfl ?_
  refine j_i2l (pc := 1) dX12_keep_1 ?_
  rw [w32_eq (a := e) (by omega) (by omega)]
  refine j_lconst (pc := 2) (z := 1) dX12_keep_2 rfl ?_
  refine j_ldc2 (pc := 3) (z := 40) dX12_keep_3 (tw_inc tm_7 (i := 80) rfl rfl) ?_
  refine j_callS (pc := 6) (As := [vL e, vL 1, vL 40]) (st := []) (c_X12_in e ⟨by omega, by omega⟩ 1 (by (first | decide | exact ⟨by omega, by omega⟩)) 40 (by (first | decide | exact ⟨by omega, by omega⟩)) σ hI) ms_X12_82 rfl dX12_keep_6 ⟨Nat.le_of_ble_eq_true rfl, Nat.le_of_ble_eq_true rfl⟩ ⟨Nat.le_refl _, Nat.le_refl _⟩ rfl (Nat.le_of_ble_eq_true rfl) rfl (fun z1 σ2 hz1 => ?_)
  obtain ⟨r4, rfl, hr4, rfl, q3_0⟩ := hz1
  replace q3_0 : (r4 = 1 ∧ (1 : Int) ≤ e ∧ e ≤ (40 : Int)) ∨ (r4 = 0 ∧ ¬ ((1 : Int) ≤ e ∧ e ≤ (40 : Int))) := q3_0
  refine j_st (st' := [vI r4]) rfl ?_
  refine j_ifR_eq (pc := 9) (tgt := 24) ⟨by omega, by omega⟩ dX12_keep_9 rfl (fun h5 => ?_) (fun h5 => ?_)
  · refine j_iconst (pc := 24) dX12_keep_24 ?_
    exact j_iret (pc := 25) ⟨rfl, rfl⟩ dX12_keep_25 rfl ⟨_, rfl, ⟨by omega, by omega⟩, hI, (tw_F_rf), trivial⟩
  · refine j_iload_n (pc := 12) dX12_keep_12 rfl rfl ?_
    refine j_i2l (pc := 13) dX12_keep_13 ?_
    rw [w32_eq (a := w) (by omega) (by omega)]
    refine j_lconst (pc := 14) (z := 0) dX12_keep_14 rfl ?_
    refine j_ldc2 (pc := 15) (z := 2) dX12_keep_15 (tw_inc tm_7 (i := 149) rfl rfl) ?_
    refine j_callS (pc := 18) (As := [vL w, vL 0, vL 2]) (st := []) (c_X12_in w ⟨by omega, by omega⟩ 0 (by (first | decide | exact ⟨by omega, by omega⟩)) 2 (by (first | decide | exact ⟨by omega, by omega⟩)) σ hI) ms_X12_82 rfl dX12_keep_18 ⟨Nat.le_of_ble_eq_true rfl, Nat.le_of_ble_eq_true rfl⟩ ⟨Nat.le_refl _, Nat.le_refl _⟩ rfl (Nat.le_of_ble_eq_true rfl) rfl (fun z6 σ7 hz6 => ?_)
    obtain ⟨r9, rfl, hr9, rfl, q8_0⟩ := hz6
    replace q8_0 : (r9 = 1 ∧ (0 : Int) ≤ w ∧ w ≤ (2 : Int)) ∨ (r9 = 0 ∧ ¬ ((0 : Int) ≤ w ∧ w ≤ (2 : Int))) := q8_0
    refine j_st (st' := [vI r9]) rfl ?_
    refine j_ifR_ne (pc := 21) (tgt := 26) ⟨by omega, by omega⟩ dX12_keep_21 rfl (fun h10 => ?_) (fun h10 => ?_)
    · refine j_aload_n (pc := 26) dX12_keep_26 rfl rfl ?_
      refine j_iload_n (pc := 27) dX12_keep_27 rfl rfl ?_
      refine j_callV (pc := 28) (As := [vI e]) (st := []) (c_X12_follows hM e ⟨by omega, by omega⟩ σ hI) mv_X12_314 rfl rfl rfl (a_88 hM) dX12_keep_28 ⟨Nat.le_of_ble_eq_true rfl, Nat.le_of_ble_eq_true rfl⟩ ⟨Nat.le_refl _, Nat.le_refl _⟩ rfl (Nat.le_of_ble_eq_true rfl) rfl (fun z11 σ12 hz11 => ?_)
      obtain ⟨rfl, hIσ12, hGσ12, -⟩ := hz11
      have hFσ12 : tw_F (fun c j => (c = 88 ∧ (j = 19 ∨ j = 20 ∨ j = 21 ∨ j = 22 ∨ j = 23 ∨ j = 24 ∨ j = 25)) ∨ (c = 89 ∧ 300 ≤ j)) σ σ12 := tw_F_tr (tw_F_rf) hGσ12 (fun c j q => (show (c = 88 ∧ (j = 19 ∨ j = 20 ∨ j = 21 ∨ j = 22 ∨ j = 23 ∨ j = 24 ∨ j = 25)) ∨ (c = 89 ∧ 300 ≤ j) from by replace q : (c = 89 ∧ 300 ≤ j) := q; exact (Or.inr q)))
      refine j_st (st' := []) rfl ?_
      refine j_aload_n (pc := 31) dX12_keep_31 rfl rfl ?_
      refine j_sipush (pc := 32) dX12_keep_32 rfl ?_
      refine j_callV (pc := 35) (As := [vI 300]) (st := []) (c_X12_findEffort hM 300 (by (first | decide | exact ⟨by omega, by omega⟩)) σ12 hIσ12) mv_X12_277 rfl rfl rfl (a_88 hM) dX12_keep_35 ⟨Nat.le_of_ble_eq_true rfl, Nat.le_of_ble_eq_true rfl⟩ ⟨Nat.le_refl _, Nat.le_refl _⟩ rfl (Nat.le_of_ble_eq_true rfl) rfl (fun z15 σ16 hz15 => ?_)
      obtain ⟨rfl, hIσ16, hGσ16, q17_0, q17_1⟩ := hz15
      replace q17_0 : σ16 88 24 = eff (wM σ12) (gM (300 : Int) σ12) (σ12 91 0).toNat := q17_0
      have y19 : σ12 91 0 = σ 91 0 := (hGσ12 91 0 (show ¬ ((91 = 89 ∧ 300 ≤ 0)) from by decide))
      have f20 : (1 : Int) ≤ σ 91 0 ∧ σ 91 0 ≤ 40 := hI 91 0
      replace q17_1 : TMs (wM σ12) (gM (300 : Int) σ12) (-4) 1 (σ12 91 0 + 1) (σ16 88 25) := q17_1
      have y21 : σ12 91 0 = σ 91 0 := (hGσ12 91 0 (show ¬ ((91 = 89 ∧ 300 ≤ 0)) from by decide))
      have hFσ16 : tw_F (fun c j => (c = 88 ∧ (j = 19 ∨ j = 20 ∨ j = 21 ∨ j = 22 ∨ j = 23 ∨ j = 24 ∨ j = 25)) ∨ (c = 89 ∧ 300 ≤ j)) σ σ16 := tw_F_tr hFσ12 hGσ16 (fun c j q => (show (c = 88 ∧ (j = 19 ∨ j = 20 ∨ j = 21 ∨ j = 22 ∨ j = 23 ∨ j = 24 ∨ j = 25)) ∨ (c = 89 ∧ 300 ≤ j) from by replace q : (c = 88 ∧ (j = 24 ∨ j = 25)) := q; exact (Or.inl ⟨q.1, (q.2.elim (fun z => (Or.inr (Or.inr (Or.inr (Or.inr (Or.inr (Or.inl z))))))) (fun z => (Or.inr (Or.inr (Or.inr (Or.inr (Or.inr (Or.inr z))))))))⟩)))
      refine j_st (st' := []) rfl ?_
      refine j_iload_n (pc := 38) dX12_keep_38 rfl rfl ?_
      refine j_ifR_ne (pc := 39) (tgt := 52) ⟨by omega, by omega⟩ dX12_keep_39 rfl (fun h22 => ?_) (fun h22 => ?_)
      · refine j_iload_n (pc := 52) dX12_keep_52 rfl rfl ?_
        refine j_iconst (pc := 53) dX12_keep_53 ?_
        refine j_icmpR_ne (pc := 54) (tgt := 67) ⟨by omega, by omega⟩ ⟨by omega, by omega⟩ dX12_keep_54 rfl (fun h23 => ?_) (fun h23 => ?_)
        · refine j_aload_n (pc := 67) dX12_keep_67 rfl rfl ?_
          refine j_getI (pc := 68) fl_X12_274 dX12_keep_68 (a_88 hM) rfl ?_
          have f24 : (-2147483648 : Int) ≤ σ16 88 25 ∧ σ16 88 25 ≤ 2147483647 := hIσ16 88 25
          refine j_bipush (pc := 71) dX12_keep_71 rfl ?_
          refine j_icmpR_eq (pc := 73) (tgt := 80) ⟨by omega, by omega⟩ ⟨by omega, by omega⟩ dX12_keep_73 rfl (fun h25 => ?_) (fun h25 => ?_)
          · refine j_iconst (pc := 80) dX12_keep_80 ?_
            refine j_callS (pc := 81) (As := [vI 0]) (st := []) (c_X12_flag 0 (by (first | decide | exact ⟨by omega, by omega⟩)) σ16 hIσ16) ms_X12_168 rfl dX12_keep_81 ⟨Nat.le_of_ble_eq_true rfl, Nat.le_of_ble_eq_true rfl⟩ ⟨Nat.le_refl _, Nat.le_refl _⟩ rfl (Nat.le_of_ble_eq_true rfl) rfl (fun z26 σ27 hz26 => ?_)
            obtain ⟨r29, rfl, hr29, rfl, q28_0⟩ := hz26
            replace q28_0 : r29 = (0 : Int) := q28_0
            refine j_st (st' := [vI r29]) rfl ?_
            exact j_iret (pc := 84) ⟨rfl, rfl⟩ dX12_keep_84 rfl ⟨_, rfl, ⟨by omega, by omega⟩, hIσ16, hFσ16, trivial⟩
          · refine j_iconst (pc := 76) dX12_keep_76 ?_
            refine j_goto (pc := 77) (tgt := 81) dX12_keep_77 rfl ?_
            refine j_callS (pc := 81) (As := [vI 1]) (st := []) (c_X12_flag 1 (by (first | decide | exact ⟨by omega, by omega⟩)) σ16 hIσ16) ms_X12_168 rfl dX12_keep_81 ⟨Nat.le_of_ble_eq_true rfl, Nat.le_of_ble_eq_true rfl⟩ ⟨Nat.le_refl _, Nat.le_refl _⟩ rfl (Nat.le_of_ble_eq_true rfl) rfl (fun z30 σ31 hz30 => ?_)
            obtain ⟨r33, rfl, hr33, rfl, q32_0⟩ := hz30
            replace q32_0 : r33 = (1 : Int) := q32_0
            refine j_st (st' := [vI r33]) rfl ?_
            exact j_iret (pc := 84) ⟨rfl, rfl⟩ dX12_keep_84 rfl ⟨_, rfl, ⟨by omega, by omega⟩, hIσ16, hFσ16, trivial⟩
        · refine j_aload_n (pc := 57) dX12_keep_57 rfl rfl ?_
          refine j_sipush (pc := 58) dX12_keep_58 rfl ?_
          refine j_callV (pc := 61) (As := [vI 300]) (st := []) (c_X12_all hM 300 (by (first | decide | exact ⟨by omega, by omega⟩)) σ16 hIσ16) mv_X12_192 rfl rfl rfl (a_88 hM) dX12_keep_61 ⟨Nat.le_of_ble_eq_true rfl, Nat.le_of_ble_eq_true rfl⟩ ⟨Nat.le_refl _, Nat.le_refl _⟩ rfl (Nat.le_of_ble_eq_true rfl) rfl (fun z34 σ35 hz34 => ?_)
          obtain ⟨r37, rfl, hr37, rfl, q36_0⟩ := hz34
          replace q36_0 : r37 = mc σ16 (300 : Int) (σ16 91 0).toNat := q36_0
          refine j_st (st' := [vI r37]) rfl ?_
          refine j_goto (pc := 64) (tgt := 84) dX12_keep_64 rfl ?_
          exact j_iret (pc := 84) ⟨rfl, rfl⟩ dX12_keep_84 rfl ⟨_, rfl, ⟨by omega, by omega⟩, hIσ16, hFσ16, trivial⟩
      · refine j_aload_n (pc := 42) dX12_keep_42 rfl rfl ?_
        refine j_sipush (pc := 43) dX12_keep_43 rfl ?_
        refine j_callV (pc := 46) (As := [vI 300]) (st := []) (c_X12_riskOf hM 300 (by (first | decide | exact ⟨by omega, by omega⟩)) σ16 hIσ16 (by omega)) mv_X12_280 rfl rfl rfl (a_88 hM) dX12_keep_46 ⟨Nat.le_of_ble_eq_true rfl, Nat.le_of_ble_eq_true rfl⟩ ⟨Nat.le_refl _, Nat.le_refl _⟩ rfl (Nat.le_of_ble_eq_true rfl) rfl (fun z38 σ39 hz38 => ?_)
        obtain ⟨r41, rfl, hr41, hIσ39, hGσ39, q40_0⟩ := hz38
        replace q40_0 : r41 = rsk (wM σ16) (gM (300 : Int) σ16) 1023 (σ16 91 0).toNat := q40_0
        have y42 : σ16 91 0 = σ 91 0 := ((hGσ16 91 0 (show ¬ ((91 = 88 ∧ (0 = 24 ∨ 0 = 25))) from by decide))).trans (hGσ12 91 0 (show ¬ ((91 = 89 ∧ 300 ≤ 0)) from by decide))
        have hFσ39 : tw_F (fun c j => (c = 88 ∧ (j = 19 ∨ j = 20 ∨ j = 21 ∨ j = 22 ∨ j = 23 ∨ j = 24 ∨ j = 25)) ∨ (c = 89 ∧ 300 ≤ j)) σ σ39 := tw_F_tr hFσ16 hGσ39 (fun c j q => (show (c = 88 ∧ (j = 19 ∨ j = 20 ∨ j = 21 ∨ j = 22 ∨ j = 23 ∨ j = 24 ∨ j = 25)) ∨ (c = 89 ∧ 300 ≤ j) from by replace q : (c = 88 ∧ (j = 19 ∨ j = 20 ∨ j = 21 ∨ j = 22 ∨ j = 23)) := q; exact (Or.inl ⟨q.1, (q.2.elim (fun z => (Or.inl z)) (fun z => (z.elim (fun z => (Or.inr (Or.inl z))) (fun z => (z.elim (fun z => (Or.inr (Or.inr (Or.inl z)))) (fun z => (z.elim (fun z => (Or.inr (Or.inr (Or.inr (Or.inl z))))) (fun z => (Or.inr (Or.inr (Or.inr (Or.inr (Or.inl z)))))))))))))⟩)))
        refine j_st (st' := [vI r41]) rfl ?_
        refine j_goto (pc := 49) (tgt := 84) dX12_keep_49 rfl ?_
        exact j_iret (pc := 84) ⟨rfl, rfl⟩ dX12_keep_84 rfl ⟨_, rfl, ⟨by omega, by omega⟩, hIσ39, hFσ39, trivial⟩
    · refine j_iconst (pc := 24) dX12_keep_24 ?_
      exact j_iret (pc := 25) ⟨rfl, rfl⟩ dX12_keep_25 rfl ⟨_, rfl, ⟨by omega, by omega⟩, hI, (tw_F_rf), trivial⟩
