/-! 29aa.model -/
theorem dX12_plan_0 : decode cX12_plan 0 = .ok (.iload_n 1, 1) := by decide +kernel
theorem dX12_plan_1 : decode cX12_plan 1 = .ok (.i2l, 1) := by decide +kernel
theorem dX12_plan_2 : decode cX12_plan 2 = .ok (.lconst 0, 1) := by decide +kernel
theorem dX12_plan_3 : decode cX12_plan 3 = .ok (.lconst 1, 1) := by decide +kernel
theorem dX12_plan_4 : decode cX12_plan 4 = .ok (.invokestatic 82, 3) := by decide +kernel
theorem dX12_plan_7 : decode cX12_plan 7 = .ok (.ifCond .ne 19, 3) := by decide +kernel
theorem dX12_plan_10 : decode cX12_plan 10 = .ok (.iload_n 1, 1) := by decide +kernel
theorem dX12_plan_11 : decode cX12_plan 11 = .ok (.i2l, 1) := by decide +kernel
theorem dX12_plan_12 : decode cX12_plan 12 = .ok (.ldc2_w 187, 3) := by decide +kernel
theorem dX12_plan_15 : decode cX12_plan 15 = .ok (.ldc2_w 307, 3) := by decide +kernel
theorem dX12_plan_18 : decode cX12_plan 18 = .ok (.invokestatic 82, 3) := by decide +kernel
theorem dX12_plan_21 : decode cX12_plan 21 = .ok (.ifCond .ne 5, 3) := by decide +kernel
theorem dX12_plan_24 : decode cX12_plan 24 = .ok (.iconst (-1), 1) := by decide +kernel
theorem dX12_plan_25 : decode cX12_plan 25 = .ok (.ireturn, 1) := by decide +kernel
theorem dX12_plan_26 : decode cX12_plan 26 = .ok (.aload_n 0, 1) := by decide +kernel
theorem dX12_plan_27 : decode cX12_plan 27 = .ok (.invokevirtual 309, 3) := by decide +kernel
theorem dX12_plan_30 : decode cX12_plan 30 = .ok (.aload_n 0, 1) := by decide +kernel
theorem dX12_plan_31 : decode cX12_plan 31 = .ok (.getfield 292, 3) := by decide +kernel
theorem dX12_plan_34 : decode cX12_plan 34 = .ok (.bipush (-4), 2) := by decide +kernel
theorem dX12_plan_36 : decode cX12_plan 36 = .ok (.if_icmp .ne 6, 3) := by decide +kernel
theorem dX12_plan_39 : decode cX12_plan 39 = .ok (.bipush (-4), 2) := by decide +kernel
theorem dX12_plan_41 : decode cX12_plan 41 = .ok (.ireturn, 1) := by decide +kernel
theorem dX12_plan_42 : decode cX12_plan 42 = .ok (.aload_n 0, 1) := by decide +kernel
theorem dX12_plan_43 : decode cX12_plan 43 = .ok (.aload_n 0, 1) := by decide +kernel
theorem dX12_plan_44 : decode cX12_plan 44 = .ok (.getfield 292, 3) := by decide +kernel
theorem dX12_plan_47 : decode cX12_plan 47 = .ok (.invokevirtual 301, 3) := by decide +kernel
theorem dX12_plan_50 : decode cX12_plan 50 = .ok (.pop, 1) := by decide +kernel
theorem dX12_plan_51 : decode cX12_plan 51 = .ok (.iload_n 1, 1) := by decide +kernel
theorem dX12_plan_52 : decode cX12_plan 52 = .ok (.ifCond .ne 10, 3) := by decide +kernel
theorem dX12_plan_55 : decode cX12_plan 55 = .ok (.aload_n 0, 1) := by decide +kernel
theorem dX12_plan_56 : decode cX12_plan 56 = .ok (.getfield 295, 3) := by decide +kernel
theorem dX12_plan_59 : decode cX12_plan 59 = .ok (.goto 47, 3) := by decide +kernel
theorem dX12_plan_62 : decode cX12_plan 62 = .ok (.iload_n 1, 1) := by decide +kernel
theorem dX12_plan_63 : decode cX12_plan 63 = .ok (.iconst 1, 1) := by decide +kernel
theorem dX12_plan_64 : decode cX12_plan 64 = .ok (.if_icmp .ne 13, 3) := by decide +kernel
theorem dX12_plan_67 : decode cX12_plan 67 = .ok (.aload_n 0, 1) := by decide +kernel
theorem dX12_plan_68 : decode cX12_plan 68 = .ok (.getfield 292, 3) := by decide +kernel
theorem dX12_plan_71 : decode cX12_plan 71 = .ok (.invokestatic 304, 3) := by decide +kernel
theorem dX12_plan_74 : decode cX12_plan 74 = .ok (.goto 32, 3) := by decide +kernel
theorem dX12_plan_77 : decode cX12_plan 77 = .ok (.iload_n 1, 1) := by decide +kernel
theorem dX12_plan_78 : decode cX12_plan 78 = .ok (.bipush 10, 2) := by decide +kernel
theorem dX12_plan_80 : decode cX12_plan 80 = .ok (.isub, 1) := by decide +kernel
theorem dX12_plan_81 : decode cX12_plan 81 = .ok (.aload_n 0, 1) := by decide +kernel
theorem dX12_plan_82 : decode cX12_plan 82 = .ok (.getfield 292, 3) := by decide +kernel
theorem dX12_plan_85 : decode cX12_plan 85 = .ok (.invokestatic 304, 3) := by decide +kernel
theorem dX12_plan_88 : decode cX12_plan 88 = .ok (.if_icmp .ge 17, 3) := by decide +kernel
theorem dX12_plan_91 : decode cX12_plan 91 = .ok (.aload_n 0, 1) := by decide +kernel
theorem dX12_plan_92 : decode cX12_plan 92 = .ok (.sipush 300, 3) := by decide +kernel
theorem dX12_plan_95 : decode cX12_plan 95 = .ok (.iload_n 1, 1) := by decide +kernel
theorem dX12_plan_96 : decode cX12_plan 96 = .ok (.bipush 10, 2) := by decide +kernel
theorem dX12_plan_98 : decode cX12_plan 98 = .ok (.isub, 1) := by decide +kernel
theorem dX12_plan_99 : decode cX12_plan 99 = .ok (.invokevirtual 198, 3) := by decide +kernel
theorem dX12_plan_102 : decode cX12_plan 102 = .ok (.goto 4, 3) := by decide +kernel
theorem dX12_plan_105 : decode cX12_plan 105 = .ok (.iconst (-1), 1) := by decide +kernel
theorem dX12_plan_106 : decode cX12_plan 106 = .ok (.ireturn, 1) := by decide +kernel
abbrev q_X12_plan (w : Int) (σ : tw_M) : Option tw_V → tw_M → Prop := fun z τ => ∃ r : Int, z = some (vI r) ∧ (-2147483648 ≤ r ∧ r ≤ 2147483647) ∧ tw_I τ ∧ tw_F (fun c j => (c = 88 ∧ (j = 19 ∨ j = 20 ∨ j = 21 ∨ j = 22 ∨ j = 23 ∨ j = 24 ∨ j = 25 ∨ j = 26 ∨ j = 27)) ∨ (c = 89 ∧ 300 ≤ j)) σ τ ∧ True
set_option maxHeartbeats 4000000 in
set_option maxRecDepth 100000 in
theorem c_X12_plan {G : tw_G} (hM : tw_isM G) (w : Int) (hw : -2147483648 ≤ w ∧ w ≤ 2147483647) (σ : tw_M) (hI : tw_I σ) : tw_C G yX12_plan cX12_plan 2 (some .int) 5 [vR 88, vI w] σ (q_X12_plan w σ) := by
  refine tw_met [(0, vR 88), (1, vI w)] (by decide +kernel) rfl (Nat.le_of_ble_eq_true rfl) ?_
  refine j_iload_n (pc := 0) dX12_plan_0 rfl rfl ?_
  refine j_i2l (pc := 1) dX12_plan_1 ?_
  rw [w32_eq (a := w) (by omega) (by omega)]
  refine j_lconst (pc := 2) (z := 0) dX12_plan_2 rfl ?_
  refine j_lconst (pc := 3) (z := 1) dX12_plan_3 rfl ?_
  refine j_callS (pc := 4) (As := [vL w, vL 0, vL 1]) (st := []) (c_X12_in w ⟨by omega, by omega⟩ 0 (by (first | decide | exact ⟨by omega, by omega⟩)) 1 (by (first | decide | exact ⟨by omega, by omega⟩)) σ hI) ms_X12_82 rfl dX12_plan_4 ⟨Nat.le_of_ble_eq_true rfl, Nat.le_of_ble_eq_true rfl⟩ ⟨Nat.le_refl _, Nat.le_refl _⟩ rfl (Nat.le_of_ble_eq_true rfl) rfl (fun z1 σ2 hz1 => ?_)
  obtain ⟨r4, rfl, hr4, rfl, q3_0⟩ := hz1
  replace q3_0 : (r4 = 1 ∧ (0 : Int) ≤ w ∧ w ≤ (1 : Int)) ∨ (r4 = 0 ∧ ¬ ((0 : Int) ≤ w ∧ w ≤ (1 : Int))) := q3_0
  refine j_st (st' := [vI r4]) rfl ?_
  refine j_ifR_ne (pc := 7) (tgt := 26) ⟨by omega, by omega⟩ dX12_plan_7 rfl (fun h5 => ?_) (fun h5 => ?_)
  · refine j_aload_n (pc := 26) dX12_plan_26 rfl rfl ?_
    refine j_callV (pc := 27) (As := []) (st := []) (c_X12_findPlan hM σ hI) mv_X12_309 rfl rfl rfl (a_88 hM) dX12_plan_27 ⟨Nat.le_of_ble_eq_true rfl, Nat.le_of_ble_eq_true rfl⟩ ⟨Nat.le_refl _, Nat.le_refl _⟩ rfl (Nat.le_of_ble_eq_true rfl) rfl (fun z6 σ7 hz6 => ?_)
    obtain ⟨rfl, hIσ7, hGσ7, q8_0, q8_1⟩ := hz6
    replace q8_0 : PS σ (σ7 88 26) (p2 (mK σ)) := q8_0
    replace q8_1 : ∀ rk : Nat → Int, MOK rk σ → WOK (wM σ) → BMS (wM σ) rk (pt (kk (wM σ))) (σ7 88 26) (σ7 88 27) := q8_1
    have hFσ7 : tw_F (fun c j => (c = 88 ∧ (j = 19 ∨ j = 20 ∨ j = 21 ∨ j = 22 ∨ j = 23 ∨ j = 24 ∨ j = 25 ∨ j = 26 ∨ j = 27)) ∨ (c = 89 ∧ 300 ≤ j)) σ σ7 := tw_F_tr (tw_F_rf) hGσ7 (fun c j q => (show (c = 88 ∧ (j = 19 ∨ j = 20 ∨ j = 21 ∨ j = 22 ∨ j = 23 ∨ j = 24 ∨ j = 25 ∨ j = 26 ∨ j = 27)) ∨ (c = 89 ∧ 300 ≤ j) from by replace q : (c = 88 ∧ (j = 19 ∨ j = 20 ∨ j = 21 ∨ j = 22 ∨ j = 23 ∨ j = 24 ∨ j = 25 ∨ j = 26 ∨ j = 27)) ∨ (c = 89 ∧ 300 ≤ j) := q; exact q))
    refine j_st (st' := []) rfl ?_
    refine j_aload_n (pc := 30) dX12_plan_30 rfl rfl ?_
    refine j_getI (pc := 31) fl_X12_292 dX12_plan_31 (a_88 hM) rfl ?_
    have f10 : (-4 : Int) ≤ σ7 88 26 ∧ σ7 88 26 ≤ 1023 := hIσ7 88 26
    refine j_bipush (pc := 34) dX12_plan_34 rfl ?_
    refine j_icmpR_ne (pc := 36) (tgt := 42) ⟨by omega, by omega⟩ ⟨by omega, by omega⟩ dX12_plan_36 rfl (fun h11 => ?_) (fun h11 => ?_)
    · have p89 : ∀ j, j < 100 → σ7 89 j = σ 89 j := fun j hj => hFσ7 89 j (show ¬ ((89 = 88 ∧ (j = 19 ∨ j = 20 ∨ j = 21 ∨ j = 22 ∨ j = 23 ∨ j = 24 ∨ j = 25 ∨ j = 26 ∨ j = 27)) ∨ (89 = 89 ∧ 300 ≤ j)) from by omega)
      have p92 : ∀ j, σ7 92 j = σ 92 j := fun j => hFσ7 92 j (show ¬ ((92 = 88 ∧ (j = 19 ∨ j = 20 ∨ j = 21 ∨ j = 22 ∨ j = 23 ∨ j = 24 ∨ j = 25 ∨ j = 26 ∨ j = 27)) ∨ (92 = 89 ∧ 300 ≤ j)) from fun h => h.elim (fun h => absurd h.1 (by decide)) (fun h => absurd h.1 (by decide)))
      have p91 : σ7 91 0 = σ 91 0 := hFσ7 91 0 (show ¬ ((91 = 88 ∧ (0 = 19 ∨ 0 = 20 ∨ 0 = 21 ∨ 0 = 22 ∨ 0 = 23 ∨ 0 = 24 ∨ 0 = 25 ∨ 0 = 26 ∨ 0 = 27)) ∨ (91 = 89 ∧ 300 ≤ 0)) from by decide)
      refine j_aload_n (pc := 42) dX12_plan_42 rfl rfl ?_
      refine j_aload_n (pc := 43) dX12_plan_43 rfl rfl ?_
      refine j_getI (pc := 44) fl_X12_292 dX12_plan_44 (a_88 hM) rfl ?_
      refine j_callV (pc := 47) (As := [vI (σ7 88 26)]) (st := []) (c_X12_lays hM (σ7 88 26) ⟨by omega, by omega⟩ σ7 hIσ7) mv_X12_301 rfl rfl rfl (a_88 hM) dX12_plan_47 ⟨Nat.le_of_ble_eq_true rfl, Nat.le_of_ble_eq_true rfl⟩ ⟨Nat.le_refl _, Nat.le_refl _⟩ rfl (Nat.le_of_ble_eq_true rfl) rfl (fun z12 σ13 hz12 => ?_)
      obtain ⟨r15, rfl, hr15, hIσ13, hGσ13, q14_0, q14_1⟩ := hz12
      replace q14_0 : LZ σ7 σ13 (σ7 88 26) r15 := q14_0
      replace q14_1 : ∀ rk : Nat → Int, MOK rk σ7 → LJZ (wM σ7) rk (σ7 88 26) r15 σ13 := q14_1
      have hFσ13 : tw_F (fun c j => (c = 88 ∧ (j = 19 ∨ j = 20 ∨ j = 21 ∨ j = 22 ∨ j = 23 ∨ j = 24 ∨ j = 25 ∨ j = 26 ∨ j = 27)) ∨ (c = 89 ∧ 300 ≤ j)) σ σ13 := tw_F_tr hFσ7 hGσ13 (fun c j q => (show (c = 88 ∧ (j = 19 ∨ j = 20 ∨ j = 21 ∨ j = 22 ∨ j = 23 ∨ j = 24 ∨ j = 25 ∨ j = 26 ∨ j = 27)) ∨ (c = 89 ∧ 300 ≤ j) from by replace q : (c = 89 ∧ 300 ≤ j) := q; exact (Or.inr q)))
      refine j_st (st' := [vI r15]) rfl ?_
      refine j_pop (pc := 50) dX12_plan_50 rfl ?_
      refine j_iload_n (pc := 51) dX12_plan_51 rfl rfl ?_
      refine j_ifR_ne (pc := 52) (tgt := 62) ⟨by omega, by omega⟩ dX12_plan_52 rfl (fun h16 => ?_) (fun h16 => ?_)
      · refine j_iload_n (pc := 62) dX12_plan_62 rfl rfl ?_
        refine j_iconst (pc := 63) dX12_plan_63 ?_
        refine j_icmpR_ne (pc := 64) (tgt := 77) ⟨by omega, by omega⟩ ⟨by omega, by omega⟩ dX12_plan_64 rfl (fun h17 => ?_) (fun h17 => ?_)
        · refine j_iload_n (pc := 77) dX12_plan_77 rfl rfl ?_
          refine j_bipush (pc := 78) dX12_plan_78 rfl ?_
          refine j_isub (pc := 80) dX12_plan_80 ?_
          refine j_top (fun z18 ez18 hz18 => ?_)
          have gz18 : w - 10 < -2147483648 ∨ 2147483647 < w - 10 ∨ z18 = w - 10 := by rw [ez18]; exact w32_or _
          refine j_aload_n (pc := 81) dX12_plan_81 rfl rfl ?_
          refine j_getI (pc := 82) fl_X12_292 dX12_plan_82 (a_88 hM) rfl ?_
          refine j_topV (show σ13 88 26 = σ7 88 26 from (hGσ13 88 26 (show ¬ ((88 = 89 ∧ 300 ≤ 26)) from by decide))) ?_
          refine j_callS (pc := 85) (As := [vI (σ7 88 26)]) (st := [vI z18]) (c_X12_countOf (σ7 88 26) ⟨by omega, by omega⟩ σ13 hIσ13) ms_X12_304 rfl dX12_plan_85 ⟨Nat.le_of_ble_eq_true rfl, Nat.le_of_ble_eq_true rfl⟩ ⟨Nat.le_refl _, Nat.le_refl _⟩ rfl (Nat.le_of_ble_eq_true rfl) rfl (fun z19 σ20 hz19 => ?_)
          obtain ⟨r22, rfl, hr22, rfl, q21_0⟩ := hz19
          replace q21_0 : r22 = mPop (σ7 88 26) 12 := q21_0
          refine j_st (st' := [vI r22, vI z18]) rfl ?_
          refine j_icmpR_ge (pc := 88) (tgt := 105) ⟨by omega, by omega⟩ ⟨by omega, by omega⟩ dX12_plan_88 rfl (fun h23 => ?_) (fun h23 => ?_)
          · refine j_iconst (pc := 105) dX12_plan_105 ?_
            exact j_iret (pc := 106) ⟨rfl, rfl⟩ dX12_plan_106 rfl ⟨_, rfl, ⟨by omega, by omega⟩, hIσ13, hFσ13, trivial⟩
          · refine j_aload_n (pc := 91) dX12_plan_91 rfl rfl ?_
            refine j_sipush (pc := 92) dX12_plan_92 rfl ?_
            refine j_iload_n (pc := 95) dX12_plan_95 rfl rfl ?_
            refine j_bipush (pc := 96) dX12_plan_96 rfl ?_
            refine j_isub (pc := 98) dX12_plan_98 ?_
            refine j_top (fun z24 ez24 hz24 => ?_)
            have gz24 : w - 10 < -2147483648 ∨ 2147483647 < w - 10 ∨ z24 = w - 10 := by rw [ez24]; exact w32_or _
            refine j_callV (pc := 99) (As := [vI 300, vI z24]) (st := []) (c_X12_footOf hM 300 (by (first | decide | exact ⟨by omega, by omega⟩)) z24 ⟨by omega, by omega⟩ σ13 hIσ13 (by have e9 := PLAN_foot (σ := σ) q8_0 (by omega) q14_0 (mK_congr (fun j => p92 j) p91) (mLay_congr (fun j hj => p89 j hj) (fun j => p92 j) p91 (hI 91 0).2 _); rw [e9]; omega)) mv_X12_198 rfl rfl rfl (a_88 hM) dX12_plan_99 ⟨Nat.le_of_ble_eq_true rfl, Nat.le_of_ble_eq_true rfl⟩ ⟨Nat.le_refl _, Nat.le_refl _⟩ rfl (Nat.le_of_ble_eq_true rfl) rfl (fun z25 σ26 hz25 => ?_)
            obtain ⟨r28, rfl, hr28, rfl, q27_0, q27_1, q27_2⟩ := hz25
            replace q27_0 : r28 ≤ σ13 91 0 := q27_0
            have y29 : σ13 91 0 = σ 91 0 := ((hGσ13 91 0 (show ¬ ((91 = 89 ∧ 300 ≤ 0)) from by decide))).trans (hGσ7 91 0 (show ¬ ((91 = 88 ∧ (0 = 19 ∨ 0 = 20 ∨ 0 = 21 ∨ 0 = 22 ∨ 0 = 23 ∨ 0 = 24 ∨ 0 = 25 ∨ 0 = 26 ∨ 0 = 27)) ∨ (91 = 89 ∧ 300 ≤ 0)) from by decide))
            have f30 : (1 : Int) ≤ σ 91 0 ∧ σ 91 0 ≤ 40 := hI 91 0
            replace q27_1 : 0 < σ13 89 ((300 : Int) + r28).toNat := q27_1
            replace q27_2 : mc σ13 (300 : Int) r28.toNat = z24 + 1 := q27_2
            refine j_st (st' := [vI r28]) rfl ?_
            refine j_goto (pc := 102) (tgt := 106) dX12_plan_102 rfl ?_
            exact j_iret (pc := 106) ⟨rfl, rfl⟩ dX12_plan_106 rfl ⟨_, rfl, ⟨by omega, by omega⟩, hIσ13, hFσ13, trivial⟩
        · refine j_aload_n (pc := 67) dX12_plan_67 rfl rfl ?_
          refine j_getI (pc := 68) fl_X12_292 dX12_plan_68 (a_88 hM) rfl ?_
          refine j_topV (show σ13 88 26 = σ7 88 26 from (hGσ13 88 26 (show ¬ ((88 = 89 ∧ 300 ≤ 26)) from by decide))) ?_
          refine j_callS (pc := 71) (As := [vI (σ7 88 26)]) (st := []) (c_X12_countOf (σ7 88 26) ⟨by omega, by omega⟩ σ13 hIσ13) ms_X12_304 rfl dX12_plan_71 ⟨Nat.le_of_ble_eq_true rfl, Nat.le_of_ble_eq_true rfl⟩ ⟨Nat.le_refl _, Nat.le_refl _⟩ rfl (Nat.le_of_ble_eq_true rfl) rfl (fun z31 σ32 hz31 => ?_)
          obtain ⟨r34, rfl, hr34, rfl, q33_0⟩ := hz31
          replace q33_0 : r34 = mPop (σ7 88 26) 12 := q33_0
          refine j_st (st' := [vI r34]) rfl ?_
          refine j_goto (pc := 74) (tgt := 106) dX12_plan_74 rfl ?_
          exact j_iret (pc := 106) ⟨rfl, rfl⟩ dX12_plan_106 rfl ⟨_, rfl, ⟨by omega, by omega⟩, hIσ13, hFσ13, trivial⟩
      · refine j_aload_n (pc := 55) dX12_plan_55 rfl rfl ?_
        refine j_getI (pc := 56) fl_X12_295 dX12_plan_56 (a_88 hM) rfl ?_
        refine j_topV (show σ13 88 27 = σ7 88 27 from (hGσ13 88 27 (show ¬ ((88 = 89 ∧ 300 ≤ 27)) from by decide))) ?_
        have f35 : (-2147483648 : Int) ≤ σ7 88 27 ∧ σ7 88 27 ≤ 2147483647 := hIσ7 88 27
        refine j_goto (pc := 59) (tgt := 106) dX12_plan_59 rfl ?_
        exact j_iret (pc := 106) ⟨rfl, rfl⟩ dX12_plan_106 rfl ⟨_, rfl, ⟨by omega, by omega⟩, hIσ13, hFσ13, trivial⟩
    · refine j_bipush (pc := 39) dX12_plan_39 rfl ?_
      exact j_iret (pc := 41) ⟨rfl, rfl⟩ dX12_plan_41 rfl ⟨_, rfl, ⟨by omega, by omega⟩, hIσ7, hFσ7, trivial⟩
  · refine j_iload_n (pc := 10) dX12_plan_10 rfl rfl ?_
    refine j_i2l (pc := 11) dX12_plan_11 ?_
    rw [w32_eq (a := w) (by omega) (by omega)]
    refine j_ldc2 (pc := 12) (z := 10) dX12_plan_12 (tw_inc tm_6 (i := 239) rfl rfl) ?_
    refine j_ldc2 (pc := 15) (z := 19) dX12_plan_15 (tw_inc tm_7 (i := 121) rfl rfl) ?_
    refine j_callS (pc := 18) (As := [vL w, vL 10, vL 19]) (st := []) (c_X12_in w ⟨by omega, by omega⟩ 10 (by (first | decide | exact ⟨by omega, by omega⟩)) 19 (by (first | decide | exact ⟨by omega, by omega⟩)) σ hI) ms_X12_82 rfl dX12_plan_18 ⟨Nat.le_of_ble_eq_true rfl, Nat.le_of_ble_eq_true rfl⟩ ⟨Nat.le_refl _, Nat.le_refl _⟩ rfl (Nat.le_of_ble_eq_true rfl) rfl (fun z36 σ37 hz36 => ?_)
    obtain ⟨r39, rfl, hr39, rfl, q38_0⟩ := hz36
    replace q38_0 : (r39 = 1 ∧ (10 : Int) ≤ w ∧ w ≤ (19 : Int)) ∨ (r39 = 0 ∧ ¬ ((10 : Int) ≤ w ∧ w ≤ (19 : Int))) := q38_0
    refine j_st (st' := [vI r39]) rfl ?_
    refine j_ifR_ne (pc := 21) (tgt := 26) ⟨by omega, by omega⟩ dX12_plan_21 rfl (fun h40 => ?_) (fun h40 => ?_)
    · refine j_aload_n (pc := 26) dX12_plan_26 rfl rfl ?_
      refine j_callV (pc := 27) (As := []) (st := []) (c_X12_findPlan hM σ hI) mv_X12_309 rfl rfl rfl (a_88 hM) dX12_plan_27 ⟨Nat.le_of_ble_eq_true rfl, Nat.le_of_ble_eq_true rfl⟩ ⟨Nat.le_refl _, Nat.le_refl _⟩ rfl (Nat.le_of_ble_eq_true rfl) rfl (fun z41 σ42 hz41 => ?_)
      obtain ⟨rfl, hIσ42, hGσ42, q43_0, q43_1⟩ := hz41
      replace q43_0 : PS σ (σ42 88 26) (p2 (mK σ)) := q43_0
      replace q43_1 : ∀ rk : Nat → Int, MOK rk σ → WOK (wM σ) → BMS (wM σ) rk (pt (kk (wM σ))) (σ42 88 26) (σ42 88 27) := q43_1
      have hFσ42 : tw_F (fun c j => (c = 88 ∧ (j = 19 ∨ j = 20 ∨ j = 21 ∨ j = 22 ∨ j = 23 ∨ j = 24 ∨ j = 25 ∨ j = 26 ∨ j = 27)) ∨ (c = 89 ∧ 300 ≤ j)) σ σ42 := tw_F_tr (tw_F_rf) hGσ42 (fun c j q => (show (c = 88 ∧ (j = 19 ∨ j = 20 ∨ j = 21 ∨ j = 22 ∨ j = 23 ∨ j = 24 ∨ j = 25 ∨ j = 26 ∨ j = 27)) ∨ (c = 89 ∧ 300 ≤ j) from by replace q : (c = 88 ∧ (j = 19 ∨ j = 20 ∨ j = 21 ∨ j = 22 ∨ j = 23 ∨ j = 24 ∨ j = 25 ∨ j = 26 ∨ j = 27)) ∨ (c = 89 ∧ 300 ≤ j) := q; exact q))
      refine j_st (st' := []) rfl ?_
      refine j_aload_n (pc := 30) dX12_plan_30 rfl rfl ?_
      refine j_getI (pc := 31) fl_X12_292 dX12_plan_31 (a_88 hM) rfl ?_
      have f45 : (-4 : Int) ≤ σ42 88 26 ∧ σ42 88 26 ≤ 1023 := hIσ42 88 26
      refine j_bipush (pc := 34) dX12_plan_34 rfl ?_
      refine j_icmpR_ne (pc := 36) (tgt := 42) ⟨by omega, by omega⟩ ⟨by omega, by omega⟩ dX12_plan_36 rfl (fun h46 => ?_) (fun h46 => ?_)
      · have p89 : ∀ j, j < 100 → σ42 89 j = σ 89 j := fun j hj => hFσ42 89 j (show ¬ ((89 = 88 ∧ (j = 19 ∨ j = 20 ∨ j = 21 ∨ j = 22 ∨ j = 23 ∨ j = 24 ∨ j = 25 ∨ j = 26 ∨ j = 27)) ∨ (89 = 89 ∧ 300 ≤ j)) from by omega)
        have p92 : ∀ j, σ42 92 j = σ 92 j := fun j => hFσ42 92 j (show ¬ ((92 = 88 ∧ (j = 19 ∨ j = 20 ∨ j = 21 ∨ j = 22 ∨ j = 23 ∨ j = 24 ∨ j = 25 ∨ j = 26 ∨ j = 27)) ∨ (92 = 89 ∧ 300 ≤ j)) from fun h => h.elim (fun h => absurd h.1 (by decide)) (fun h => absurd h.1 (by decide)))
        have p91 : σ42 91 0 = σ 91 0 := hFσ42 91 0 (show ¬ ((91 = 88 ∧ (0 = 19 ∨ 0 = 20 ∨ 0 = 21 ∨ 0 = 22 ∨ 0 = 23 ∨ 0 = 24 ∨ 0 = 25 ∨ 0 = 26 ∨ 0 = 27)) ∨ (91 = 89 ∧ 300 ≤ 0)) from by decide)
        refine j_aload_n (pc := 42) dX12_plan_42 rfl rfl ?_
        refine j_aload_n (pc := 43) dX12_plan_43 rfl rfl ?_
        refine j_getI (pc := 44) fl_X12_292 dX12_plan_44 (a_88 hM) rfl ?_
        refine j_callV (pc := 47) (As := [vI (σ42 88 26)]) (st := []) (c_X12_lays hM (σ42 88 26) ⟨by omega, by omega⟩ σ42 hIσ42) mv_X12_301 rfl rfl rfl (a_88 hM) dX12_plan_47 ⟨Nat.le_of_ble_eq_true rfl, Nat.le_of_ble_eq_true rfl⟩ ⟨Nat.le_refl _, Nat.le_refl _⟩ rfl (Nat.le_of_ble_eq_true rfl) rfl (fun z47 σ48 hz47 => ?_)
        obtain ⟨r50, rfl, hr50, hIσ48, hGσ48, q49_0, q49_1⟩ := hz47
        replace q49_0 : LZ σ42 σ48 (σ42 88 26) r50 := q49_0
        replace q49_1 : ∀ rk : Nat → Int, MOK rk σ42 → LJZ (wM σ42) rk (σ42 88 26) r50 σ48 := q49_1
        have hFσ48 : tw_F (fun c j => (c = 88 ∧ (j = 19 ∨ j = 20 ∨ j = 21 ∨ j = 22 ∨ j = 23 ∨ j = 24 ∨ j = 25 ∨ j = 26 ∨ j = 27)) ∨ (c = 89 ∧ 300 ≤ j)) σ σ48 := tw_F_tr hFσ42 hGσ48 (fun c j q => (show (c = 88 ∧ (j = 19 ∨ j = 20 ∨ j = 21 ∨ j = 22 ∨ j = 23 ∨ j = 24 ∨ j = 25 ∨ j = 26 ∨ j = 27)) ∨ (c = 89 ∧ 300 ≤ j) from by replace q : (c = 89 ∧ 300 ≤ j) := q; exact (Or.inr q)))
        refine j_st (st' := [vI r50]) rfl ?_
        refine j_pop (pc := 50) dX12_plan_50 rfl ?_
        refine j_iload_n (pc := 51) dX12_plan_51 rfl rfl ?_
        refine j_ifR_ne (pc := 52) (tgt := 62) ⟨by omega, by omega⟩ dX12_plan_52 rfl (fun h51 => ?_) (fun h51 => ?_)
        · refine j_iload_n (pc := 62) dX12_plan_62 rfl rfl ?_
          refine j_iconst (pc := 63) dX12_plan_63 ?_
          refine j_icmpR_ne (pc := 64) (tgt := 77) ⟨by omega, by omega⟩ ⟨by omega, by omega⟩ dX12_plan_64 rfl (fun h52 => ?_) (fun h52 => ?_)
          · refine j_iload_n (pc := 77) dX12_plan_77 rfl rfl ?_
            refine j_bipush (pc := 78) dX12_plan_78 rfl ?_
            refine j_isub (pc := 80) dX12_plan_80 ?_
            refine j_top (fun z53 ez53 hz53 => ?_)
            have gz53 : w - 10 < -2147483648 ∨ 2147483647 < w - 10 ∨ z53 = w - 10 := by rw [ez53]; exact w32_or _
            refine j_aload_n (pc := 81) dX12_plan_81 rfl rfl ?_
            refine j_getI (pc := 82) fl_X12_292 dX12_plan_82 (a_88 hM) rfl ?_
            refine j_topV (show σ48 88 26 = σ42 88 26 from (hGσ48 88 26 (show ¬ ((88 = 89 ∧ 300 ≤ 26)) from by decide))) ?_
            refine j_callS (pc := 85) (As := [vI (σ42 88 26)]) (st := [vI z53]) (c_X12_countOf (σ42 88 26) ⟨by omega, by omega⟩ σ48 hIσ48) ms_X12_304 rfl dX12_plan_85 ⟨Nat.le_of_ble_eq_true rfl, Nat.le_of_ble_eq_true rfl⟩ ⟨Nat.le_refl _, Nat.le_refl _⟩ rfl (Nat.le_of_ble_eq_true rfl) rfl (fun z54 σ55 hz54 => ?_)
            obtain ⟨r57, rfl, hr57, rfl, q56_0⟩ := hz54
            replace q56_0 : r57 = mPop (σ42 88 26) 12 := q56_0
            refine j_st (st' := [vI r57, vI z53]) rfl ?_
            refine j_icmpR_ge (pc := 88) (tgt := 105) ⟨by omega, by omega⟩ ⟨by omega, by omega⟩ dX12_plan_88 rfl (fun h58 => ?_) (fun h58 => ?_)
            · refine j_iconst (pc := 105) dX12_plan_105 ?_
              exact j_iret (pc := 106) ⟨rfl, rfl⟩ dX12_plan_106 rfl ⟨_, rfl, ⟨by omega, by omega⟩, hIσ48, hFσ48, trivial⟩
            · refine j_aload_n (pc := 91) dX12_plan_91 rfl rfl ?_
              refine j_sipush (pc := 92) dX12_plan_92 rfl ?_
              refine j_iload_n (pc := 95) dX12_plan_95 rfl rfl ?_
              refine j_bipush (pc := 96) dX12_plan_96 rfl ?_
              refine j_isub (pc := 98) dX12_plan_98 ?_
              refine j_top (fun z59 ez59 hz59 => ?_)
              have gz59 : w - 10 < -2147483648 ∨ 2147483647 < w - 10 ∨ z59 = w - 10 := by rw [ez59]; exact w32_or _
              refine j_callV (pc := 99) (As := [vI 300, vI z59]) (st := []) (c_X12_footOf hM 300 (by (first | decide | exact ⟨by omega, by omega⟩)) z59 ⟨by omega, by omega⟩ σ48 hIσ48 (by have e9 := PLAN_foot (σ := σ) q43_0 (by omega) q49_0 (mK_congr (fun j => p92 j) p91) (mLay_congr (fun j hj => p89 j hj) (fun j => p92 j) p91 (hI 91 0).2 _); rw [e9]; omega)) mv_X12_198 rfl rfl rfl (a_88 hM) dX12_plan_99 ⟨Nat.le_of_ble_eq_true rfl, Nat.le_of_ble_eq_true rfl⟩ ⟨Nat.le_refl _, Nat.le_refl _⟩ rfl (Nat.le_of_ble_eq_true rfl) rfl (fun z60 σ61 hz60 => ?_)
              obtain ⟨r63, rfl, hr63, rfl, q62_0, q62_1, q62_2⟩ := hz60
              replace q62_0 : r63 ≤ σ48 91 0 := q62_0
              have y64 : σ48 91 0 = σ 91 0 := ((hGσ48 91 0 (show ¬ ((91 = 89 ∧ 300 ≤ 0)) from by decide))).trans (hGσ42 91 0 (show ¬ ((91 = 88 ∧ (0 = 19 ∨ 0 = 20 ∨ 0 = 21 ∨ 0 = 22 ∨ 0 = 23 ∨ 0 = 24 ∨ 0 = 25 ∨ 0 = 26 ∨ 0 = 27)) ∨ (91 = 89 ∧ 300 ≤ 0)) from by decide))
              have f65 : (1 : Int) ≤ σ 91 0 ∧ σ 91 0 ≤ 40 := hI 91 0
              replace q62_1 : 0 < σ48 89 ((300 : Int) + r63).toNat := q62_1
              replace q62_2 : mc σ48 (300 : Int) r63.toNat = z59 + 1 := q62_2
              refine j_st (st' := [vI r63]) rfl ?_
              refine j_goto (pc := 102) (tgt := 106) dX12_plan_102 rfl ?_
              exact j_iret (pc := 106) ⟨rfl, rfl⟩ dX12_plan_106 rfl ⟨_, rfl, ⟨by omega, by omega⟩, hIσ48, hFσ48, trivial⟩
          · refine j_aload_n (pc := 67) dX12_plan_67 rfl rfl ?_
            refine j_getI (pc := 68) fl_X12_292 dX12_plan_68 (a_88 hM) rfl ?_
            refine j_topV (show σ48 88 26 = σ42 88 26 from (hGσ48 88 26 (show ¬ ((88 = 89 ∧ 300 ≤ 26)) from by decide))) ?_
            refine j_callS (pc := 71) (As := [vI (σ42 88 26)]) (st := []) (c_X12_countOf (σ42 88 26) ⟨by omega, by omega⟩ σ48 hIσ48) ms_X12_304 rfl dX12_plan_71 ⟨Nat.le_of_ble_eq_true rfl, Nat.le_of_ble_eq_true rfl⟩ ⟨Nat.le_refl _, Nat.le_refl _⟩ rfl (Nat.le_of_ble_eq_true rfl) rfl (fun z66 σ67 hz66 => ?_)
            obtain ⟨r69, rfl, hr69, rfl, q68_0⟩ := hz66
            replace q68_0 : r69 = mPop (σ42 88 26) 12 := q68_0
            refine j_st (st' := [vI r69]) rfl ?_
            refine j_goto (pc := 74) (tgt := 106) dX12_plan_74 rfl ?_
            exact j_iret (pc := 106) ⟨rfl, rfl⟩ dX12_plan_106 rfl ⟨_, rfl, ⟨by omega, by omega⟩, hIσ48, hFσ48, trivial⟩
        · refine j_aload_n (pc := 55) dX12_plan_55 rfl rfl ?_
          refine j_getI (pc := 56) fl_X12_295 dX12_plan_56 (a_88 hM) rfl ?_
          refine j_topV (show σ48 88 27 = σ42 88 27 from (hGσ48 88 27 (show ¬ ((88 = 89 ∧ 300 ≤ 27)) from by decide))) ?_
          have f70 : (-2147483648 : Int) ≤ σ42 88 27 ∧ σ42 88 27 ≤ 2147483647 := hIσ42 88 27
          refine j_goto (pc := 59) (tgt := 106) dX12_plan_59 rfl ?_
          exact j_iret (pc := 106) ⟨rfl, rfl⟩ dX12_plan_106 rfl ⟨_, rfl, ⟨by omega, by omega⟩, hIσ48, hFσ48, trivial⟩
      · refine j_bipush (pc := 39) dX12_plan_39 rfl ?_
        exact j_iret (pc := 41) ⟨rfl, rfl⟩ dX12_plan_41 rfl ⟨_, rfl, ⟨by omega, by omega⟩, hIσ42, hFσ42, trivial⟩
    · refine j_iconst (pc := 24) dX12_plan_24 ?_
      exact j_iret (pc := 25) ⟨rfl, rfl⟩ dX12_plan_25 rfl ⟨_, rfl, ⟨by omega, by omega⟩, hI, (tw_F_rf), trivial⟩
