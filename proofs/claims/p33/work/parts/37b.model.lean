/-! 37b.model -/
theorem dX12_text_0 : decode cX12_text 0 = .ok (.iconst 0, 1) := by decide +kernel
theorem dX12_text_1 : decode cX12_text 1 = .ok (.istore_n 1, 1) := by decide +kernel
theorem dX12_text_2 : decode cX12_text 2 = .ok (.aload_n 0, 1) := by decide +kernel
theorem dX12_text_3 : decode cX12_text 3 = .ok (.iconst 0, 1) := by decide +kernel
theorem dX12_text_4 : decode cX12_text 4 = .ok (.putfield 91, 3) := by decide +kernel
theorem dX12_text_7 : decode cX12_text 7 = .ok (.aload_n 0, 1) := by decide +kernel
theorem dX12_text_8 : decode cX12_text 8 = .ok (.iconst 0, 1) := by decide +kernel
theorem dX12_text_9 : decode cX12_text 9 = .ok (.putfield 100, 3) := by decide +kernel
theorem dX12_text_12 : decode cX12_text 12 = .ok (.aload_n 0, 1) := by decide +kernel
theorem dX12_text_13 : decode cX12_text 13 = .ok (.invokevirtual 65, 3) := by decide +kernel
theorem dX12_text_16 : decode cX12_text 16 = .ok (.aload_n 0, 1) := by decide +kernel
theorem dX12_text_17 : decode cX12_text 17 = .ok (.invokevirtual 137, 3) := by decide +kernel
theorem dX12_text_20 : decode cX12_text 20 = .ok (.aload_n 0, 1) := by decide +kernel
theorem dX12_text_21 : decode cX12_text 21 = .ok (.getfield 91, 3) := by decide +kernel
theorem dX12_text_24 : decode cX12_text 24 = .ok (.ifCond .ne 20, 3) := by decide +kernel
theorem dX12_text_27 : decode cX12_text 27 = .ok (.aload_n 0, 1) := by decide +kernel
theorem dX12_text_28 : decode cX12_text 28 = .ok (.getfield 115, 3) := by decide +kernel
theorem dX12_text_31 : decode cX12_text 31 = .ok (.ifCond .eq 13, 3) := by decide +kernel
theorem dX12_text_34 : decode cX12_text 34 = .ok (.aload_n 0, 1) := by decide +kernel
theorem dX12_text_35 : decode cX12_text 35 = .ok (.invokevirtual 161, 3) := by decide +kernel
theorem dX12_text_38 : decode cX12_text 38 = .ok (.iinc 1 1, 3) := by decide +kernel
theorem dX12_text_41 : decode cX12_text 41 = .ok (.goto (-21), 3) := by decide +kernel
theorem dX12_text_44 : decode cX12_text 44 = .ok (.aload_n 0, 1) := by decide +kernel
theorem dX12_text_45 : decode cX12_text 45 = .ok (.aload_n 0, 1) := by decide +kernel
theorem dX12_text_46 : decode cX12_text 46 = .ok (.getfield 75, 3) := by decide +kernel
theorem dX12_text_49 : decode cX12_text 49 = .ok (.aload_n 0, 1) := by decide +kernel
theorem dX12_text_50 : decode cX12_text 50 = .ok (.getfield 23, 3) := by decide +kernel
theorem dX12_text_53 : decode cX12_text 53 = .ok (.iconst 0, 1) := by decide +kernel
theorem dX12_text_54 : decode cX12_text 54 = .ok (.iaload, 1) := by decide +kernel
theorem dX12_text_55 : decode cX12_text 55 = .ok (.if_icmp .gt 7, 3) := by decide +kernel
theorem dX12_text_58 : decode cX12_text 58 = .ok (.iconst 1, 1) := by decide +kernel
theorem dX12_text_59 : decode cX12_text 59 = .ok (.goto 4, 3) := by decide +kernel
theorem dX12_text_62 : decode cX12_text 62 = .ok (.iconst 0, 1) := by decide +kernel
theorem dX12_text_63 : decode cX12_text 63 = .ok (.iconst 5, 1) := by decide +kernel
theorem dX12_text_64 : decode cX12_text 64 = .ok (.invokevirtual 129, 3) := by decide +kernel
theorem dX12_text_67 : decode cX12_text 67 = .ok (.aload_n 0, 1) := by decide +kernel
theorem dX12_text_68 : decode cX12_text 68 = .ok (.iconst 0, 1) := by decide +kernel
theorem dX12_text_69 : decode cX12_text 69 = .ok (.putfield 86, 3) := by decide +kernel
theorem dX12_text_72 : decode cX12_text 72 = .ok (.aload_n 0, 1) := by decide +kernel
theorem dX12_text_73 : decode cX12_text 73 = .ok (.getfield 91, 3) := by decide +kernel
theorem dX12_text_76 : decode cX12_text 76 = .ok (.ifCond .le 11, 3) := by decide +kernel
theorem dX12_text_79 : decode cX12_text 79 = .ok (.bipush (-10), 2) := by decide +kernel
theorem dX12_text_81 : decode cX12_text 81 = .ok (.aload_n 0, 1) := by decide +kernel
theorem dX12_text_82 : decode cX12_text 82 = .ok (.getfield 97, 3) := by decide +kernel
theorem dX12_text_85 : decode cX12_text 85 = .ok (.isub, 1) := by decide +kernel
theorem dX12_text_86 : decode cX12_text 86 = .ok (.ireturn, 1) := by decide +kernel
theorem dX12_text_87 : decode cX12_text 87 = .ok (.aload_n 0, 1) := by decide +kernel
theorem dX12_text_88 : decode cX12_text 88 = .ok (.invokevirtual 68, 3) := by decide +kernel
theorem dX12_text_91 : decode cX12_text 91 = .ok (.iload_n 1, 1) := by decide +kernel
theorem dX12_text_92 : decode cX12_text 92 = .ok (.ireturn, 1) := by decide +kernel
abbrev q_X12_text  (σ : tw_M) : Option tw_V → tw_M → Prop := fun z τ => ∃ r : Int, z = some (vI r) ∧ (-2147483648 ≤ r ∧ r ≤ 2147483647) ∧ tw_I τ ∧ tw_F (fun c j => (c = 88 ∧ (j = 9 ∨ j = 10 ∨ j = 12 ∨ j = 13 ∨ j = 14 ∨ j = 15 ∨ j = 16 ∨ j = 17 ∨ j = 18)) ∨ (c = 89 ∧ j < 100) ∨ (90 ≤ c ∧ c < 98)) σ τ ∧ (mI τ) ∧ (τ 88 12 = 0) ∧ (r = txt (parse (fM σ))) ∧ (τ 88 17 = (parse (fM σ)).1 4) ∧ ((τ 88 17 = 0 ∧ τ 90 0 = 0 ∧ τ 90 1 = 0) ∨ (¬ τ 88 17 = 0 ∧ τ 90 0 = σ 90 0 ∧ τ 90 1 = σ 90 1))
set_option maxHeartbeats 4000000 in
set_option maxRecDepth 100000 in
theorem l_X12_text {G : tw_G} (hM : tw_isM G) (σ : tw_M) (hI : tw_I σ) (hq0 : mI σ) (hq1 : FB (fM σ)) : ∀ N_ : Nat, (∀ (m : Int) (hm : 0 ≤ m ∧ m ≤ 401) (τ : tw_M) (hIτ : tw_I τ) (hFτ : tw_F (fun c j => (c = 88 ∧ (j = 9 ∨ j = 10 ∨ j = 12 ∨ j = 13 ∨ j = 14 ∨ j = 15 ∨ j = 16 ∨ j = 17 ∨ j = 18)) ∨ (c = 89 ∧ j < 100) ∨ (90 ≤ c ∧ c < 98)) σ τ) (i0 : DQ τ) (i1 : mI τ) (i2 : m ≤ τ 88 13 ∨ ((¬ τ 88 17 = 0 ∨ τ 88 15 = 0) ∧ m ≤ τ 88 13 + 1)) (i3 : τ 88 12 = σ 88 12) (i4 : itK lstop (lstep (fM σ)) (500 - m).toNat (aM τ, m) = lns (fM σ)) (i5 : τ 90 0 = σ 90 0) (i6 : τ 90 1 = σ 90 1) (hm : (mTx (τ 88 17) (τ 88 15) (τ 88 13)).toNat < N_), tw_J G (tw_mt RX12 cX12_text 2 (some .int) 5) (tw_E G (q_X12_text σ)) 20 [(0, vR 88), (1, vI m)] [] τ) := by
  intro N_
  induction N_ with
  | zero => exact fun m hm τ hIτ hFτ i0 i1 i2 i3 i4 i5 i6 hm => absurd hm (Nat.not_lt_zero _)
  | succ N_ ih =>
    intro m hm τ hIτ hFτ i0 i1 i2 i3 i4 i5 i6 hm
    have m9 := i1.2.2.2.2
    have fx : fM τ = fM σ := fM_F i3 (fun j => hFτ 98 j (show ¬ ((98 = 88 ∧ (j = 9 ∨ j = 10 ∨ j = 12 ∨ j = 13 ∨ j = 14 ∨ j = 15 ∨ j = 16 ∨ j = 17 ∨ j = 18)) ∨ (98 = 89 ∧ j < 100) ∨ (90 ≤ 98 ∧ 98 < 98)) from by omega))
    refine j_aload_n (pc := 20) dX12_text_20 rfl rfl ?_
    refine j_getI (pc := 21) fl_X12_91 dX12_text_21 (a_88 hM) rfl ?_
    have f1 : (0 : Int) ≤ τ 88 17 ∧ τ 88 17 ≤ 5 := hIτ 88 17
    refine j_ifR_ne (pc := 24) (tgt := 44) ⟨by omega, by omega⟩ dX12_text_24 rfl (fun h2 => ?_) (fun h2 => ?_)
    · refine j_aload_n (pc := 44) dX12_text_44 rfl rfl ?_
      refine j_aload_n (pc := 45) dX12_text_45 rfl rfl ?_
      refine j_getI (pc := 46) fl_X12_75 dX12_text_46 (a_88 hM) rfl ?_
      have f3 : (0 : Int) ≤ τ 88 10 ∧ τ 88 10 ≤ 40 := hIτ 88 10
      refine j_aload_n (pc := 49) dX12_text_49 rfl rfl ?_
      refine j_getR (pc := 50) (r := 93) fl_X12_23 dX12_text_50 (a_88 hM) rfl ?_
      refine j_iconst (pc := 53) dX12_text_53 ?_
      refine j_iald (pc := 54) dX12_text_54 (a_93 hM) (by omega) (by omega) (by decide) ?_
      refine j_topV (show τ 93 (Int.toNat 0) = τ 93 0 from rfl) ?_
      have f4 : (-2147483648 : Int) ≤ τ 93 0 ∧ τ 93 0 ≤ 2147483647 := hIτ 93 0
      refine j_icmpR_gt (pc := 55) (tgt := 62) ⟨by omega, by omega⟩ ⟨by omega, by omega⟩ dX12_text_55 rfl (fun h5 => ?_) (fun h5 => ?_)
      · refine j_iconst (pc := 62) dX12_text_62 ?_
        refine j_iconst (pc := 63) dX12_text_63 ?_
        refine j_callV (pc := 64) (As := [vI 0, vI 5]) (st := []) (c_X12_needs hM 0 ⟨by omega, by omega⟩ 5 ⟨by omega, by omega⟩ τ hIτ) mv_X12_129 rfl rfl rfl (a_88 hM) dX12_text_64 ⟨Nat.le_of_ble_eq_true rfl, Nat.le_of_ble_eq_true rfl⟩ ⟨Nat.le_refl _, Nat.le_refl _⟩ rfl (Nat.le_of_ble_eq_true rfl) rfl (fun z6 σ7 hz6 => ?_)
        obtain ⟨rfl, hIσ7, hGσ7, q8_0, q8_1, q8_2⟩ := hz6
        replace q8_0 : (¬ (0 : Int) = 0 ∧ σ7 88 17 = τ 88 17) ∨ ((0 : Int) = 0 ∧ τ 88 17 = 0 ∧ σ7 88 17 = (5 : Int)) ∨ ((0 : Int) = 0 ∧ ¬ τ 88 17 = 0 ∧ σ7 88 17 = τ 88 17) := q8_0
        replace q8_1 : (¬ (0 : Int) = 0 ∧ σ7 88 17 = τ 88 17 ∧ σ7 88 18 = τ 88 18) ∨ ((0 : Int) = 0 ∧ τ 88 17 = 0 ∧ σ7 88 17 = (5 : Int) ∧ σ7 88 18 = τ 88 14) ∨ ((0 : Int) = 0 ∧ ¬ τ 88 17 = 0 ∧ σ7 88 17 = τ 88 17 ∧ σ7 88 18 = τ 88 18) := q8_1
        replace q8_2 : aM σ7 = need (decide (¬ (0 : Int) = 0)) (5 : Int) (aM τ) := q8_2
        have hFσ7 : tw_F (fun c j => (c = 88 ∧ (j = 9 ∨ j = 10 ∨ j = 12 ∨ j = 13 ∨ j = 14 ∨ j = 15 ∨ j = 16 ∨ j = 17 ∨ j = 18)) ∨ (c = 89 ∧ j < 100) ∨ (90 ≤ c ∧ c < 98)) σ σ7 := tw_F_tr hFτ hGσ7 (fun c j q => (show (c = 88 ∧ (j = 9 ∨ j = 10 ∨ j = 12 ∨ j = 13 ∨ j = 14 ∨ j = 15 ∨ j = 16 ∨ j = 17 ∨ j = 18)) ∨ (c = 89 ∧ j < 100) ∨ (90 ≤ c ∧ c < 98) from by replace q : (c = 88 ∧ (j = 17 ∨ j = 18)) := q; omega))
        refine j_st (st' := []) rfl ?_
        have pm := parse_M i4 (by omega) ((q8_2).trans (need_cg (g' := decide (τ 88 10 ≤ τ 93 0)) (fun _ => by first | exact (decide_eq_true (by omega)).trans (decide_eq_true (by omega)).symm | exact (decide_eq_false (by omega)).trans (decide_eq_false (by omega)).symm)))
        refine j_aload_n (pc := 67) dX12_text_67 rfl rfl ?_
        refine j_iconst (pc := 68) dX12_text_68 ?_
        refine j_putI (pc := 69) fl_X12_86 fp_X12_12 dX12_text_69 (a_88 hM) rfl (j_nm (fun σ10 (eσ10 : σ10 = tw_up σ7 88 12 0) => ?_))
        have hIσ10 : tw_I σ10 := tw_I_up hIσ7 eσ10 (show (0 : Int) ≤ 0 ∧ 0 ≤ 400 from ⟨by omega, by omega⟩)
        have hFσ10 : tw_F (fun c j => (c = 88 ∧ (j = 9 ∨ j = 10 ∨ j = 12 ∨ j = 13 ∨ j = 14 ∨ j = 15 ∨ j = 16 ∨ j = 17 ∨ j = 18)) ∨ (c = 89 ∧ j < 100) ∨ (90 ≤ c ∧ c < 98)) σ σ10 := tw_F_up hFσ7 eσ10 (show (88 = 88 ∧ (12 = 9 ∨ 12 = 10 ∨ 12 = 12 ∨ 12 = 13 ∨ 12 = 14 ∨ 12 = 15 ∨ 12 = 16 ∨ 12 = 17 ∨ 12 = 18)) ∨ (88 = 89 ∧ 12 < 100) ∨ (90 ≤ 88 ∧ 88 < 98) from by omega)
        refine j_aload_n (pc := 72) dX12_text_72 rfl rfl ?_
        refine j_getI (pc := 73) fl_X12_91 dX12_text_73 (a_88 hM) rfl ?_
        refine j_topV (show σ10 88 17 = σ7 88 17 from (tw_ne1 eσ10 (by omega))) ?_
        have f11 : (0 : Int) ≤ σ7 88 17 ∧ σ7 88 17 ≤ 5 := hIσ7 88 17
        refine j_ifR_le (pc := 76) (tgt := 87) ⟨by omega, by omega⟩ dX12_text_76 rfl (fun h12 => ?_) (fun h12 => ?_)
        · have z9 : σ10 88 17 = 0 := ((tw_ne1 eσ10 (by omega))).trans (by omega)
          refine j_aload_n (pc := 87) dX12_text_87 rfl rfl ?_
          have y13 : σ10 89 193 = τ 89 193 := ((tw_ne1 eσ10 (by omega))).trans (hGσ7 89 193 (show ¬ ((89 = 88 ∧ (193 = 17 ∨ 193 = 18))) from by omega))
          have f14 : (0 : Int) ≤ τ 89 193 ∧ τ 89 193 ≤ 999 := hIτ 89 193
          have y15 : σ10 89 195 = τ 89 195 := ((tw_ne1 eσ10 (by omega))).trans (hGσ7 89 195 (show ¬ ((89 = 88 ∧ (195 = 17 ∨ 195 = 18))) from by omega))
          have f16 : (0 : Int) ≤ τ 89 195 ∧ τ 89 195 ≤ 999 := hIτ 89 195
          have y17 : σ10 89 293 = τ 89 293 := ((tw_ne1 eσ10 (by omega))).trans (hGσ7 89 293 (show ¬ ((89 = 88 ∧ (293 = 17 ∨ 293 = 18))) from by omega))
          have f18 : (0 : Int) ≤ τ 89 293 ∧ τ 89 293 ≤ 999 := hIτ 89 293
          have y19 : σ10 89 295 = τ 89 295 := ((tw_ne1 eσ10 (by omega))).trans (hGσ7 89 295 (show ¬ ((89 = 88 ∧ (295 = 17 ∨ 295 = 18))) from by omega))
          have f20 : (0 : Int) ≤ τ 89 295 ∧ τ 89 295 ≤ 999 := hIτ 89 295
          refine j_callV (pc := 88) (As := []) (st := []) (c_X12_keepDraft hM σ10 hIσ10 (DQ_dr (DQ_F i0 (fun j => ((tw_ne1 eσ10 (by omega))).trans (hGσ7 93 j (show ¬ ((93 = 88 ∧ (j = 17 ∨ j = 18))) from by omega))) (fun j => ((tw_ne1 eσ10 (by omega))).trans (hGσ7 94 j (show ¬ ((94 = 88 ∧ (j = 17 ∨ j = 18))) from by omega))) (by omega)) (by omega)) (by omega) (by omega)) mv_X12_68 rfl rfl rfl (a_88 hM) dX12_text_88 ⟨Nat.le_of_ble_eq_true rfl, Nat.le_of_ble_eq_true rfl⟩ ⟨Nat.le_refl _, Nat.le_refl _⟩ rfl (Nat.le_of_ble_eq_true rfl) rfl (fun z21 σ22 hz21 => ?_)
          obtain ⟨rfl, hIσ22, hGσ22, q23_0, q23_1, q23_2⟩ := hz21
          replace q23_0 : mI σ22 := q23_0
          replace q23_1 : σ22 90 0 = 0 := q23_1
          replace q23_2 : σ22 90 1 = 0 := q23_2
          have hFσ22 : tw_F (fun c j => (c = 88 ∧ (j = 9 ∨ j = 10 ∨ j = 12 ∨ j = 13 ∨ j = 14 ∨ j = 15 ∨ j = 16 ∨ j = 17 ∨ j = 18)) ∨ (c = 89 ∧ j < 100) ∨ (90 ≤ c ∧ c < 98)) σ σ22 := tw_F_tr hFσ10 hGσ22 (fun c j q => (show (c = 88 ∧ (j = 9 ∨ j = 10 ∨ j = 12 ∨ j = 13 ∨ j = 14 ∨ j = 15 ∨ j = 16 ∨ j = 17 ∨ j = 18)) ∨ (c = 89 ∧ j < 100) ∨ (90 ≤ c ∧ c < 98) from by replace q : (c = 89 ∧ j < 100) ∨ (90 ≤ c ∧ c < 93) := q; omega))
          refine j_st (st' := []) rfl ?_
          refine j_iload_n (pc := 91) dX12_text_91 rfl rfl ?_
          have y25 : σ22 88 12 = 0 := ((hGσ22 88 12 (show ¬ ((88 = 89 ∧ 12 < 100) ∨ (90 ≤ 88 ∧ 88 < 93)) from by omega))).trans (tw_eq1 eσ10)
          have y26 : σ22 88 17 = σ7 88 17 := ((hGσ22 88 17 (show ¬ ((88 = 89 ∧ 17 < 100) ∨ (90 ≤ 88 ∧ 88 < 93)) from by omega))).trans (tw_ne1 eσ10 (by omega))
          have y27 : σ22 88 17 = σ7 88 17 := ((hGσ22 88 17 (show ¬ ((88 = 89 ∧ 17 < 100) ∨ (90 ≤ 88 ∧ 88 < 93)) from by omega))).trans (tw_ne1 eσ10 (by omega))
          exact j_iret (pc := 92) ⟨rfl, rfl⟩ dX12_text_92 rfl ⟨_, rfl, ⟨by omega, by omega⟩, hIσ22, hFσ22, (by first | exact q23_0 | exact mI_kept i1 (fun j hj => rfl) (fun j => rfl) (rfl) hIτ), by omega, (by rw [← pm]; first | exact (mtxt_f (by omega)).symm | exact (mtxt_t (by omega)).symm | (rw [mtxt_f (by omega)]; omega) | (rw [mtxt_t (by omega)]; omega)), (by rw [← pm]; show _ = (aM _) 4; rw [aM_4]; omega), by omega⟩
        · refine j_bipush (pc := 79) dX12_text_79 rfl ?_
          refine j_aload_n (pc := 81) dX12_text_81 rfl rfl ?_
          refine j_getI (pc := 82) fl_X12_97 dX12_text_82 (a_88 hM) rfl ?_
          refine j_topV (show σ10 88 18 = σ7 88 18 from (tw_ne1 eσ10 (by omega))) ?_
          have f28 : (0 : Int) ≤ σ7 88 18 ∧ σ7 88 18 ≤ 400 := hIσ7 88 18
          refine j_isub (pc := 85) dX12_text_85 ?_
          have y29 : σ10 88 12 = 0 := (tw_eq1 eσ10)
          have y30 : σ10 88 17 = σ7 88 17 := (tw_ne1 eσ10 (by omega))
          have y31 : σ10 88 17 = σ7 88 17 := (tw_ne1 eσ10 (by omega))
          have y32 : σ10 90 0 = τ 90 0 := ((tw_ne1 eσ10 (by omega))).trans (hGσ7 90 0 (show ¬ ((90 = 88 ∧ (0 = 17 ∨ 0 = 18))) from by omega))
          have f33 : (0 : Int) ≤ τ 90 0 ∧ τ 90 0 ≤ 1 := hIτ 90 0
          have y34 : σ10 90 1 = τ 90 1 := ((tw_ne1 eσ10 (by omega))).trans (hGσ7 90 1 (show ¬ ((90 = 88 ∧ (1 = 17 ∨ 1 = 18))) from by omega))
          have f35 : (0 : Int) ≤ τ 90 1 ∧ τ 90 1 ≤ 1 := hIτ 90 1
          exact j_iret (pc := 86) ⟨rfl, rfl⟩ dX12_text_86 rfl ⟨_, rfl, ⟨by omega, by omega⟩, hIσ10, hFσ10, (by first | exact q8_0 | exact mI_kept i1 (fun j hj => ((tw_ne1 eσ10 (by omega))).trans (hGσ7 89 j (show ¬ ((89 = 88 ∧ (j = 17 ∨ j = 18))) from by omega))) (fun j => ((tw_ne1 eσ10 (by omega))).trans (hGσ7 90 j (show ¬ ((90 = 88 ∧ (j = 17 ∨ j = 18))) from by omega))) (((tw_ne1 eσ10 (by omega))).trans (hGσ7 91 0 (show ¬ ((91 = 88 ∧ (0 = 17 ∨ 0 = 18))) from by omega))) hIτ), by omega, (by rw [← pm]; first | exact (mtxt_f (by omega)).symm | exact (mtxt_t (by omega)).symm | (rw [mtxt_f (by omega)]; omega) | (rw [mtxt_t (by omega)]; omega)), (by rw [← pm]; show _ = (aM _) 4; rw [aM_4]; omega), by omega⟩
      · refine j_iconst (pc := 58) dX12_text_58 ?_
        refine j_goto (pc := 59) (tgt := 63) dX12_text_59 rfl ?_
        refine j_iconst (pc := 63) dX12_text_63 ?_
        refine j_callV (pc := 64) (As := [vI 1, vI 5]) (st := []) (c_X12_needs hM 1 ⟨by omega, by omega⟩ 5 ⟨by omega, by omega⟩ τ hIτ) mv_X12_129 rfl rfl rfl (a_88 hM) dX12_text_64 ⟨Nat.le_of_ble_eq_true rfl, Nat.le_of_ble_eq_true rfl⟩ ⟨Nat.le_refl _, Nat.le_refl _⟩ rfl (Nat.le_of_ble_eq_true rfl) rfl (fun z36 σ37 hz36 => ?_)
        obtain ⟨rfl, hIσ37, hGσ37, q38_0, q38_1, q38_2⟩ := hz36
        replace q38_0 : (¬ (1 : Int) = 0 ∧ σ37 88 17 = τ 88 17) ∨ ((1 : Int) = 0 ∧ τ 88 17 = 0 ∧ σ37 88 17 = (5 : Int)) ∨ ((1 : Int) = 0 ∧ ¬ τ 88 17 = 0 ∧ σ37 88 17 = τ 88 17) := q38_0
        replace q38_1 : (¬ (1 : Int) = 0 ∧ σ37 88 17 = τ 88 17 ∧ σ37 88 18 = τ 88 18) ∨ ((1 : Int) = 0 ∧ τ 88 17 = 0 ∧ σ37 88 17 = (5 : Int) ∧ σ37 88 18 = τ 88 14) ∨ ((1 : Int) = 0 ∧ ¬ τ 88 17 = 0 ∧ σ37 88 17 = τ 88 17 ∧ σ37 88 18 = τ 88 18) := q38_1
        replace q38_2 : aM σ37 = need (decide (¬ (1 : Int) = 0)) (5 : Int) (aM τ) := q38_2
        have hFσ37 : tw_F (fun c j => (c = 88 ∧ (j = 9 ∨ j = 10 ∨ j = 12 ∨ j = 13 ∨ j = 14 ∨ j = 15 ∨ j = 16 ∨ j = 17 ∨ j = 18)) ∨ (c = 89 ∧ j < 100) ∨ (90 ≤ c ∧ c < 98)) σ σ37 := tw_F_tr hFτ hGσ37 (fun c j q => (show (c = 88 ∧ (j = 9 ∨ j = 10 ∨ j = 12 ∨ j = 13 ∨ j = 14 ∨ j = 15 ∨ j = 16 ∨ j = 17 ∨ j = 18)) ∨ (c = 89 ∧ j < 100) ∨ (90 ≤ c ∧ c < 98) from by replace q : (c = 88 ∧ (j = 17 ∨ j = 18)) := q; omega))
        refine j_st (st' := []) rfl ?_
        have pm := parse_M i4 (by omega) ((q38_2).trans (need_cg (g' := decide (τ 88 10 ≤ τ 93 0)) (fun _ => by first | exact (decide_eq_true (by omega)).trans (decide_eq_true (by omega)).symm | exact (decide_eq_false (by omega)).trans (decide_eq_false (by omega)).symm)))
        refine j_aload_n (pc := 67) dX12_text_67 rfl rfl ?_
        refine j_iconst (pc := 68) dX12_text_68 ?_
        refine j_putI (pc := 69) fl_X12_86 fp_X12_12 dX12_text_69 (a_88 hM) rfl (j_nm (fun σ40 (eσ40 : σ40 = tw_up σ37 88 12 0) => ?_))
        have hIσ40 : tw_I σ40 := tw_I_up hIσ37 eσ40 (show (0 : Int) ≤ 0 ∧ 0 ≤ 400 from ⟨by omega, by omega⟩)
        have hFσ40 : tw_F (fun c j => (c = 88 ∧ (j = 9 ∨ j = 10 ∨ j = 12 ∨ j = 13 ∨ j = 14 ∨ j = 15 ∨ j = 16 ∨ j = 17 ∨ j = 18)) ∨ (c = 89 ∧ j < 100) ∨ (90 ≤ c ∧ c < 98)) σ σ40 := tw_F_up hFσ37 eσ40 (show (88 = 88 ∧ (12 = 9 ∨ 12 = 10 ∨ 12 = 12 ∨ 12 = 13 ∨ 12 = 14 ∨ 12 = 15 ∨ 12 = 16 ∨ 12 = 17 ∨ 12 = 18)) ∨ (88 = 89 ∧ 12 < 100) ∨ (90 ≤ 88 ∧ 88 < 98) from by omega)
        refine j_aload_n (pc := 72) dX12_text_72 rfl rfl ?_
        refine j_getI (pc := 73) fl_X12_91 dX12_text_73 (a_88 hM) rfl ?_
        refine j_topV (show σ40 88 17 = σ37 88 17 from (tw_ne1 eσ40 (by omega))) ?_
        have f41 : (0 : Int) ≤ σ37 88 17 ∧ σ37 88 17 ≤ 5 := hIσ37 88 17
        refine j_ifR_le (pc := 76) (tgt := 87) ⟨by omega, by omega⟩ dX12_text_76 rfl (fun h42 => ?_) (fun h42 => ?_)
        · have z9 : σ40 88 17 = 0 := ((tw_ne1 eσ40 (by omega))).trans (by omega)
          refine j_aload_n (pc := 87) dX12_text_87 rfl rfl ?_
          have y43 : σ40 89 193 = τ 89 193 := ((tw_ne1 eσ40 (by omega))).trans (hGσ37 89 193 (show ¬ ((89 = 88 ∧ (193 = 17 ∨ 193 = 18))) from by omega))
          have f44 : (0 : Int) ≤ τ 89 193 ∧ τ 89 193 ≤ 999 := hIτ 89 193
          have y45 : σ40 89 195 = τ 89 195 := ((tw_ne1 eσ40 (by omega))).trans (hGσ37 89 195 (show ¬ ((89 = 88 ∧ (195 = 17 ∨ 195 = 18))) from by omega))
          have f46 : (0 : Int) ≤ τ 89 195 ∧ τ 89 195 ≤ 999 := hIτ 89 195
          have y47 : σ40 89 293 = τ 89 293 := ((tw_ne1 eσ40 (by omega))).trans (hGσ37 89 293 (show ¬ ((89 = 88 ∧ (293 = 17 ∨ 293 = 18))) from by omega))
          have f48 : (0 : Int) ≤ τ 89 293 ∧ τ 89 293 ≤ 999 := hIτ 89 293
          have y49 : σ40 89 295 = τ 89 295 := ((tw_ne1 eσ40 (by omega))).trans (hGσ37 89 295 (show ¬ ((89 = 88 ∧ (295 = 17 ∨ 295 = 18))) from by omega))
          have f50 : (0 : Int) ≤ τ 89 295 ∧ τ 89 295 ≤ 999 := hIτ 89 295
          refine j_callV (pc := 88) (As := []) (st := []) (c_X12_keepDraft hM σ40 hIσ40 (DQ_dr (DQ_F i0 (fun j => ((tw_ne1 eσ40 (by omega))).trans (hGσ37 93 j (show ¬ ((93 = 88 ∧ (j = 17 ∨ j = 18))) from by omega))) (fun j => ((tw_ne1 eσ40 (by omega))).trans (hGσ37 94 j (show ¬ ((94 = 88 ∧ (j = 17 ∨ j = 18))) from by omega))) (by omega)) (by omega)) (by omega) (by omega)) mv_X12_68 rfl rfl rfl (a_88 hM) dX12_text_88 ⟨Nat.le_of_ble_eq_true rfl, Nat.le_of_ble_eq_true rfl⟩ ⟨Nat.le_refl _, Nat.le_refl _⟩ rfl (Nat.le_of_ble_eq_true rfl) rfl (fun z51 σ52 hz51 => ?_)
          obtain ⟨rfl, hIσ52, hGσ52, q53_0, q53_1, q53_2⟩ := hz51
          replace q53_0 : mI σ52 := q53_0
          replace q53_1 : σ52 90 0 = 0 := q53_1
          replace q53_2 : σ52 90 1 = 0 := q53_2
          have hFσ52 : tw_F (fun c j => (c = 88 ∧ (j = 9 ∨ j = 10 ∨ j = 12 ∨ j = 13 ∨ j = 14 ∨ j = 15 ∨ j = 16 ∨ j = 17 ∨ j = 18)) ∨ (c = 89 ∧ j < 100) ∨ (90 ≤ c ∧ c < 98)) σ σ52 := tw_F_tr hFσ40 hGσ52 (fun c j q => (show (c = 88 ∧ (j = 9 ∨ j = 10 ∨ j = 12 ∨ j = 13 ∨ j = 14 ∨ j = 15 ∨ j = 16 ∨ j = 17 ∨ j = 18)) ∨ (c = 89 ∧ j < 100) ∨ (90 ≤ c ∧ c < 98) from by replace q : (c = 89 ∧ j < 100) ∨ (90 ≤ c ∧ c < 93) := q; omega))
          refine j_st (st' := []) rfl ?_
          refine j_iload_n (pc := 91) dX12_text_91 rfl rfl ?_
          have y55 : σ52 88 12 = 0 := ((hGσ52 88 12 (show ¬ ((88 = 89 ∧ 12 < 100) ∨ (90 ≤ 88 ∧ 88 < 93)) from by omega))).trans (tw_eq1 eσ40)
          have y56 : σ52 88 17 = σ37 88 17 := ((hGσ52 88 17 (show ¬ ((88 = 89 ∧ 17 < 100) ∨ (90 ≤ 88 ∧ 88 < 93)) from by omega))).trans (tw_ne1 eσ40 (by omega))
          have y57 : σ52 88 17 = σ37 88 17 := ((hGσ52 88 17 (show ¬ ((88 = 89 ∧ 17 < 100) ∨ (90 ≤ 88 ∧ 88 < 93)) from by omega))).trans (tw_ne1 eσ40 (by omega))
          exact j_iret (pc := 92) ⟨rfl, rfl⟩ dX12_text_92 rfl ⟨_, rfl, ⟨by omega, by omega⟩, hIσ52, hFσ52, (by first | exact q53_0 | exact mI_kept i1 (fun j hj => rfl) (fun j => rfl) (rfl) hIτ), by omega, (by rw [← pm]; first | exact (mtxt_f (by omega)).symm | exact (mtxt_t (by omega)).symm | (rw [mtxt_f (by omega)]; omega) | (rw [mtxt_t (by omega)]; omega)), (by rw [← pm]; show _ = (aM _) 4; rw [aM_4]; omega), by omega⟩
        · refine j_bipush (pc := 79) dX12_text_79 rfl ?_
          refine j_aload_n (pc := 81) dX12_text_81 rfl rfl ?_
          refine j_getI (pc := 82) fl_X12_97 dX12_text_82 (a_88 hM) rfl ?_
          refine j_topV (show σ40 88 18 = σ37 88 18 from (tw_ne1 eσ40 (by omega))) ?_
          have f58 : (0 : Int) ≤ σ37 88 18 ∧ σ37 88 18 ≤ 400 := hIσ37 88 18
          refine j_isub (pc := 85) dX12_text_85 ?_
          have y59 : σ40 88 12 = 0 := (tw_eq1 eσ40)
          have y60 : σ40 88 17 = σ37 88 17 := (tw_ne1 eσ40 (by omega))
          have y61 : σ40 88 17 = σ37 88 17 := (tw_ne1 eσ40 (by omega))
          have y62 : σ40 90 0 = τ 90 0 := ((tw_ne1 eσ40 (by omega))).trans (hGσ37 90 0 (show ¬ ((90 = 88 ∧ (0 = 17 ∨ 0 = 18))) from by omega))
          have f63 : (0 : Int) ≤ τ 90 0 ∧ τ 90 0 ≤ 1 := hIτ 90 0
          have y64 : σ40 90 1 = τ 90 1 := ((tw_ne1 eσ40 (by omega))).trans (hGσ37 90 1 (show ¬ ((90 = 88 ∧ (1 = 17 ∨ 1 = 18))) from by omega))
          have f65 : (0 : Int) ≤ τ 90 1 ∧ τ 90 1 ≤ 1 := hIτ 90 1
          exact j_iret (pc := 86) ⟨rfl, rfl⟩ dX12_text_86 rfl ⟨_, rfl, ⟨by omega, by omega⟩, hIσ40, hFσ40, (by first | exact q38_0 | exact mI_kept i1 (fun j hj => ((tw_ne1 eσ40 (by omega))).trans (hGσ37 89 j (show ¬ ((89 = 88 ∧ (j = 17 ∨ j = 18))) from by omega))) (fun j => ((tw_ne1 eσ40 (by omega))).trans (hGσ37 90 j (show ¬ ((90 = 88 ∧ (j = 17 ∨ j = 18))) from by omega))) (((tw_ne1 eσ40 (by omega))).trans (hGσ37 91 0 (show ¬ ((91 = 88 ∧ (0 = 17 ∨ 0 = 18))) from by omega))) hIτ), by omega, (by rw [← pm]; first | exact (mtxt_f (by omega)).symm | exact (mtxt_t (by omega)).symm | (rw [mtxt_f (by omega)]; omega) | (rw [mtxt_t (by omega)]; omega)), (by rw [← pm]; show _ = (aM _) 4; rw [aM_4]; omega), by omega⟩
    · refine j_aload_n (pc := 27) dX12_text_27 rfl rfl ?_
      refine j_getI (pc := 28) fl_X12_115 dX12_text_28 (a_88 hM) rfl ?_
      have f66 : (-2147483648 : Int) ≤ τ 88 15 ∧ τ 88 15 ≤ 2147483647 := hIτ 88 15
      refine j_ifR_eq (pc := 31) (tgt := 44) ⟨by omega, by omega⟩ dX12_text_31 rfl (fun h67 => ?_) (fun h67 => ?_)
      · refine j_aload_n (pc := 44) dX12_text_44 rfl rfl ?_
        refine j_aload_n (pc := 45) dX12_text_45 rfl rfl ?_
        refine j_getI (pc := 46) fl_X12_75 dX12_text_46 (a_88 hM) rfl ?_
        have f68 : (0 : Int) ≤ τ 88 10 ∧ τ 88 10 ≤ 40 := hIτ 88 10
        refine j_aload_n (pc := 49) dX12_text_49 rfl rfl ?_
        refine j_getR (pc := 50) (r := 93) fl_X12_23 dX12_text_50 (a_88 hM) rfl ?_
        refine j_iconst (pc := 53) dX12_text_53 ?_
        refine j_iald (pc := 54) dX12_text_54 (a_93 hM) (by omega) (by omega) (by decide) ?_
        refine j_topV (show τ 93 (Int.toNat 0) = τ 93 0 from rfl) ?_
        have f69 : (-2147483648 : Int) ≤ τ 93 0 ∧ τ 93 0 ≤ 2147483647 := hIτ 93 0
        refine j_icmpR_gt (pc := 55) (tgt := 62) ⟨by omega, by omega⟩ ⟨by omega, by omega⟩ dX12_text_55 rfl (fun h70 => ?_) (fun h70 => ?_)
        · refine j_iconst (pc := 62) dX12_text_62 ?_
          refine j_iconst (pc := 63) dX12_text_63 ?_
          refine j_callV (pc := 64) (As := [vI 0, vI 5]) (st := []) (c_X12_needs hM 0 ⟨by omega, by omega⟩ 5 ⟨by omega, by omega⟩ τ hIτ) mv_X12_129 rfl rfl rfl (a_88 hM) dX12_text_64 ⟨Nat.le_of_ble_eq_true rfl, Nat.le_of_ble_eq_true rfl⟩ ⟨Nat.le_refl _, Nat.le_refl _⟩ rfl (Nat.le_of_ble_eq_true rfl) rfl (fun z71 σ72 hz71 => ?_)
          obtain ⟨rfl, hIσ72, hGσ72, q73_0, q73_1, q73_2⟩ := hz71
          replace q73_0 : (¬ (0 : Int) = 0 ∧ σ72 88 17 = τ 88 17) ∨ ((0 : Int) = 0 ∧ τ 88 17 = 0 ∧ σ72 88 17 = (5 : Int)) ∨ ((0 : Int) = 0 ∧ ¬ τ 88 17 = 0 ∧ σ72 88 17 = τ 88 17) := q73_0
          replace q73_1 : (¬ (0 : Int) = 0 ∧ σ72 88 17 = τ 88 17 ∧ σ72 88 18 = τ 88 18) ∨ ((0 : Int) = 0 ∧ τ 88 17 = 0 ∧ σ72 88 17 = (5 : Int) ∧ σ72 88 18 = τ 88 14) ∨ ((0 : Int) = 0 ∧ ¬ τ 88 17 = 0 ∧ σ72 88 17 = τ 88 17 ∧ σ72 88 18 = τ 88 18) := q73_1
          replace q73_2 : aM σ72 = need (decide (¬ (0 : Int) = 0)) (5 : Int) (aM τ) := q73_2
          have hFσ72 : tw_F (fun c j => (c = 88 ∧ (j = 9 ∨ j = 10 ∨ j = 12 ∨ j = 13 ∨ j = 14 ∨ j = 15 ∨ j = 16 ∨ j = 17 ∨ j = 18)) ∨ (c = 89 ∧ j < 100) ∨ (90 ≤ c ∧ c < 98)) σ σ72 := tw_F_tr hFτ hGσ72 (fun c j q => (show (c = 88 ∧ (j = 9 ∨ j = 10 ∨ j = 12 ∨ j = 13 ∨ j = 14 ∨ j = 15 ∨ j = 16 ∨ j = 17 ∨ j = 18)) ∨ (c = 89 ∧ j < 100) ∨ (90 ≤ c ∧ c < 98) from by replace q : (c = 88 ∧ (j = 17 ∨ j = 18)) := q; omega))
          refine j_st (st' := []) rfl ?_
          have pm := parse_M i4 (by omega) ((q73_2).trans (need_cg (g' := decide (τ 88 10 ≤ τ 93 0)) (fun _ => by first | exact (decide_eq_true (by omega)).trans (decide_eq_true (by omega)).symm | exact (decide_eq_false (by omega)).trans (decide_eq_false (by omega)).symm)))
          refine j_aload_n (pc := 67) dX12_text_67 rfl rfl ?_
          refine j_iconst (pc := 68) dX12_text_68 ?_
          refine j_putI (pc := 69) fl_X12_86 fp_X12_12 dX12_text_69 (a_88 hM) rfl (j_nm (fun σ75 (eσ75 : σ75 = tw_up σ72 88 12 0) => ?_))
          have hIσ75 : tw_I σ75 := tw_I_up hIσ72 eσ75 (show (0 : Int) ≤ 0 ∧ 0 ≤ 400 from ⟨by omega, by omega⟩)
          have hFσ75 : tw_F (fun c j => (c = 88 ∧ (j = 9 ∨ j = 10 ∨ j = 12 ∨ j = 13 ∨ j = 14 ∨ j = 15 ∨ j = 16 ∨ j = 17 ∨ j = 18)) ∨ (c = 89 ∧ j < 100) ∨ (90 ≤ c ∧ c < 98)) σ σ75 := tw_F_up hFσ72 eσ75 (show (88 = 88 ∧ (12 = 9 ∨ 12 = 10 ∨ 12 = 12 ∨ 12 = 13 ∨ 12 = 14 ∨ 12 = 15 ∨ 12 = 16 ∨ 12 = 17 ∨ 12 = 18)) ∨ (88 = 89 ∧ 12 < 100) ∨ (90 ≤ 88 ∧ 88 < 98) from by omega)
          refine j_aload_n (pc := 72) dX12_text_72 rfl rfl ?_
          refine j_getI (pc := 73) fl_X12_91 dX12_text_73 (a_88 hM) rfl ?_
          refine j_topV (show σ75 88 17 = σ72 88 17 from (tw_ne1 eσ75 (by omega))) ?_
          have f76 : (0 : Int) ≤ σ72 88 17 ∧ σ72 88 17 ≤ 5 := hIσ72 88 17
          refine j_ifR_le (pc := 76) (tgt := 87) ⟨by omega, by omega⟩ dX12_text_76 rfl (fun h77 => ?_) (fun h77 => ?_)
          · have z9 : σ75 88 17 = 0 := ((tw_ne1 eσ75 (by omega))).trans (by omega)
            refine j_aload_n (pc := 87) dX12_text_87 rfl rfl ?_
            have y78 : σ75 89 193 = τ 89 193 := ((tw_ne1 eσ75 (by omega))).trans (hGσ72 89 193 (show ¬ ((89 = 88 ∧ (193 = 17 ∨ 193 = 18))) from by omega))
            have f79 : (0 : Int) ≤ τ 89 193 ∧ τ 89 193 ≤ 999 := hIτ 89 193
            have y80 : σ75 89 195 = τ 89 195 := ((tw_ne1 eσ75 (by omega))).trans (hGσ72 89 195 (show ¬ ((89 = 88 ∧ (195 = 17 ∨ 195 = 18))) from by omega))
            have f81 : (0 : Int) ≤ τ 89 195 ∧ τ 89 195 ≤ 999 := hIτ 89 195
            have y82 : σ75 89 293 = τ 89 293 := ((tw_ne1 eσ75 (by omega))).trans (hGσ72 89 293 (show ¬ ((89 = 88 ∧ (293 = 17 ∨ 293 = 18))) from by omega))
            have f83 : (0 : Int) ≤ τ 89 293 ∧ τ 89 293 ≤ 999 := hIτ 89 293
            have y84 : σ75 89 295 = τ 89 295 := ((tw_ne1 eσ75 (by omega))).trans (hGσ72 89 295 (show ¬ ((89 = 88 ∧ (295 = 17 ∨ 295 = 18))) from by omega))
            have f85 : (0 : Int) ≤ τ 89 295 ∧ τ 89 295 ≤ 999 := hIτ 89 295
            refine j_callV (pc := 88) (As := []) (st := []) (c_X12_keepDraft hM σ75 hIσ75 (DQ_dr (DQ_F i0 (fun j => ((tw_ne1 eσ75 (by omega))).trans (hGσ72 93 j (show ¬ ((93 = 88 ∧ (j = 17 ∨ j = 18))) from by omega))) (fun j => ((tw_ne1 eσ75 (by omega))).trans (hGσ72 94 j (show ¬ ((94 = 88 ∧ (j = 17 ∨ j = 18))) from by omega))) (by omega)) (by omega)) (by omega) (by omega)) mv_X12_68 rfl rfl rfl (a_88 hM) dX12_text_88 ⟨Nat.le_of_ble_eq_true rfl, Nat.le_of_ble_eq_true rfl⟩ ⟨Nat.le_refl _, Nat.le_refl _⟩ rfl (Nat.le_of_ble_eq_true rfl) rfl (fun z86 σ87 hz86 => ?_)
            obtain ⟨rfl, hIσ87, hGσ87, q88_0, q88_1, q88_2⟩ := hz86
            replace q88_0 : mI σ87 := q88_0
            replace q88_1 : σ87 90 0 = 0 := q88_1
            replace q88_2 : σ87 90 1 = 0 := q88_2
            have hFσ87 : tw_F (fun c j => (c = 88 ∧ (j = 9 ∨ j = 10 ∨ j = 12 ∨ j = 13 ∨ j = 14 ∨ j = 15 ∨ j = 16 ∨ j = 17 ∨ j = 18)) ∨ (c = 89 ∧ j < 100) ∨ (90 ≤ c ∧ c < 98)) σ σ87 := tw_F_tr hFσ75 hGσ87 (fun c j q => (show (c = 88 ∧ (j = 9 ∨ j = 10 ∨ j = 12 ∨ j = 13 ∨ j = 14 ∨ j = 15 ∨ j = 16 ∨ j = 17 ∨ j = 18)) ∨ (c = 89 ∧ j < 100) ∨ (90 ≤ c ∧ c < 98) from by replace q : (c = 89 ∧ j < 100) ∨ (90 ≤ c ∧ c < 93) := q; omega))
            refine j_st (st' := []) rfl ?_
            refine j_iload_n (pc := 91) dX12_text_91 rfl rfl ?_
            have y90 : σ87 88 12 = 0 := ((hGσ87 88 12 (show ¬ ((88 = 89 ∧ 12 < 100) ∨ (90 ≤ 88 ∧ 88 < 93)) from by omega))).trans (tw_eq1 eσ75)
            have y91 : σ87 88 17 = σ72 88 17 := ((hGσ87 88 17 (show ¬ ((88 = 89 ∧ 17 < 100) ∨ (90 ≤ 88 ∧ 88 < 93)) from by omega))).trans (tw_ne1 eσ75 (by omega))
            have y92 : σ87 88 17 = σ72 88 17 := ((hGσ87 88 17 (show ¬ ((88 = 89 ∧ 17 < 100) ∨ (90 ≤ 88 ∧ 88 < 93)) from by omega))).trans (tw_ne1 eσ75 (by omega))
            exact j_iret (pc := 92) ⟨rfl, rfl⟩ dX12_text_92 rfl ⟨_, rfl, ⟨by omega, by omega⟩, hIσ87, hFσ87, (by first | exact q88_0 | exact mI_kept i1 (fun j hj => rfl) (fun j => rfl) (rfl) hIτ), by omega, (by rw [← pm]; first | exact (mtxt_f (by omega)).symm | exact (mtxt_t (by omega)).symm | (rw [mtxt_f (by omega)]; omega) | (rw [mtxt_t (by omega)]; omega)), (by rw [← pm]; show _ = (aM _) 4; rw [aM_4]; omega), by omega⟩
          · refine j_bipush (pc := 79) dX12_text_79 rfl ?_
            refine j_aload_n (pc := 81) dX12_text_81 rfl rfl ?_
            refine j_getI (pc := 82) fl_X12_97 dX12_text_82 (a_88 hM) rfl ?_
            refine j_topV (show σ75 88 18 = σ72 88 18 from (tw_ne1 eσ75 (by omega))) ?_
            have f93 : (0 : Int) ≤ σ72 88 18 ∧ σ72 88 18 ≤ 400 := hIσ72 88 18
            refine j_isub (pc := 85) dX12_text_85 ?_
            have y94 : σ75 88 12 = 0 := (tw_eq1 eσ75)
            have y95 : σ75 88 17 = σ72 88 17 := (tw_ne1 eσ75 (by omega))
            have y96 : σ75 88 17 = σ72 88 17 := (tw_ne1 eσ75 (by omega))
            have y97 : σ75 90 0 = τ 90 0 := ((tw_ne1 eσ75 (by omega))).trans (hGσ72 90 0 (show ¬ ((90 = 88 ∧ (0 = 17 ∨ 0 = 18))) from by omega))
            have f98 : (0 : Int) ≤ τ 90 0 ∧ τ 90 0 ≤ 1 := hIτ 90 0
            have y99 : σ75 90 1 = τ 90 1 := ((tw_ne1 eσ75 (by omega))).trans (hGσ72 90 1 (show ¬ ((90 = 88 ∧ (1 = 17 ∨ 1 = 18))) from by omega))
            have f100 : (0 : Int) ≤ τ 90 1 ∧ τ 90 1 ≤ 1 := hIτ 90 1
            exact j_iret (pc := 86) ⟨rfl, rfl⟩ dX12_text_86 rfl ⟨_, rfl, ⟨by omega, by omega⟩, hIσ75, hFσ75, (by first | exact q73_0 | exact mI_kept i1 (fun j hj => ((tw_ne1 eσ75 (by omega))).trans (hGσ72 89 j (show ¬ ((89 = 88 ∧ (j = 17 ∨ j = 18))) from by omega))) (fun j => ((tw_ne1 eσ75 (by omega))).trans (hGσ72 90 j (show ¬ ((90 = 88 ∧ (j = 17 ∨ j = 18))) from by omega))) (((tw_ne1 eσ75 (by omega))).trans (hGσ72 91 0 (show ¬ ((91 = 88 ∧ (0 = 17 ∨ 0 = 18))) from by omega))) hIτ), by omega, (by rw [← pm]; first | exact (mtxt_f (by omega)).symm | exact (mtxt_t (by omega)).symm | (rw [mtxt_f (by omega)]; omega) | (rw [mtxt_t (by omega)]; omega)), (by rw [← pm]; show _ = (aM _) 4; rw [aM_4]; omega), by omega⟩
        · refine j_iconst (pc := 58) dX12_text_58 ?_
          refine j_goto (pc := 59) (tgt := 63) dX12_text_59 rfl ?_
          refine j_iconst (pc := 63) dX12_text_63 ?_
          refine j_callV (pc := 64) (As := [vI 1, vI 5]) (st := []) (c_X12_needs hM 1 ⟨by omega, by omega⟩ 5 ⟨by omega, by omega⟩ τ hIτ) mv_X12_129 rfl rfl rfl (a_88 hM) dX12_text_64 ⟨Nat.le_of_ble_eq_true rfl, Nat.le_of_ble_eq_true rfl⟩ ⟨Nat.le_refl _, Nat.le_refl _⟩ rfl (Nat.le_of_ble_eq_true rfl) rfl (fun z101 σ102 hz101 => ?_)
          obtain ⟨rfl, hIσ102, hGσ102, q103_0, q103_1, q103_2⟩ := hz101
          replace q103_0 : (¬ (1 : Int) = 0 ∧ σ102 88 17 = τ 88 17) ∨ ((1 : Int) = 0 ∧ τ 88 17 = 0 ∧ σ102 88 17 = (5 : Int)) ∨ ((1 : Int) = 0 ∧ ¬ τ 88 17 = 0 ∧ σ102 88 17 = τ 88 17) := q103_0
          replace q103_1 : (¬ (1 : Int) = 0 ∧ σ102 88 17 = τ 88 17 ∧ σ102 88 18 = τ 88 18) ∨ ((1 : Int) = 0 ∧ τ 88 17 = 0 ∧ σ102 88 17 = (5 : Int) ∧ σ102 88 18 = τ 88 14) ∨ ((1 : Int) = 0 ∧ ¬ τ 88 17 = 0 ∧ σ102 88 17 = τ 88 17 ∧ σ102 88 18 = τ 88 18) := q103_1
          replace q103_2 : aM σ102 = need (decide (¬ (1 : Int) = 0)) (5 : Int) (aM τ) := q103_2
          have hFσ102 : tw_F (fun c j => (c = 88 ∧ (j = 9 ∨ j = 10 ∨ j = 12 ∨ j = 13 ∨ j = 14 ∨ j = 15 ∨ j = 16 ∨ j = 17 ∨ j = 18)) ∨ (c = 89 ∧ j < 100) ∨ (90 ≤ c ∧ c < 98)) σ σ102 := tw_F_tr hFτ hGσ102 (fun c j q => (show (c = 88 ∧ (j = 9 ∨ j = 10 ∨ j = 12 ∨ j = 13 ∨ j = 14 ∨ j = 15 ∨ j = 16 ∨ j = 17 ∨ j = 18)) ∨ (c = 89 ∧ j < 100) ∨ (90 ≤ c ∧ c < 98) from by replace q : (c = 88 ∧ (j = 17 ∨ j = 18)) := q; omega))
          refine j_st (st' := []) rfl ?_
          have pm := parse_M i4 (by omega) ((q103_2).trans (need_cg (g' := decide (τ 88 10 ≤ τ 93 0)) (fun _ => by first | exact (decide_eq_true (by omega)).trans (decide_eq_true (by omega)).symm | exact (decide_eq_false (by omega)).trans (decide_eq_false (by omega)).symm)))
          refine j_aload_n (pc := 67) dX12_text_67 rfl rfl ?_
          refine j_iconst (pc := 68) dX12_text_68 ?_
          refine j_putI (pc := 69) fl_X12_86 fp_X12_12 dX12_text_69 (a_88 hM) rfl (j_nm (fun σ105 (eσ105 : σ105 = tw_up σ102 88 12 0) => ?_))
          have hIσ105 : tw_I σ105 := tw_I_up hIσ102 eσ105 (show (0 : Int) ≤ 0 ∧ 0 ≤ 400 from ⟨by omega, by omega⟩)
          have hFσ105 : tw_F (fun c j => (c = 88 ∧ (j = 9 ∨ j = 10 ∨ j = 12 ∨ j = 13 ∨ j = 14 ∨ j = 15 ∨ j = 16 ∨ j = 17 ∨ j = 18)) ∨ (c = 89 ∧ j < 100) ∨ (90 ≤ c ∧ c < 98)) σ σ105 := tw_F_up hFσ102 eσ105 (show (88 = 88 ∧ (12 = 9 ∨ 12 = 10 ∨ 12 = 12 ∨ 12 = 13 ∨ 12 = 14 ∨ 12 = 15 ∨ 12 = 16 ∨ 12 = 17 ∨ 12 = 18)) ∨ (88 = 89 ∧ 12 < 100) ∨ (90 ≤ 88 ∧ 88 < 98) from by omega)
          refine j_aload_n (pc := 72) dX12_text_72 rfl rfl ?_
          refine j_getI (pc := 73) fl_X12_91 dX12_text_73 (a_88 hM) rfl ?_
          refine j_topV (show σ105 88 17 = σ102 88 17 from (tw_ne1 eσ105 (by omega))) ?_
          have f106 : (0 : Int) ≤ σ102 88 17 ∧ σ102 88 17 ≤ 5 := hIσ102 88 17
          refine j_ifR_le (pc := 76) (tgt := 87) ⟨by omega, by omega⟩ dX12_text_76 rfl (fun h107 => ?_) (fun h107 => ?_)
          · have z9 : σ105 88 17 = 0 := ((tw_ne1 eσ105 (by omega))).trans (by omega)
            refine j_aload_n (pc := 87) dX12_text_87 rfl rfl ?_
            have y108 : σ105 89 193 = τ 89 193 := ((tw_ne1 eσ105 (by omega))).trans (hGσ102 89 193 (show ¬ ((89 = 88 ∧ (193 = 17 ∨ 193 = 18))) from by omega))
            have f109 : (0 : Int) ≤ τ 89 193 ∧ τ 89 193 ≤ 999 := hIτ 89 193
            have y110 : σ105 89 195 = τ 89 195 := ((tw_ne1 eσ105 (by omega))).trans (hGσ102 89 195 (show ¬ ((89 = 88 ∧ (195 = 17 ∨ 195 = 18))) from by omega))
            have f111 : (0 : Int) ≤ τ 89 195 ∧ τ 89 195 ≤ 999 := hIτ 89 195
            have y112 : σ105 89 293 = τ 89 293 := ((tw_ne1 eσ105 (by omega))).trans (hGσ102 89 293 (show ¬ ((89 = 88 ∧ (293 = 17 ∨ 293 = 18))) from by omega))
            have f113 : (0 : Int) ≤ τ 89 293 ∧ τ 89 293 ≤ 999 := hIτ 89 293
            have y114 : σ105 89 295 = τ 89 295 := ((tw_ne1 eσ105 (by omega))).trans (hGσ102 89 295 (show ¬ ((89 = 88 ∧ (295 = 17 ∨ 295 = 18))) from by omega))
            have f115 : (0 : Int) ≤ τ 89 295 ∧ τ 89 295 ≤ 999 := hIτ 89 295
            refine j_callV (pc := 88) (As := []) (st := []) (c_X12_keepDraft hM σ105 hIσ105 (DQ_dr (DQ_F i0 (fun j => ((tw_ne1 eσ105 (by omega))).trans (hGσ102 93 j (show ¬ ((93 = 88 ∧ (j = 17 ∨ j = 18))) from by omega))) (fun j => ((tw_ne1 eσ105 (by omega))).trans (hGσ102 94 j (show ¬ ((94 = 88 ∧ (j = 17 ∨ j = 18))) from by omega))) (by omega)) (by omega)) (by omega) (by omega)) mv_X12_68 rfl rfl rfl (a_88 hM) dX12_text_88 ⟨Nat.le_of_ble_eq_true rfl, Nat.le_of_ble_eq_true rfl⟩ ⟨Nat.le_refl _, Nat.le_refl _⟩ rfl (Nat.le_of_ble_eq_true rfl) rfl (fun z116 σ117 hz116 => ?_)
            obtain ⟨rfl, hIσ117, hGσ117, q118_0, q118_1, q118_2⟩ := hz116
            replace q118_0 : mI σ117 := q118_0
            replace q118_1 : σ117 90 0 = 0 := q118_1
            replace q118_2 : σ117 90 1 = 0 := q118_2
            have hFσ117 : tw_F (fun c j => (c = 88 ∧ (j = 9 ∨ j = 10 ∨ j = 12 ∨ j = 13 ∨ j = 14 ∨ j = 15 ∨ j = 16 ∨ j = 17 ∨ j = 18)) ∨ (c = 89 ∧ j < 100) ∨ (90 ≤ c ∧ c < 98)) σ σ117 := tw_F_tr hFσ105 hGσ117 (fun c j q => (show (c = 88 ∧ (j = 9 ∨ j = 10 ∨ j = 12 ∨ j = 13 ∨ j = 14 ∨ j = 15 ∨ j = 16 ∨ j = 17 ∨ j = 18)) ∨ (c = 89 ∧ j < 100) ∨ (90 ≤ c ∧ c < 98) from by replace q : (c = 89 ∧ j < 100) ∨ (90 ≤ c ∧ c < 93) := q; omega))
            refine j_st (st' := []) rfl ?_
            refine j_iload_n (pc := 91) dX12_text_91 rfl rfl ?_
            have y120 : σ117 88 12 = 0 := ((hGσ117 88 12 (show ¬ ((88 = 89 ∧ 12 < 100) ∨ (90 ≤ 88 ∧ 88 < 93)) from by omega))).trans (tw_eq1 eσ105)
            have y121 : σ117 88 17 = σ102 88 17 := ((hGσ117 88 17 (show ¬ ((88 = 89 ∧ 17 < 100) ∨ (90 ≤ 88 ∧ 88 < 93)) from by omega))).trans (tw_ne1 eσ105 (by omega))
            have y122 : σ117 88 17 = σ102 88 17 := ((hGσ117 88 17 (show ¬ ((88 = 89 ∧ 17 < 100) ∨ (90 ≤ 88 ∧ 88 < 93)) from by omega))).trans (tw_ne1 eσ105 (by omega))
            exact j_iret (pc := 92) ⟨rfl, rfl⟩ dX12_text_92 rfl ⟨_, rfl, ⟨by omega, by omega⟩, hIσ117, hFσ117, (by first | exact q118_0 | exact mI_kept i1 (fun j hj => rfl) (fun j => rfl) (rfl) hIτ), by omega, (by rw [← pm]; first | exact (mtxt_f (by omega)).symm | exact (mtxt_t (by omega)).symm | (rw [mtxt_f (by omega)]; omega) | (rw [mtxt_t (by omega)]; omega)), (by rw [← pm]; show _ = (aM _) 4; rw [aM_4]; omega), by omega⟩
          · refine j_bipush (pc := 79) dX12_text_79 rfl ?_
            refine j_aload_n (pc := 81) dX12_text_81 rfl rfl ?_
            refine j_getI (pc := 82) fl_X12_97 dX12_text_82 (a_88 hM) rfl ?_
            refine j_topV (show σ105 88 18 = σ102 88 18 from (tw_ne1 eσ105 (by omega))) ?_
            have f123 : (0 : Int) ≤ σ102 88 18 ∧ σ102 88 18 ≤ 400 := hIσ102 88 18
            refine j_isub (pc := 85) dX12_text_85 ?_
            have y124 : σ105 88 12 = 0 := (tw_eq1 eσ105)
            have y125 : σ105 88 17 = σ102 88 17 := (tw_ne1 eσ105 (by omega))
            have y126 : σ105 88 17 = σ102 88 17 := (tw_ne1 eσ105 (by omega))
            have y127 : σ105 90 0 = τ 90 0 := ((tw_ne1 eσ105 (by omega))).trans (hGσ102 90 0 (show ¬ ((90 = 88 ∧ (0 = 17 ∨ 0 = 18))) from by omega))
            have f128 : (0 : Int) ≤ τ 90 0 ∧ τ 90 0 ≤ 1 := hIτ 90 0
            have y129 : σ105 90 1 = τ 90 1 := ((tw_ne1 eσ105 (by omega))).trans (hGσ102 90 1 (show ¬ ((90 = 88 ∧ (1 = 17 ∨ 1 = 18))) from by omega))
            have f130 : (0 : Int) ≤ τ 90 1 ∧ τ 90 1 ≤ 1 := hIτ 90 1
            exact j_iret (pc := 86) ⟨rfl, rfl⟩ dX12_text_86 rfl ⟨_, rfl, ⟨by omega, by omega⟩, hIσ105, hFσ105, (by first | exact q103_0 | exact mI_kept i1 (fun j hj => ((tw_ne1 eσ105 (by omega))).trans (hGσ102 89 j (show ¬ ((89 = 88 ∧ (j = 17 ∨ j = 18))) from by omega))) (fun j => ((tw_ne1 eσ105 (by omega))).trans (hGσ102 90 j (show ¬ ((90 = 88 ∧ (j = 17 ∨ j = 18))) from by omega))) (((tw_ne1 eσ105 (by omega))).trans (hGσ102 91 0 (show ¬ ((91 = 88 ∧ (0 = 17 ∨ 0 = 18))) from by omega))) hIτ), by omega, (by rw [← pm]; first | exact (mtxt_f (by omega)).symm | exact (mtxt_t (by omega)).symm | (rw [mtxt_f (by omega)]; omega) | (rw [mtxt_t (by omega)]; omega)), (by rw [← pm]; show _ = (aM _) 4; rw [aM_4]; omega), by omega⟩
      · refine j_aload_n (pc := 34) dX12_text_34 rfl rfl ?_
        refine j_callV (pc := 35) (As := []) (st := []) (c_X12_readLine hM τ hIτ i0 (by omega) (by rw [fx]; exact hq1)) mv_X12_161 rfl rfl rfl (a_88 hM) dX12_text_35 ⟨Nat.le_of_ble_eq_true rfl, Nat.le_of_ble_eq_true rfl⟩ ⟨Nat.le_refl _, Nat.le_refl _⟩ rfl (Nat.le_of_ble_eq_true rfl) rfl (fun z131 σ132 hz131 => ?_)
        obtain ⟨rfl, hIσ132, hGσ132, q133_0, q133_1, q133_2, q133_3⟩ := hz131
        replace q133_0 : DQ σ132 := q133_0
        replace q133_1 : τ 88 13 ≤ σ132 88 13 := q133_1
        replace q133_2 : ¬ σ132 88 17 = 0 ∨ σ132 88 15 = 0 ∨ τ 88 13 < σ132 88 13 := q133_2
        replace q133_3 : aM σ132 = lineM (fM τ) (aM τ) := q133_3
        have hFσ132 : tw_F (fun c j => (c = 88 ∧ (j = 9 ∨ j = 10 ∨ j = 12 ∨ j = 13 ∨ j = 14 ∨ j = 15 ∨ j = 16 ∨ j = 17 ∨ j = 18)) ∨ (c = 89 ∧ j < 100) ∨ (90 ≤ c ∧ c < 98)) σ σ132 := tw_F_tr hFτ hGσ132 (fun c j q => (show (c = 88 ∧ (j = 9 ∨ j = 10 ∨ j = 12 ∨ j = 13 ∨ j = 14 ∨ j = 15 ∨ j = 16 ∨ j = 17 ∨ j = 18)) ∨ (c = 89 ∧ j < 100) ∨ (90 ≤ c ∧ c < 98) from by replace q : (c = 88 ∧ (j = 9 ∨ j = 10 ∨ j = 13 ∨ j = 14 ∨ j = 15 ∨ j = 16 ∨ j = 17 ∨ j = 18)) ∨ (93 ≤ c ∧ c < 98) := q; omega))
        refine j_st (st' := []) rfl ?_
        skip
        skip
        skip
        have y1 : σ132 88 17 = σ132 88 17 := by first | rfl | exact tw_ne1 _ (by omega)
        have y2 : σ132 88 15 = σ132 88 15 := by first | rfl | exact tw_ne1 _ (by omega)
        have y3 : σ132 88 13 = σ132 88 13 := by first | rfl | exact tw_ne1 _ (by omega)
        have y4 : (0 : Int) ≤ σ132 88 13 ∧ σ132 88 13 ≤ 400 := hIσ132 88 13
        have lt9 := mTx_lt (f := τ 88 17) (s := τ 88 15) (p := τ 88 13) (f2 := σ132 88 17) (s2 := σ132 88 15) (p2 := σ132 88 13) (by omega) (by omega) (by omega) (by omega) (by omega)
        have cl2 : aM σ132 = lineX (fM σ) (aM τ) := by (have q := q133_3); rw [fx] at q; exact q.trans (line_XM hq1).symm
        refine j_iinc (pc := 38) (i := 1) (n := 1) (ls' := [(0, vR 88), (1, vI (m + 1))]) [1, 0] dX12_text_38 rfl (Nat.le_of_ble_eq_true rfl) rfl rfl ?_
        refine j_goto (pc := 41) (tgt := 20) dX12_text_41 rfl ?_
        refine j_ls (ls' := [(0, vR 88), (1, vI (m + 1))]) [0, 1] rfl ?_
        have y135 : σ132 88 12 = τ 88 12 := (hGσ132 88 12 (show ¬ ((88 = 88 ∧ (12 = 9 ∨ 12 = 10 ∨ 12 = 13 ∨ 12 = 14 ∨ 12 = 15 ∨ 12 = 16 ∨ 12 = 17 ∨ 12 = 18)) ∨ (93 ≤ 88 ∧ 88 < 98)) from by omega))
        have f136 : (0 : Int) ≤ τ 88 12 ∧ τ 88 12 ≤ 400 := hIτ 88 12
        have y137 : σ132 90 0 = τ 90 0 := (hGσ132 90 0 (show ¬ ((90 = 88 ∧ (0 = 9 ∨ 0 = 10 ∨ 0 = 13 ∨ 0 = 14 ∨ 0 = 15 ∨ 0 = 16 ∨ 0 = 17 ∨ 0 = 18)) ∨ (93 ≤ 90 ∧ 90 < 98)) from by omega))
        have f138 : (0 : Int) ≤ τ 90 0 ∧ τ 90 0 ≤ 1 := hIτ 90 0
        have y139 : σ132 90 1 = τ 90 1 := (hGσ132 90 1 (show ¬ ((90 = 88 ∧ (1 = 9 ∨ 1 = 10 ∨ 1 = 13 ∨ 1 = 14 ∨ 1 = 15 ∨ 1 = 16 ∨ 1 = 17 ∨ 1 = 18)) ∨ (93 ≤ 90 ∧ 90 < 98)) from by omega))
        have f140 : (0 : Int) ≤ τ 90 1 ∧ τ 90 1 ≤ 1 := hIτ 90 1
        exact ih (m + 1) ⟨by omega, by omega⟩ σ132 hIσ132 hFσ132 (show DQ σ132 from q133_0) (show mI σ132 from mI_kept i1 (fun j hj => (hGσ132 89 j (show ¬ ((89 = 88 ∧ (j = 9 ∨ j = 10 ∨ j = 13 ∨ j = 14 ∨ j = 15 ∨ j = 16 ∨ j = 17 ∨ j = 18)) ∨ (93 ≤ 89 ∧ 89 < 98)) from by omega))) (fun j => (hGσ132 90 j (show ¬ ((90 = 88 ∧ (j = 9 ∨ j = 10 ∨ j = 13 ∨ j = 14 ∨ j = 15 ∨ j = 16 ∨ j = 17 ∨ j = 18)) ∨ (93 ≤ 90 ∧ 90 < 98)) from by omega))) ((hGσ132 91 0 (show ¬ ((91 = 88 ∧ (0 = 9 ∨ 0 = 10 ∨ 0 = 13 ∨ 0 = 14 ∨ 0 = 15 ∨ 0 = 16 ∨ 0 = 17 ∨ 0 = 18)) ∨ (93 ≤ 91 ∧ 91 < 98)) from by omega))) hIτ) (show (m + 1) ≤ σ132 88 13 ∨ ((¬ σ132 88 17 = 0 ∨ σ132 88 15 = 0) ∧ (m + 1) ≤ σ132 88 13 + 1) from by omega) (show σ132 88 12 = σ 88 12 from by omega) (show itK lstop (lstep (fM σ)) (500 - (m + 1)).toNat (aM σ132, (m + 1)) = lns (fM σ) from (mlns_s i4 ⟨by omega, by omega⟩ (by omega) (by omega) cl2 rfl)) (show σ132 90 0 = σ 90 0 from by omega) (show σ132 90 1 = σ 90 1 from by omega) (show (mTx (σ132 88 17) (σ132 88 15) (σ132 88 13)).toNat < N_ from by omega)
set_option maxHeartbeats 4000000 in
set_option maxRecDepth 100000 in
theorem c_X12_text {G : tw_G} (hM : tw_isM G) (σ : tw_M) (hI : tw_I σ) (hq0 : mI σ) (hq1 : FB (fM σ)) : tw_C G yX12_text cX12_text 2 (some .int) 5 [vR 88] σ (q_X12_text σ) := by
  refine tw_met [(0, vR 88)] (by decide +kernel) rfl (Nat.le_of_ble_eq_true rfl) ?_
  refine j_iconst (pc := 0) dX12_text_0 ?_
  refine j_istore_n (pc := 1) (i := 1) (ls' := [(0, vR 88), (1, vI 0)]) [1, 0] dX12_text_1 rfl (Nat.le_of_ble_eq_true rfl) rfl rfl ?_
  refine j_aload_n (pc := 2) dX12_text_2 rfl rfl ?_
  refine j_iconst (pc := 3) dX12_text_3 ?_
  refine j_putI (pc := 4) fl_X12_91 fp_X12_17 dX12_text_4 (a_88 hM) rfl (j_nm (fun σ141 (eσ141 : σ141 = tw_up σ 88 17 0) => ?_))
  have hIσ141 : tw_I σ141 := tw_I_up hI eσ141 (show (0 : Int) ≤ 0 ∧ 0 ≤ 5 from ⟨by omega, by omega⟩)
  have hFσ141 : tw_F (fun c j => (c = 88 ∧ (j = 9 ∨ j = 10 ∨ j = 12 ∨ j = 13 ∨ j = 14 ∨ j = 15 ∨ j = 16 ∨ j = 17 ∨ j = 18)) ∨ (c = 89 ∧ j < 100) ∨ (90 ≤ c ∧ c < 98)) σ σ141 := tw_F_up (tw_F_rf) eσ141 (show (88 = 88 ∧ (17 = 9 ∨ 17 = 10 ∨ 17 = 12 ∨ 17 = 13 ∨ 17 = 14 ∨ 17 = 15 ∨ 17 = 16 ∨ 17 = 17 ∨ 17 = 18)) ∨ (88 = 89 ∧ 17 < 100) ∨ (90 ≤ 88 ∧ 88 < 98) from by omega)
  refine j_aload_n (pc := 7) dX12_text_7 rfl rfl ?_
  refine j_iconst (pc := 8) dX12_text_8 ?_
  refine j_putI (pc := 9) fl_X12_100 fp_X12_13 dX12_text_9 (a_88 hM) rfl (j_nm (fun σ142 (eσ142 : σ142 = tw_up σ141 88 13 0) => ?_))
  have hIσ142 : tw_I σ142 := tw_I_up hIσ141 eσ142 (show (0 : Int) ≤ 0 ∧ 0 ≤ 400 from ⟨by omega, by omega⟩)
  have hFσ142 : tw_F (fun c j => (c = 88 ∧ (j = 9 ∨ j = 10 ∨ j = 12 ∨ j = 13 ∨ j = 14 ∨ j = 15 ∨ j = 16 ∨ j = 17 ∨ j = 18)) ∨ (c = 89 ∧ j < 100) ∨ (90 ≤ c ∧ c < 98)) σ σ142 := tw_F_up hFσ141 eσ142 (show (88 = 88 ∧ (13 = 9 ∨ 13 = 10 ∨ 13 = 12 ∨ 13 = 13 ∨ 13 = 14 ∨ 13 = 15 ∨ 13 = 16 ∨ 13 = 17 ∨ 13 = 18)) ∨ (88 = 89 ∧ 13 < 100) ∨ (90 ≤ 88 ∧ 88 < 98) from by omega)
  refine j_aload_n (pc := 12) dX12_text_12 rfl rfl ?_
  refine j_callV (pc := 13) (As := []) (st := []) (c_X12_firstDraft hM σ142 hIσ142) mv_X12_65 rfl rfl rfl (a_88 hM) dX12_text_13 ⟨Nat.le_of_ble_eq_true rfl, Nat.le_of_ble_eq_true rfl⟩ ⟨Nat.le_refl _, Nat.le_refl _⟩ rfl (Nat.le_of_ble_eq_true rfl) rfl (fun z143 σ144 hz143 => ?_)
  obtain ⟨rfl, hIσ144, hGσ144, q145_0, q145_1⟩ := hz143
  replace q145_0 : DR σ144 := q145_0
  replace q145_1 : drM σ144 = D0 := q145_1
  have hFσ144 : tw_F (fun c j => (c = 88 ∧ (j = 9 ∨ j = 10 ∨ j = 12 ∨ j = 13 ∨ j = 14 ∨ j = 15 ∨ j = 16 ∨ j = 17 ∨ j = 18)) ∨ (c = 89 ∧ j < 100) ∨ (90 ≤ c ∧ c < 98)) σ σ144 := tw_F_tr hFσ142 hGσ144 (fun c j q => (show (c = 88 ∧ (j = 9 ∨ j = 10 ∨ j = 12 ∨ j = 13 ∨ j = 14 ∨ j = 15 ∨ j = 16 ∨ j = 17 ∨ j = 18)) ∨ (c = 89 ∧ j < 100) ∨ (90 ≤ c ∧ c < 98) from by replace q : (c = 88 ∧ (j = 9 ∨ j = 10)) ∨ (93 ≤ c ∧ c < 98) := q; omega))
  refine j_st (st' := []) rfl ?_
  have y147 : σ144 88 13 = 0 := ((hGσ144 88 13 (show ¬ ((88 = 88 ∧ (13 = 9 ∨ 13 = 10)) ∨ (93 ≤ 88 ∧ 88 < 98)) from by omega))).trans (tw_eq1 eσ142)
  have y148 : σ144 88 17 = 0 := (((hGσ144 88 17 (show ¬ ((88 = 88 ∧ (17 = 9 ∨ 17 = 10)) ∨ (93 ≤ 88 ∧ 88 < 98)) from by omega))).trans (tw_ne1 eσ142 (by omega))).trans (tw_eq1 eσ141)
  have d0 := q145_1
  have fz : fM σ144 = fM σ := fM_F ((((hGσ144 88 12 (show ¬ ((88 = 88 ∧ (12 = 9 ∨ 12 = 10)) ∨ (93 ≤ 88 ∧ 88 < 98)) from by omega))).trans (tw_ne1 eσ142 (by omega))).trans (tw_ne1 eσ141 (by omega))) (fun j => (((hGσ144 98 j (show ¬ ((98 = 88 ∧ (j = 9 ∨ j = 10)) ∨ (93 ≤ 98 ∧ 98 < 98)) from by omega))).trans (tw_ne1 eσ142 (by omega))).trans (tw_ne1 eσ141 (by omega)))
  have a0 : aM σ144 = ok 0 (σ144 88 14) (σ144 88 15) (σ144 88 16) D0 := by rw [aM_ok (by omega), d0, show σ144 88 13 = 0 from by omega]
  refine j_aload_n (pc := 16) dX12_text_16 rfl rfl ?_
  refine j_callV (pc := 17) (As := []) (st := []) (c_X12_next hM σ144 hIσ144) mv_X12_137 rfl rfl rfl (a_88 hM) dX12_text_17 ⟨Nat.le_of_ble_eq_true rfl, Nat.le_of_ble_eq_true rfl⟩ ⟨Nat.le_refl _, Nat.le_refl _⟩ rfl (Nat.le_of_ble_eq_true rfl) rfl (fun z149 σ150 hz149 => ?_)
  obtain ⟨rfl, hIσ150, hGσ150, q151_0, q151_1, q151_2, q151_3⟩ := hz149
  replace q151_0 : ¬ σ150 88 17 = 0 ∨ σ144 88 17 = 0 := q151_0
  have y153 : σ144 88 17 = 0 := (((hGσ144 88 17 (show ¬ ((88 = 88 ∧ (17 = 9 ∨ 17 = 10)) ∨ (93 ≤ 88 ∧ 88 < 98)) from by omega))).trans (tw_ne1 eσ142 (by omega))).trans (tw_eq1 eσ141)
  replace q151_1 : σ144 88 13 ≤ σ150 88 13 := q151_1
  have y154 : σ144 88 13 = 0 := ((hGσ144 88 13 (show ¬ ((88 = 88 ∧ (13 = 9 ∨ 13 = 10)) ∨ (93 ≤ 88 ∧ 88 < 98)) from by omega))).trans (tw_eq1 eσ142)
  replace q151_2 : ¬ σ150 88 17 = 0 ∨ σ150 88 15 = 0 ∨ σ144 88 13 < σ150 88 13 := q151_2
  have y155 : σ144 88 13 = 0 := ((hGσ144 88 13 (show ¬ ((88 = 88 ∧ (13 = 9 ∨ 13 = 10)) ∨ (93 ≤ 88 ∧ 88 < 98)) from by omega))).trans (tw_eq1 eσ142)
  replace q151_3 : aM σ150 = tok (fM σ144) (aM σ144) := q151_3
  have hFσ150 : tw_F (fun c j => (c = 88 ∧ (j = 9 ∨ j = 10 ∨ j = 12 ∨ j = 13 ∨ j = 14 ∨ j = 15 ∨ j = 16 ∨ j = 17 ∨ j = 18)) ∨ (c = 89 ∧ j < 100) ∨ (90 ≤ c ∧ c < 98)) σ σ150 := tw_F_tr hFσ144 hGσ150 (fun c j q => (show (c = 88 ∧ (j = 9 ∨ j = 10 ∨ j = 12 ∨ j = 13 ∨ j = 14 ∨ j = 15 ∨ j = 16 ∨ j = 17 ∨ j = 18)) ∨ (c = 89 ∧ j < 100) ∨ (90 ≤ c ∧ c < 98) from by replace q : (c = 88 ∧ (j = 13 ∨ j = 14 ∨ j = 15 ∨ j = 16 ∨ j = 17 ∨ j = 18)) := q; omega))
  refine j_st (st' := []) rfl ?_
  refine j_ls (ls' := [(0, vR 88), (1, vI 0)]) [0, 1] rfl ?_
  have y156 : σ150 88 12 = σ 88 12 := ((((hGσ150 88 12 (show ¬ ((88 = 88 ∧ (12 = 13 ∨ 12 = 14 ∨ 12 = 15 ∨ 12 = 16 ∨ 12 = 17 ∨ 12 = 18))) from by omega))).trans (hGσ144 88 12 (show ¬ ((88 = 88 ∧ (12 = 9 ∨ 12 = 10)) ∨ (93 ≤ 88 ∧ 88 < 98)) from by omega))).trans (tw_ne1 eσ142 (by omega))).trans (tw_ne1 eσ141 (by omega))
  have f157 : (0 : Int) ≤ σ 88 12 ∧ σ 88 12 ≤ 400 := hI 88 12
  have y158 : σ150 90 0 = σ 90 0 := ((((hGσ150 90 0 (show ¬ ((90 = 88 ∧ (0 = 13 ∨ 0 = 14 ∨ 0 = 15 ∨ 0 = 16 ∨ 0 = 17 ∨ 0 = 18))) from by omega))).trans (hGσ144 90 0 (show ¬ ((90 = 88 ∧ (0 = 9 ∨ 0 = 10)) ∨ (93 ≤ 90 ∧ 90 < 98)) from by omega))).trans (tw_ne1 eσ142 (by omega))).trans (tw_ne1 eσ141 (by omega))
  have f159 : (0 : Int) ≤ σ 90 0 ∧ σ 90 0 ≤ 1 := hI 90 0
  have y160 : σ150 90 1 = σ 90 1 := ((((hGσ150 90 1 (show ¬ ((90 = 88 ∧ (1 = 13 ∨ 1 = 14 ∨ 1 = 15 ∨ 1 = 16 ∨ 1 = 17 ∨ 1 = 18))) from by omega))).trans (hGσ144 90 1 (show ¬ ((90 = 88 ∧ (1 = 9 ∨ 1 = 10)) ∨ (93 ≤ 90 ∧ 90 < 98)) from by omega))).trans (tw_ne1 eσ142 (by omega))).trans (tw_ne1 eσ141 (by omega))
  have f161 : (0 : Int) ≤ σ 90 1 ∧ σ 90 1 ≤ 1 := hI 90 1
  exact (l_X12_text hM σ hI hq0 hq1 (((mTx (σ150 88 17) (σ150 88 15) (σ150 88 13)).toNat) + 1)) 0 ⟨by omega, by omega⟩ σ150 hIσ150 hFσ150 (show DQ σ150 from (Or.inr (DR_F q145_0 (fun j => hGσ150 93 j (show ¬ ((93 = 88 ∧ (j = 13 ∨ j = 14 ∨ j = 15 ∨ j = 16 ∨ j = 17 ∨ j = 18))) from by omega)) (fun j => hGσ150 94 j (show ¬ ((94 = 88 ∧ (j = 13 ∨ j = 14 ∨ j = 15 ∨ j = 16 ∨ j = 17 ∨ j = 18))) from by omega))))) (show mI σ150 from mI_kept hq0 (fun j hj => ((((hGσ150 89 j (show ¬ ((89 = 88 ∧ (j = 13 ∨ j = 14 ∨ j = 15 ∨ j = 16 ∨ j = 17 ∨ j = 18))) from by omega))).trans (hGσ144 89 j (show ¬ ((89 = 88 ∧ (j = 9 ∨ j = 10)) ∨ (93 ≤ 89 ∧ 89 < 98)) from by omega))).trans (tw_ne1 eσ142 (by omega))).trans (tw_ne1 eσ141 (by omega))) (fun j => ((((hGσ150 90 j (show ¬ ((90 = 88 ∧ (j = 13 ∨ j = 14 ∨ j = 15 ∨ j = 16 ∨ j = 17 ∨ j = 18))) from by omega))).trans (hGσ144 90 j (show ¬ ((90 = 88 ∧ (j = 9 ∨ j = 10)) ∨ (93 ≤ 90 ∧ 90 < 98)) from by omega))).trans (tw_ne1 eσ142 (by omega))).trans (tw_ne1 eσ141 (by omega))) (((((hGσ150 91 0 (show ¬ ((91 = 88 ∧ (0 = 13 ∨ 0 = 14 ∨ 0 = 15 ∨ 0 = 16 ∨ 0 = 17 ∨ 0 = 18))) from by omega))).trans (hGσ144 91 0 (show ¬ ((91 = 88 ∧ (0 = 9 ∨ 0 = 10)) ∨ (93 ≤ 91 ∧ 91 < 98)) from by omega))).trans (tw_ne1 eσ142 (by omega))).trans (tw_ne1 eσ141 (by omega))) hI) (show (0 : Int) ≤ σ150 88 13 ∨ ((¬ σ150 88 17 = 0 ∨ σ150 88 15 = 0) ∧ (0 : Int) ≤ σ150 88 13 + 1) from by omega) (show σ150 88 12 = σ 88 12 from by omega) (show itK lstop (lstep (fM σ)) (500 - (0 : Int)).toNat (aM σ150, (0 : Int)) = lns (fM σ) from (by (have cb := q151_3); rw [fz, a0] at cb; exact lns_0 cb rfl)) (show σ150 90 0 = σ 90 0 from by omega) (show σ150 90 1 = σ 90 1 from by omega) (Nat.lt_succ_self _)
