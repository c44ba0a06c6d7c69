/-! 37b.model -/
theorem dX12_text_0 : decode cX12_text 0 = .ok (.iconst 0, 1) := by decide +kernel
theorem dX12_text_1 : decode cX12_text 1 = .ok (.istore_n 1, 1) := by decide +kernel
theorem dX12_text_2 : decode cX12_text 2 = .ok (.aload_n 0, 1) := by decide +kernel
theorem dX12_text_3 : decode cX12_text 3 = .ok (.iconst 0, 1) := by decide +kernel
theorem dX12_text_4 : decode cX12_text 4 = .ok (.putfield 91, 3) := by decide +kernel
theorem dX12_text_7 : decode cX12_text 7 = .ok (.aload_n 0, 1) := by decide +kernel
theorem dX12_text_8 : decode cX12_text 8 = .ok (.iconst 0, 1) := by decide +kernel
theorem dX12_text_9 : decode cX12_text 9 = .ok (.putfield 100, 3) := by decide +kernel
theorem dX12_text_12 : decode cX12_text 12 = .ok (.aload_n 0, 1) := by decide +kernel
theorem dX12_text_13 : decode cX12_text 13 = .ok (.invokevirtual 65, 3) := by decide +kernel
theorem dX12_text_16 : decode cX12_text 16 = .ok (.aload_n 0, 1) := by decide +kernel
theorem dX12_text_17 : decode cX12_text 17 = .ok (.invokevirtual 137, 3) := by decide +kernel
theorem dX12_text_20 : decode cX12_text 20 = .ok (.aload_n 0, 1) := by decide +kernel
theorem dX12_text_21 : decode cX12_text 21 = .ok (.getfield 91, 3) := by decide +kernel
theorem dX12_text_24 : decode cX12_text 24 = .ok (.ifCond .ne 20, 3) := by decide +kernel
theorem dX12_text_27 : decode cX12_text 27 = .ok (.aload_n 0, 1) := by decide +kernel
theorem dX12_text_28 : decode cX12_text 28 = .ok (.getfield 115, 3) := by decide +kernel
theorem dX12_text_31 : decode cX12_text 31 = .ok (.ifCond .eq 13, 3) := by decide +kernel
theorem dX12_text_34 : decode cX12_text 34 = .ok (.aload_n 0, 1) := by decide +kernel
theorem dX12_text_35 : decode cX12_text 35 = .ok (.invokevirtual 161, 3) := by decide +kernel
theorem dX12_text_38 : decode cX12_text 38 = .ok (.iinc 1 1, 3) := by decide +kernel
theorem dX12_text_41 : decode cX12_text 41 = .ok (.goto (-21), 3) := by decide +kernel
theorem dX12_text_44 : decode cX12_text 44 = .ok (.aload_n 0, 1) := by decide +kernel
theorem dX12_text_45 : decode cX12_text 45 = .ok (.aload_n 0, 1) := by decide +kernel
theorem dX12_text_46 : decode cX12_text 46 = .ok (.getfield 75, 3) := by decide +kernel
theorem dX12_text_49 : decode cX12_text 49 = .ok (.aload_n 0, 1) := by decide +kernel
theorem dX12_text_50 : decode cX12_text 50 = .ok (.getfield 23, 3) := by decide +kernel
theorem dX12_text_53 : decode cX12_text 53 = .ok (.iconst 0, 1) := by decide +kernel
theorem dX12_text_54 : decode cX12_text 54 = .ok (.iaload, 1) := by decide +kernel
theorem dX12_text_55 : decode cX12_text 55 = .ok (.if_icmp .gt 7, 3) := by decide +kernel
theorem dX12_text_58 : decode cX12_text 58 = .ok (.iconst 1, 1) := by decide +kernel
theorem dX12_text_59 : decode cX12_text 59 = .ok (.goto 4, 3) := by decide +kernel
theorem dX12_text_62 : decode cX12_text 62 = .ok (.iconst 0, 1) := by decide +kernel
theorem dX12_text_63 : decode cX12_text 63 = .ok (.iconst 5, 1) := by decide +kernel
theorem dX12_text_64 : decode cX12_text 64 = .ok (.invokevirtual 129, 3) := by decide +kernel
theorem dX12_text_67 : decode cX12_text 67 = .ok (.aload_n 0, 1) := by decide +kernel
theorem dX12_text_68 : decode cX12_text 68 = .ok (.iconst 0, 1) := by decide +kernel
theorem dX12_text_69 : decode cX12_text 69 = .ok (.putfield 86, 3) := by decide +kernel
theorem dX12_text_72 : decode cX12_text 72 = .ok (.aload_n 0, 1) := by decide +kernel
theorem dX12_text_73 : decode cX12_text 73 = .ok (.getfield 91, 3) := by decide +kernel
theorem dX12_text_76 : decode cX12_text 76 = .ok (.ifCond .le 11, 3) := by decide +kernel
theorem dX12_text_79 : decode cX12_text 79 = .ok (.bipush (-10), 2) := by decide +kernel
theorem dX12_text_81 : decode cX12_text 81 = .ok (.aload_n 0, 1) := by decide +kernel
theorem dX12_text_82 : decode cX12_text 82 = .ok (.getfield 97, 3) := by decide +kernel
theorem dX12_text_85 : decode cX12_text 85 = .ok (.isub, 1) := by decide +kernel
theorem dX12_text_86 : decode cX12_text 86 = .ok (.ireturn, 1) := by decide +kernel
theorem dX12_text_87 : decode cX12_text 87 = .ok (.aload_n 0, 1) := by decide +kernel
theorem dX12_text_88 : decode cX12_text 88 = .ok (.invokevirtual 68, 3) := by decide +kernel
theorem dX12_text_91 : decode cX12_text 91 = .ok (.iload_n 1, 1) := by decide +kernel
theorem dX12_text_92 : decode cX12_text 92 = .ok (.ireturn, 1) := by decide +kernel
abbrev q_X12_text  (σ : tw_M) : Option tw_V → tw_M → Prop := fun z τ => ∃ r : Int, z = some (vI r) ∧ (-2147483648 ≤ r ∧ r ≤ 2147483647) ∧ tw_I τ ∧ tw_F (fun c j => (c = 88 ∧ (j = 9 ∨ j = 10 ∨ j = 12 ∨ j = 13 ∨ j = 14 ∨ j = 15 ∨ j = 16 ∨ j = 17 ∨ j = 18)) ∨ (c = 89 ∧ j < 100) ∨ (90 ≤ c ∧ c < 98)) σ τ ∧ (mI τ) ∧ (τ 88 12 = 0) ∧ (r = txt (parse (fM σ))) ∧ (τ 88 17 = (parse (fM σ)).1 4)
set_option maxHeartbeats 4000000 in
set_option maxRecDepth 100000 in
theorem l_X12_text {G : tw_G} (hM : tw_isM G) (σ : tw_M) (hI : tw_I σ) (hq0 : mI σ) (hq1 : FB (fM σ)) : ∀ N_ : Nat, (∀ (m : Int) (hm : 0 ≤ m ∧ m ≤ 401) (τ : tw_M) (hIτ : tw_I τ) (hFτ : tw_F (fun c j => (c = 88 ∧ (j = 9 ∨ j = 10 ∨ j = 12 ∨ j = 13 ∨ j = 14 ∨ j = 15 ∨ j = 16 ∨ j = 17 ∨ j = 18)) ∨ (c = 89 ∧ j < 100) ∨ (90 ≤ c ∧ c < 98)) σ τ) (i0 : DQ τ) (i1 : mI τ) (i2 : m ≤ τ 88 13 ∨ ((¬ τ 88 17 = 0 ∨ τ 88 15 = 0) ∧ m ≤ τ 88 13 + 1)) (i3 : τ 88 12 = σ 88 12) (i4 : itK lstop (lstep (fM σ)) (500 - m).toNat (aM τ, m) = lns (fM σ)) (hm : (mTx (τ 88 17) (τ 88 15) (τ 88 13)).toNat < N_), tw_J G (tw_mt RX12 cX12_text 2 (some .int) 5) (tw_E G (q_X12_text σ)) 20 [(0, vR 88), (1, vI m)] [] τ) := by
  intro N_
  induction N_ with
  | zero => exact fun m hm τ hIτ hFτ i0 i1 i2 i3 i4 hm => absurd hm (Nat.not_lt_zero _)
  | succ N_ ih =>
    intro m hm τ hIτ hFτ i0 i1 i2 i3 i4 hm
    have m9 := i1.2.2.2.2
    have fx : fM τ = fM σ := fM_F i3 (fun j => hFτ 98 j (show ¬ ((98 = 88 ∧ (j = 9 ∨ j = 10 ∨ j = 12 ∨ j = 13 ∨ j = 14 ∨ j = 15 ∨ j = 16 ∨ j = 17 ∨ j = 18)) ∨ (98 = 89 ∧ j < 100) ∨ (90 ≤ 98 ∧ 98 < 98)) from by omega))
    refine j_aload_n (pc := 20) dX12_text_20 rfl rfl ?_
    refine j_getI (pc := 21) fl_X12_91 dX12_text_21 (a_88 hM) rfl ?_
    have f1 : (0 : Int) ≤ τ 88 17 ∧ τ 88 17 ≤ 5 := hIτ 88 17
    refine j_ifR_ne (pc := 24) (tgt := 44) ⟨by omega, by omega⟩ dX12_text_24 rfl (fun h2 => ?_) (fun h2 => ?_)
    · refine j_aload_n (pc := 44) dX12_text_44 rfl rfl ?_
      refine j_aload_n (pc := 45) dX12_text_45 rfl rfl ?_
      refine j_getI (pc := 46) fl_X12_75 dX12_text_46 (a_88 hM) rfl ?_
      have f3 : (0 : Int) ≤ τ 88 10 ∧ τ 88 10 ≤ 40 := hIτ 88 10
      refine j_aload_n (pc := 49) dX12_text_49 rfl rfl ?_
      refine j_getR (pc := 50) (r := 93) fl_X12_23 dX12_text_50 (a_88 hM) rfl ?_
      refine j_iconst (pc := 53) dX12_text_53 ?_
      refine j_iald (pc := 54) dX12_text_54 (a_93 hM) (by omega) (by omega) (by decide) ?_
      refine j_topV (show τ 93 (Int.toNat 0) = τ 93 0 from rfl) ?_
      have f4 : (-2147483648 : Int) ≤ τ 93 0 ∧ τ 93 0 ≤ 2147483647 := hIτ 93 0
      refine j_icmpR_gt (pc := 55) (tgt := 62) ⟨by omega, by omega⟩ ⟨by omega, by omega⟩ dX12_text_55 rfl (fun h5 => ?_) (fun h5 => ?_)
      · refine j_iconst (pc := 62) dX12_text_62 ?_
        refine j_iconst (pc := 63) dX12_text_63 ?_
        refine j_callV (pc := 64) (As := [vI 0, vI 5]) (st := []) (c_X12_needs hM 0 ⟨by omega, by omega⟩ 5 ⟨by omega, by omega⟩ τ hIτ) mv_X12_129 rfl rfl rfl (a_88 hM) dX12_text_64 ⟨Nat.le_of_ble_eq_true rfl, Nat.le_of_ble_eq_true rfl⟩ ⟨Nat.le_refl _, Nat.le_refl _⟩ rfl (Nat.le_of_ble_eq_true rfl) rfl (fun z6 σ7 hz6 => ?_)
        obtain ⟨rfl, hIσ7, hGσ7, q8_0, q8_1, q8_2⟩ := hz6
        replace q8_0 : (¬ (0 : Int) = 0 ∧ σ7 88 17 = τ 88 17) ∨ ((0 : Int) = 0 ∧ τ 88 17 = 0 ∧ σ7 88 17 = (5 : Int)) ∨ ((0 : Int) = 0 ∧ ¬ τ 88 17 = 0 ∧ σ7 88 17 = τ 88 17) := q8_0
        replace q8_1 : (¬ (0 : Int) = 0 ∧ σ7 88 17 = τ 88 17 ∧ σ7 88 18 = τ 88 18) ∨ ((0 : Int) = 0 ∧ τ 88 17 = 0 ∧ σ7 88 17 = (5 : Int) ∧ σ7 88 18 = τ 88 14) ∨ ((0 : Int) = 0 ∧ ¬ τ 88 17 = 0 ∧ σ7 88 17 = τ 88 17 ∧ σ7 88 18 = τ 88 18) := q8_1
        replace q8_2 : aM σ7 = need (decide (¬ (0 : Int) = 0)) (5 : Int) (aM τ) := q8_2
        have hFσ7 : tw_F (fun c j => (c = 88 ∧ (j = 9 ∨ j = 10 ∨ j = 12 ∨ j = 13 ∨ j = 14 ∨ j = 15 ∨ j = 16 ∨ j = 17 ∨ j = 18)) ∨ (c = 89 ∧ j < 100) ∨ (90 ≤ c ∧ c < 98)) σ σ7 := tw_F_tr hFτ hGσ7 (fun c j q => (show (c = 88 ∧ (j = 9 ∨ j = 10 ∨ j = 12 ∨ j = 13 ∨ j = 14 ∨ j = 15 ∨ j = 16 ∨ j = 17 ∨ j = 18)) ∨ (c = 89 ∧ j < 100) ∨ (90 ≤ c ∧ c < 98) from by replace q : (c = 88 ∧ (j = 17 ∨ j = 18)) := q; omega))
        refine j_st (st' := []) rfl ?_
        have pm := parse_M i4 (by omega) ((q8_2).trans (need_cg (g' := decide (τ 88 10 ≤ τ 93 0)) (fun _ => by first | exact (decide_eq_true (by omega)).trans (decide_eq_true (by omega)).symm | exact (decide_eq_false (by omega)).trans (decide_eq_false (by omega)).symm)))
        refine j_aload_n (pc := 67) dX12_text_67 rfl rfl ?_
        refine j_iconst (pc := 68) dX12_text_68 ?_
        refine j_putI (pc := 69) fl_X12_86 fp_X12_12 dX12_text_69 (a_88 hM) rfl (j_nm (fun σ10 (eσ10 : σ10 = tw_up σ7 88 12 0) => ?_))
        have hIσ10 : tw_I σ10 := tw_I_up hIσ7 eσ10 (show (0 : Int) ≤ 0 ∧ 0 ≤ 400 from ⟨by omega, by omega⟩)
        have hFσ10 : tw_F (fun c j => (c = 88 ∧ (j = 9 ∨ j = 10 ∨ j = 12 ∨ j = 13 ∨ j = 14 ∨ j = 15 ∨ j = 16 ∨ j = 17 ∨ j = 18)) ∨ (c = 89 ∧ j < 100) ∨ (90 ≤ c ∧ c < 98)) σ σ10 := tw_F_up hFσ7 eσ10 (show (88 = 88 ∧ (12 = 9 ∨ 12 = 10 ∨ 12 = 12 ∨ 12 = 13 ∨ 12 = 14 ∨ 12 = 15 ∨ 12 = 16 ∨ 12 = 17 ∨ 12 = 18)) ∨ (88 = 89 ∧ 12 < 100) ∨ (90 ≤ 88 ∧ 88 < 98) from by omega)
        refine j_aload_n (pc := 72) dX12_text_72 rfl rfl ?_
        refine j_getI (pc := 73) fl_X12_91 dX12_text_73 (a_88 hM) rfl ?_
        refine j_topV (show σ10 88 17 = σ7 88 17 from (tw_ne1 eσ10 (by omega))) ?_
        have f11 : (0 : Int) ≤ σ7 88 17 ∧ σ7 88 17 ≤ 5 := hIσ7 88 17
        refine j_ifR_le (pc := 76) (tgt := 87) ⟨by omega, by omega⟩ dX12_text_76 rfl (fun h12 => ?_) (fun h12 => ?_)
        · have z9 : σ10 88 17 = 0 := ((tw_ne1 eσ10 (by omega))).trans (by omega)
          refine j_aload_n (pc := 87) dX12_text_87 rfl rfl ?_
          have y13 : σ10 89 193 = τ 89 193 := ((tw_ne1 eσ10 (by omega))).trans (hGσ7 89 193 (show ¬ ((89 = 88 ∧ (193 = 17 ∨ 193 = 18))) from by omega))
          have f14 : (0 : Int) ≤ τ 89 193 ∧ τ 89 193 ≤ 999 := hIτ 89 193
          have y15 : σ10 89 195 = τ 89 195 := ((tw_ne1 eσ10 (by omega))).trans (hGσ7 89 195 (show ¬ ((89 = 88 ∧ (195 = 17 ∨ 195 = 18))) from by omega))
          have f16 : (0 : Int) ≤ τ 89 195 ∧ τ 89 195 ≤ 999 := hIτ 89 195
          have y17 : σ10 89 293 = τ 89 293 := ((tw_ne1 eσ10 (by omega))).trans (hGσ7 89 293 (show ¬ ((89 = 88 ∧ (293 = 17 ∨ 293 = 18))) from by omega))
          have f18 : (0 : Int) ≤ τ 89 293 ∧ τ 89 293 ≤ 999 := hIτ 89 293
          have y19 : σ10 89 295 = τ 89 295 := ((tw_ne1 eσ10 (by omega))).trans (hGσ7 89 295 (show ¬ ((89 = 88 ∧ (295 = 17 ∨ 295 = 18))) from by omega))
          have f20 : (0 : Int) ≤ τ 89 295 ∧ τ 89 295 ≤ 999 := hIτ 89 295
          refine j_callV (pc := 88) (As := []) (st := []) (c_X12_keepDraft hM σ10 hIσ10 (DQ_dr (DQ_F i0 (fun j => ((tw_ne1 eσ10 (by omega))).trans (hGσ7 93 j (show ¬ ((93 = 88 ∧ (j = 17 ∨ j = 18))) from by omega))) (fun j => ((tw_ne1 eσ10 (by omega))).trans (hGσ7 94 j (show ¬ ((94 = 88 ∧ (j = 17 ∨ j = 18))) from by omega))) (by omega)) (by omega)) (by omega) (by omega)) mv_X12_68 rfl rfl rfl (a_88 hM) dX12_text_88 ⟨Nat.le_of_ble_eq_true rfl, Nat.le_of_ble_eq_true rfl⟩ ⟨Nat.le_refl _, Nat.le_refl _⟩ rfl (Nat.le_of_ble_eq_true rfl) rfl (fun z21 σ22 hz21 => ?_)
          obtain ⟨rfl, hIσ22, hGσ22, q23_0⟩ := hz21
          replace q23_0 : mI σ22 := q23_0
          have hFσ22 : tw_F (fun c j => (c = 88 ∧ (j = 9 ∨ j = 10 ∨ j = 12 ∨ j = 13 ∨ j = 14 ∨ j = 15 ∨ j = 16 ∨ j = 17 ∨ j = 18)) ∨ (c = 89 ∧ j < 100) ∨ (90 ≤ c ∧ c < 98)) σ σ22 := tw_F_tr hFσ10 hGσ22 (fun c j q => (show (c = 88 ∧ (j = 9 ∨ j = 10 ∨ j = 12 ∨ j = 13 ∨ j = 14 ∨ j = 15 ∨ j = 16 ∨ j = 17 ∨ j = 18)) ∨ (c = 89 ∧ j < 100) ∨ (90 ≤ c ∧ c < 98) from by replace q : (c = 89 ∧ j < 100) ∨ (90 ≤ c ∧ c < 93) := q; omega))
          refine j_st (st' := []) rfl ?_
          refine j_iload_n (pc := 91) dX12_text_91 rfl rfl ?_
          have y25 : σ22 88 12 = 0 := ((hGσ22 88 12 (show ¬ ((88 = 89 ∧ 12 < 100) ∨ (90 ≤ 88 ∧ 88 < 93)) from by omega))).trans (tw_eq1 eσ10)
          have y26 : σ22 88 17 = σ7 88 17 := ((hGσ22 88 17 (show ¬ ((88 = 89 ∧ 17 < 100) ∨ (90 ≤ 88 ∧ 88 < 93)) from by omega))).trans (tw_ne1 eσ10 (by omega))
          exact j_iret (pc := 92) ⟨rfl, rfl⟩ dX12_text_92 rfl ⟨_, rfl, ⟨by omega, by omega⟩, hIσ22, hFσ22, (by first | exact q23_0 | exact mI_kept i1 (fun j hj => rfl) (fun j => rfl) (rfl) hIτ), by omega, (by rw [← pm]; first | exact (mtxt_f (by omega)).symm | exact (mtxt_t (by omega)).symm | (rw [mtxt_f (by omega)]; omega) | (rw [mtxt_t (by omega)]; omega)), (by rw [← pm]; show _ = (aM _) 4; rw [aM_4]; omega)⟩
        · refine j_bipush (pc := 79) dX12_text_79 rfl ?_
          refine j_aload_n (pc := 81) dX12_text_81 rfl rfl ?_
          refine j_getI (pc := 82) fl_X12_97 dX12_text_82 (a_88 hM) rfl ?_
          refine j_topV (show σ10 88 18 = σ7 88 18 from (tw_ne1 eσ10 (by omega))) ?_
          have f27 : (0 : Int) ≤ σ7 88 18 ∧ σ7 88 18 ≤ 400 := hIσ7 88 18
          refine j_isub (pc := 85) dX12_text_85 ?_
          have y28 : σ10 88 12 = 0 := (tw_eq1 eσ10)
          have y29 : σ10 88 17 = σ7 88 17 := (tw_ne1 eσ10 (by omega))
          exact j_iret (pc := 86) ⟨rfl, rfl⟩ dX12_text_86 rfl ⟨_, rfl, ⟨by omega, by omega⟩, hIσ10, hFσ10, (by first | exact q8_0 | exact mI_kept i1 (fun j hj => ((tw_ne1 eσ10 (by omega))).trans (hGσ7 89 j (show ¬ ((89 = 88 ∧ (j = 17 ∨ j = 18))) from by omega))) (fun j => ((tw_ne1 eσ10 (by omega))).trans (hGσ7 90 j (show ¬ ((90 = 88 ∧ (j = 17 ∨ j = 18))) from by omega))) (((tw_ne1 eσ10 (by omega))).trans (hGσ7 91 0 (show ¬ ((91 = 88 ∧ (0 = 17 ∨ 0 = 18))) from by omega))) hIτ), by omega, (by rw [← pm]; first | exact (mtxt_f (by omega)).symm | exact (mtxt_t (by omega)).symm | (rw [mtxt_f (by omega)]; omega) | (rw [mtxt_t (by omega)]; omega)), (by rw [← pm]; show _ = (aM _) 4; rw [aM_4]; omega)⟩
      · refine j_iconst (pc := 58) dX12_text_58 ?_
        refine j_goto (pc := 59) (tgt := 63) dX12_text_59 rfl ?_
        refine j_iconst (pc := 63) dX12_text_63 ?_
        refine j_callV (pc := 64) (As := [vI 1, vI 5]) (st := []) (c_X12_needs hM 1 ⟨by omega, by omega⟩ 5 ⟨by omega, by omega⟩ τ hIτ) mv_X12_129 rfl rfl rfl (a_88 hM) dX12_text_64 ⟨Nat.le_of_ble_eq_true rfl, Nat.le_of_ble_eq_true rfl⟩ ⟨Nat.le_refl _, Nat.le_refl _⟩ rfl (Nat.le_of_ble_eq_true rfl) rfl (fun z30 σ31 hz30 => ?_)
        obtain ⟨rfl, hIσ31, hGσ31, q32_0, q32_1, q32_2⟩ := hz30
        replace q32_0 : (¬ (1 : Int) = 0 ∧ σ31 88 17 = τ 88 17) ∨ ((1 : Int) = 0 ∧ τ 88 17 = 0 ∧ σ31 88 17 = (5 : Int)) ∨ ((1 : Int) = 0 ∧ ¬ τ 88 17 = 0 ∧ σ31 88 17 = τ 88 17) := q32_0
        replace q32_1 : (¬ (1 : Int) = 0 ∧ σ31 88 17 = τ 88 17 ∧ σ31 88 18 = τ 88 18) ∨ ((1 : Int) = 0 ∧ τ 88 17 = 0 ∧ σ31 88 17 = (5 : Int) ∧ σ31 88 18 = τ 88 14) ∨ ((1 : Int) = 0 ∧ ¬ τ 88 17 = 0 ∧ σ31 88 17 = τ 88 17 ∧ σ31 88 18 = τ 88 18) := q32_1
        replace q32_2 : aM σ31 = need (decide (¬ (1 : Int) = 0)) (5 : Int) (aM τ) := q32_2
        have hFσ31 : tw_F (fun c j => (c = 88 ∧ (j = 9 ∨ j = 10 ∨ j = 12 ∨ j = 13 ∨ j = 14 ∨ j = 15 ∨ j = 16 ∨ j = 17 ∨ j = 18)) ∨ (c = 89 ∧ j < 100) ∨ (90 ≤ c ∧ c < 98)) σ σ31 := tw_F_tr hFτ hGσ31 (fun c j q => (show (c = 88 ∧ (j = 9 ∨ j = 10 ∨ j = 12 ∨ j = 13 ∨ j = 14 ∨ j = 15 ∨ j = 16 ∨ j = 17 ∨ j = 18)) ∨ (c = 89 ∧ j < 100) ∨ (90 ≤ c ∧ c < 98) from by replace q : (c = 88 ∧ (j = 17 ∨ j = 18)) := q; omega))
        refine j_st (st' := []) rfl ?_
        have pm := parse_M i4 (by omega) ((q32_2).trans (need_cg (g' := decide (τ 88 10 ≤ τ 93 0)) (fun _ => by first | exact (decide_eq_true (by omega)).trans (decide_eq_true (by omega)).symm | exact (decide_eq_false (by omega)).trans (decide_eq_false (by omega)).symm)))
        refine j_aload_n (pc := 67) dX12_text_67 rfl rfl ?_
        refine j_iconst (pc := 68) dX12_text_68 ?_
        refine j_putI (pc := 69) fl_X12_86 fp_X12_12 dX12_text_69 (a_88 hM) rfl (j_nm (fun σ34 (eσ34 : σ34 = tw_up σ31 88 12 0) => ?_))
        have hIσ34 : tw_I σ34 := tw_I_up hIσ31 eσ34 (show (0 : Int) ≤ 0 ∧ 0 ≤ 400 from ⟨by omega, by omega⟩)
        have hFσ34 : tw_F (fun c j => (c = 88 ∧ (j = 9 ∨ j = 10 ∨ j = 12 ∨ j = 13 ∨ j = 14 ∨ j = 15 ∨ j = 16 ∨ j = 17 ∨ j = 18)) ∨ (c = 89 ∧ j < 100) ∨ (90 ≤ c ∧ c < 98)) σ σ34 := tw_F_up hFσ31 eσ34 (show (88 = 88 ∧ (12 = 9 ∨ 12 = 10 ∨ 12 = 12 ∨ 12 = 13 ∨ 12 = 14 ∨ 12 = 15 ∨ 12 = 16 ∨ 12 = 17 ∨ 12 = 18)) ∨ (88 = 89 ∧ 12 < 100) ∨ (90 ≤ 88 ∧ 88 < 98) from by omega)
        refine j_aload_n (pc := 72) dX12_text_72 rfl rfl ?_
        refine j_getI (pc := 73) fl_X12_91 dX12_text_73 (a_88 hM) rfl ?_
        refine j_topV (show σ34 88 17 = σ31 88 17 from (tw_ne1 eσ34 (by omega))) ?_
        have f35 : (0 : Int) ≤ σ31 88 17 ∧ σ31 88 17 ≤ 5 := hIσ31 88 17
        refine j_ifR_le (pc := 76) (tgt := 87) ⟨by omega, by omega⟩ dX12_text_76 rfl (fun h36 => ?_) (fun h36 => ?_)
        · have z9 : σ34 88 17 = 0 := ((tw_ne1 eσ34 (by omega))).trans (by omega)
          refine j_aload_n (pc := 87) dX12_text_87 rfl rfl ?_
          have y37 : σ34 89 193 = τ 89 193 := ((tw_ne1 eσ34 (by omega))).trans (hGσ31 89 193 (show ¬ ((89 = 88 ∧ (193 = 17 ∨ 193 = 18))) from by omega))
          have f38 : (0 : Int) ≤ τ 89 193 ∧ τ 89 193 ≤ 999 := hIτ 89 193
          have y39 : σ34 89 195 = τ 89 195 := ((tw_ne1 eσ34 (by omega))).trans (hGσ31 89 195 (show ¬ ((89 = 88 ∧ (195 = 17 ∨ 195 = 18))) from by omega))
          have f40 : (0 : Int) ≤ τ 89 195 ∧ τ 89 195 ≤ 999 := hIτ 89 195
          have y41 : σ34 89 293 = τ 89 293 := ((tw_ne1 eσ34 (by omega))).trans (hGσ31 89 293 (show ¬ ((89 = 88 ∧ (293 = 17 ∨ 293 = 18))) from by omega))
          have f42 : (0 : Int) ≤ τ 89 293 ∧ τ 89 293 ≤ 999 := hIτ 89 293
          have y43 : σ34 89 295 = τ 89 295 := ((tw_ne1 eσ34 (by omega))).trans (hGσ31 89 295 (show ¬ ((89 = 88 ∧ (295 = 17 ∨ 295 = 18))) from by omega))
          have f44 : (0 : Int) ≤ τ 89 295 ∧ τ 89 295 ≤ 999 := hIτ 89 295
          refine j_callV (pc := 88) (As := []) (st := []) (c_X12_keepDraft hM σ34 hIσ34 (DQ_dr (DQ_F i0 (fun j => ((tw_ne1 eσ34 (by omega))).trans (hGσ31 93 j (show ¬ ((93 = 88 ∧ (j = 17 ∨ j = 18))) from by omega))) (fun j => ((tw_ne1 eσ34 (by omega))).trans (hGσ31 94 j (show ¬ ((94 = 88 ∧ (j = 17 ∨ j = 18))) from by omega))) (by omega)) (by omega)) (by omega) (by omega)) mv_X12_68 rfl rfl rfl (a_88 hM) dX12_text_88 ⟨Nat.le_of_ble_eq_true rfl, Nat.le_of_ble_eq_true rfl⟩ ⟨Nat.le_refl _, Nat.le_refl _⟩ rfl (Nat.le_of_ble_eq_true rfl) rfl (fun z45 σ46 hz45 => ?_)
          obtain ⟨rfl, hIσ46, hGσ46, q47_0⟩ := hz45
          replace q47_0 : mI σ46 := q47_0
          have hFσ46 : tw_F (fun c j => (c = 88 ∧ (j = 9 ∨ j = 10 ∨ j = 12 ∨ j = 13 ∨ j = 14 ∨ j = 15 ∨ j = 16 ∨ j = 17 ∨ j = 18)) ∨ (c = 89 ∧ j < 100) ∨ (90 ≤ c ∧ c < 98)) σ σ46 := tw_F_tr hFσ34 hGσ46 (fun c j q => (show (c = 88 ∧ (j = 9 ∨ j = 10 ∨ j = 12 ∨ j = 13 ∨ j = 14 ∨ j = 15 ∨ j = 16 ∨ j = 17 ∨ j = 18)) ∨ (c = 89 ∧ j < 100) ∨ (90 ≤ c ∧ c < 98) from by replace q : (c = 89 ∧ j < 100) ∨ (90 ≤ c ∧ c < 93) := q; omega))
          refine j_st (st' := []) rfl ?_
          refine j_iload_n (pc := 91) dX12_text_91 rfl rfl ?_
          have y49 : σ46 88 12 = 0 := ((hGσ46 88 12 (show ¬ ((88 = 89 ∧ 12 < 100) ∨ (90 ≤ 88 ∧ 88 < 93)) from by omega))).trans (tw_eq1 eσ34)
          have y50 : σ46 88 17 = σ31 88 17 := ((hGσ46 88 17 (show ¬ ((88 = 89 ∧ 17 < 100) ∨ (90 ≤ 88 ∧ 88 < 93)) from by omega))).trans (tw_ne1 eσ34 (by omega))
          exact j_iret (pc := 92) ⟨rfl, rfl⟩ dX12_text_92 rfl ⟨_, rfl, ⟨by omega, by omega⟩, hIσ46, hFσ46, (by first | exact q47_0 | exact mI_kept i1 (fun j hj => rfl) (fun j => rfl) (rfl) hIτ), by omega, (by rw [← pm]; first | exact (mtxt_f (by omega)).symm | exact (mtxt_t (by omega)).symm | (rw [mtxt_f (by omega)]; omega) | (rw [mtxt_t (by omega)]; omega)), (by rw [← pm]; show _ = (aM _) 4; rw [aM_4]; omega)⟩
        · refine j_bipush (pc := 79) dX12_text_79 rfl ?_
          refine j_aload_n (pc := 81) dX12_text_81 rfl rfl ?_
          refine j_getI (pc := 82) fl_X12_97 dX12_text_82 (a_88 hM) rfl ?_
          refine j_topV (show σ34 88 18 = σ31 88 18 from (tw_ne1 eσ34 (by omega))) ?_
          have f51 : (0 : Int) ≤ σ31 88 18 ∧ σ31 88 18 ≤ 400 := hIσ31 88 18
          refine j_isub (pc := 85) dX12_text_85 ?_
          have y52 : σ34 88 12 = 0 := (tw_eq1 eσ34)
          have y53 : σ34 88 17 = σ31 88 17 := (tw_ne1 eσ34 (by omega))
          exact j_iret (pc := 86) ⟨rfl, rfl⟩ dX12_text_86 rfl ⟨_, rfl, ⟨by omega, by omega⟩, hIσ34, hFσ34, (by first | exact q32_0 | exact mI_kept i1 (fun j hj => ((tw_ne1 eσ34 (by omega))).trans (hGσ31 89 j (show ¬ ((89 = 88 ∧ (j = 17 ∨ j = 18))) from by omega))) (fun j => ((tw_ne1 eσ34 (by omega))).trans (hGσ31 90 j (show ¬ ((90 = 88 ∧ (j = 17 ∨ j = 18))) from by omega))) (((tw_ne1 eσ34 (by omega))).trans (hGσ31 91 0 (show ¬ ((91 = 88 ∧ (0 = 17 ∨ 0 = 18))) from by omega))) hIτ), by omega, (by rw [← pm]; first | exact (mtxt_f (by omega)).symm | exact (mtxt_t (by omega)).symm | (rw [mtxt_f (by omega)]; omega) | (rw [mtxt_t (by omega)]; omega)), (by rw [← pm]; show _ = (aM _) 4; rw [aM_4]; omega)⟩
    · refine j_aload_n (pc := 27) dX12_text_27 rfl rfl ?_
      refine j_getI (pc := 28) fl_X12_115 dX12_text_28 (a_88 hM) rfl ?_
      have f54 : (-2147483648 : Int) ≤ τ 88 15 ∧ τ 88 15 ≤ 2147483647 := hIτ 88 15
      refine j_ifR_eq (pc := 31) (tgt := 44) ⟨by omega, by omega⟩ dX12_text_31 rfl (fun h55 => ?_) (fun h55 => ?_)
      · refine j_aload_n (pc := 44) dX12_text_44 rfl rfl ?_
        refine j_aload_n (pc := 45) dX12_text_45 rfl rfl ?_
        refine j_getI (pc := 46) fl_X12_75 dX12_text_46 (a_88 hM) rfl ?_
        have f56 : (0 : Int) ≤ τ 88 10 ∧ τ 88 10 ≤ 40 := hIτ 88 10
        refine j_aload_n (pc := 49) dX12_text_49 rfl rfl ?_
        refine j_getR (pc := 50) (r := 93) fl_X12_23 dX12_text_50 (a_88 hM) rfl ?_
        refine j_iconst (pc := 53) dX12_text_53 ?_
        refine j_iald (pc := 54) dX12_text_54 (a_93 hM) (by omega) (by omega) (by decide) ?_
        refine j_topV (show τ 93 (Int.toNat 0) = τ 93 0 from rfl) ?_
        have f57 : (-2147483648 : Int) ≤ τ 93 0 ∧ τ 93 0 ≤ 2147483647 := hIτ 93 0
        refine j_icmpR_gt (pc := 55) (tgt := 62) ⟨by omega, by omega⟩ ⟨by omega, by omega⟩ dX12_text_55 rfl (fun h58 => ?_) (fun h58 => ?_)
        · refine j_iconst (pc := 62) dX12_text_62 ?_
          refine j_iconst (pc := 63) dX12_text_63 ?_
          refine j_callV (pc := 64) (As := [vI 0, vI 5]) (st := []) (c_X12_needs hM 0 ⟨by omega, by omega⟩ 5 ⟨by omega, by omega⟩ τ hIτ) mv_X12_129 rfl rfl rfl (a_88 hM) dX12_text_64 ⟨Nat.le_of_ble_eq_true rfl, Nat.le_of_ble_eq_true rfl⟩ ⟨Nat.le_refl _, Nat.le_refl _⟩ rfl (Nat.le_of_ble_eq_true rfl) rfl (fun z59 σ60 hz59 => ?_)
          obtain ⟨rfl, hIσ60, hGσ60, q61_0, q61_1, q61_2⟩ := hz59
          replace q61_0 : (¬ (0 : Int) = 0 ∧ σ60 88 17 = τ 88 17) ∨ ((0 : Int) = 0 ∧ τ 88 17 = 0 ∧ σ60 88 17 = (5 : Int)) ∨ ((0 : Int) = 0 ∧ ¬ τ 88 17 = 0 ∧ σ60 88 17 = τ 88 17) := q61_0
          replace q61_1 : (¬ (0 : Int) = 0 ∧ σ60 88 17 = τ 88 17 ∧ σ60 88 18 = τ 88 18) ∨ ((0 : Int) = 0 ∧ τ 88 17 = 0 ∧ σ60 88 17 = (5 : Int) ∧ σ60 88 18 = τ 88 14) ∨ ((0 : Int) = 0 ∧ ¬ τ 88 17 = 0 ∧ σ60 88 17 = τ 88 17 ∧ σ60 88 18 = τ 88 18) := q61_1
          replace q61_2 : aM σ60 = need (decide (¬ (0 : Int) = 0)) (5 : Int) (aM τ) := q61_2
          have hFσ60 : tw_F (fun c j => (c = 88 ∧ (j = 9 ∨ j = 10 ∨ j = 12 ∨ j = 13 ∨ j = 14 ∨ j = 15 ∨ j = 16 ∨ j = 17 ∨ j = 18)) ∨ (c = 89 ∧ j < 100) ∨ (90 ≤ c ∧ c < 98)) σ σ60 := tw_F_tr hFτ hGσ60 (fun c j q => (show (c = 88 ∧ (j = 9 ∨ j = 10 ∨ j = 12 ∨ j = 13 ∨ j = 14 ∨ j = 15 ∨ j = 16 ∨ j = 17 ∨ j = 18)) ∨ (c = 89 ∧ j < 100) ∨ (90 ≤ c ∧ c < 98) from by replace q : (c = 88 ∧ (j = 17 ∨ j = 18)) := q; omega))
          refine j_st (st' := []) rfl ?_
          have pm := parse_M i4 (by omega) ((q61_2).trans (need_cg (g' := decide (τ 88 10 ≤ τ 93 0)) (fun _ => by first | exact (decide_eq_true (by omega)).trans (decide_eq_true (by omega)).symm | exact (decide_eq_false (by omega)).trans (decide_eq_false (by omega)).symm)))
          refine j_aload_n (pc := 67) dX12_text_67 rfl rfl ?_
          refine j_iconst (pc := 68) dX12_text_68 ?_
          refine j_putI (pc := 69) fl_X12_86 fp_X12_12 dX12_text_69 (a_88 hM) rfl (j_nm (fun σ63 (eσ63 : σ63 = tw_up σ60 88 12 0) => ?_))
          have hIσ63 : tw_I σ63 := tw_I_up hIσ60 eσ63 (show (0 : Int) ≤ 0 ∧ 0 ≤ 400 from ⟨by omega, by omega⟩)
          have hFσ63 : tw_F (fun c j => (c = 88 ∧ (j = 9 ∨ j = 10 ∨ j = 12 ∨ j = 13 ∨ j = 14 ∨ j = 15 ∨ j = 16 ∨ j = 17 ∨ j = 18)) ∨ (c = 89 ∧ j < 100) ∨ (90 ≤ c ∧ c < 98)) σ σ63 := tw_F_up hFσ60 eσ63 (show (88 = 88 ∧ (12 = 9 ∨ 12 = 10 ∨ 12 = 12 ∨ 12 = 13 ∨ 12 = 14 ∨ 12 = 15 ∨ 12 = 16 ∨ 12 = 17 ∨ 12 = 18)) ∨ (88 = 89 ∧ 12 < 100) ∨ (90 ≤ 88 ∧ 88 < 98) from by omega)
          refine j_aload_n (pc := 72) dX12_text_72 rfl rfl ?_
          refine j_getI (pc := 73) fl_X12_91 dX12_text_73 (a_88 hM) rfl ?_
          refine j_topV (show σ63 88 17 = σ60 88 17 from (tw_ne1 eσ63 (by omega))) ?_
          have f64 : (0 : Int) ≤ σ60 88 17 ∧ σ60 88 17 ≤ 5 := hIσ60 88 17
          refine j_ifR_le (pc := 76) (tgt := 87) ⟨by omega, by omega⟩ dX12_text_76 rfl (fun h65 => ?_) (fun h65 => ?_)
          · have z9 : σ63 88 17 = 0 := ((tw_ne1 eσ63 (by omega))).trans (by omega)
            refine j_aload_n (pc := 87) dX12_text_87 rfl rfl ?_
            have y66 : σ63 89 193 = τ 89 193 := ((tw_ne1 eσ63 (by omega))).trans (hGσ60 89 193 (show ¬ ((89 = 88 ∧ (193 = 17 ∨ 193 = 18))) from by omega))
            have f67 : (0 : Int) ≤ τ 89 193 ∧ τ 89 193 ≤ 999 := hIτ 89 193
            have y68 : σ63 89 195 = τ 89 195 := ((tw_ne1 eσ63 (by omega))).trans (hGσ60 89 195 (show ¬ ((89 = 88 ∧ (195 = 17 ∨ 195 = 18))) from by omega))
            have f69 : (0 : Int) ≤ τ 89 195 ∧ τ 89 195 ≤ 999 := hIτ 89 195
            have y70 : σ63 89 293 = τ 89 293 := ((tw_ne1 eσ63 (by omega))).trans (hGσ60 89 293 (show ¬ ((89 = 88 ∧ (293 = 17 ∨ 293 = 18))) from by omega))
            have f71 : (0 : Int) ≤ τ 89 293 ∧ τ 89 293 ≤ 999 := hIτ 89 293
            have y72 : σ63 89 295 = τ 89 295 := ((tw_ne1 eσ63 (by omega))).trans (hGσ60 89 295 (show ¬ ((89 = 88 ∧ (295 = 17 ∨ 295 = 18))) from by omega))
            have f73 : (0 : Int) ≤ τ 89 295 ∧ τ 89 295 ≤ 999 := hIτ 89 295
            refine j_callV (pc := 88) (As := []) (st := []) (c_X12_keepDraft hM σ63 hIσ63 (DQ_dr (DQ_F i0 (fun j => ((tw_ne1 eσ63 (by omega))).trans (hGσ60 93 j (show ¬ ((93 = 88 ∧ (j = 17 ∨ j = 18))) from by omega))) (fun j => ((tw_ne1 eσ63 (by omega))).trans (hGσ60 94 j (show ¬ ((94 = 88 ∧ (j = 17 ∨ j = 18))) from by omega))) (by omega)) (by omega)) (by omega) (by omega)) mv_X12_68 rfl rfl rfl (a_88 hM) dX12_text_88 ⟨Nat.le_of_ble_eq_true rfl, Nat.le_of_ble_eq_true rfl⟩ ⟨Nat.le_refl _, Nat.le_refl _⟩ rfl (Nat.le_of_ble_eq_true rfl) rfl (fun z74 σ75 hz74 => ?_)
            obtain ⟨rfl, hIσ75, hGσ75, q76_0⟩ := hz74
            replace q76_0 : mI σ75 := q76_0
            have hFσ75 : tw_F (fun c j => (c = 88 ∧ (j = 9 ∨ j = 10 ∨ j = 12 ∨ j = 13 ∨ j = 14 ∨ j = 15 ∨ j = 16 ∨ j = 17 ∨ j = 18)) ∨ (c = 89 ∧ j < 100) ∨ (90 ≤ c ∧ c < 98)) σ σ75 := tw_F_tr hFσ63 hGσ75 (fun c j q => (show (c = 88 ∧ (j = 9 ∨ j = 10 ∨ j = 12 ∨ j = 13 ∨ j = 14 ∨ j = 15 ∨ j = 16 ∨ j = 17 ∨ j = 18)) ∨ (c = 89 ∧ j < 100) ∨ (90 ≤ c ∧ c < 98) from by replace q : (c = 89 ∧ j < 100) ∨ (90 ≤ c ∧ c < 93) := q; omega))
            refine j_st (st' := []) rfl ?_
            refine j_iload_n (pc := 91) dX12_text_91 rfl rfl ?_
            have y78 : σ75 88 12 = 0 := ((hGσ75 88 12 (show ¬ ((88 = 89 ∧ 12 < 100) ∨ (90 ≤ 88 ∧ 88 < 93)) from by omega))).trans (tw_eq1 eσ63)
            have y79 : σ75 88 17 = σ60 88 17 := ((hGσ75 88 17 (show ¬ ((88 = 89 ∧ 17 < 100) ∨ (90 ≤ 88 ∧ 88 < 93)) from by omega))).trans (tw_ne1 eσ63 (by omega))
            exact j_iret (pc := 92) ⟨rfl, rfl⟩ dX12_text_92 rfl ⟨_, rfl, ⟨by omega, by omega⟩, hIσ75, hFσ75, (by first | exact q76_0 | exact mI_kept i1 (fun j hj => rfl) (fun j => rfl) (rfl) hIτ), by omega, (by rw [← pm]; first | exact (mtxt_f (by omega)).symm | exact (mtxt_t (by omega)).symm | (rw [mtxt_f (by omega)]; omega) | (rw [mtxt_t (by omega)]; omega)), (by rw [← pm]; show _ = (aM _) 4; rw [aM_4]; omega)⟩
          · refine j_bipush (pc := 79) dX12_text_79 rfl ?_
            refine j_aload_n (pc := 81) dX12_text_81 rfl rfl ?_
            refine j_getI (pc := 82) fl_X12_97 dX12_text_82 (a_88 hM) rfl ?_
            refine j_topV (show σ63 88 18 = σ60 88 18 from (tw_ne1 eσ63 (by omega))) ?_
            have f80 : (0 : Int) ≤ σ60 88 18 ∧ σ60 88 18 ≤ 400 := hIσ60 88 18
            refine j_isub (pc := 85) dX12_text_85 ?_
            have y81 : σ63 88 12 = 0 := (tw_eq1 eσ63)
            have y82 : σ63 88 17 = σ60 88 17 := (tw_ne1 eσ63 (by omega))
            exact j_iret (pc := 86) ⟨rfl, rfl⟩ dX12_text_86 rfl ⟨_, rfl, ⟨by omega, by omega⟩, hIσ63, hFσ63, (by first | exact q61_0 | exact mI_kept i1 (fun j hj => ((tw_ne1 eσ63 (by omega))).trans (hGσ60 89 j (show ¬ ((89 = 88 ∧ (j = 17 ∨ j = 18))) from by omega))) (fun j => ((tw_ne1 eσ63 (by omega))).trans (hGσ60 90 j (show ¬ ((90 = 88 ∧ (j = 17 ∨ j = 18))) from by omega))) (((tw_ne1 eσ63 (by omega))).trans (hGσ60 91 0 (show ¬ ((91 = 88 ∧ (0 = 17 ∨ 0 = 18))) from by omega))) hIτ), by omega, (by rw [← pm]; first | exact (mtxt_f (by omega)).symm | exact (mtxt_t (by omega)).symm | (rw [mtxt_f (by omega)]; omega) | (rw [mtxt_t (by omega)]; omega)), (by rw [← pm]; show _ = (aM _) 4; rw [aM_4]; omega)⟩
        · refine j_iconst (pc := 58) dX12_text_58 ?_
          refine j_goto (pc := 59) (tgt := 63) dX12_text_59 rfl ?_
          refine j_iconst (pc := 63) dX12_text_63 ?_
          refine j_callV (pc := 64) (As := [vI 1, vI 5]) (st := []) (c_X12_needs hM 1 ⟨by omega, by omega⟩ 5 ⟨by omega, by omega⟩ τ hIτ) mv_X12_129 rfl rfl rfl (a_88 hM) dX12_text_64 ⟨Nat.le_of_ble_eq_true rfl, Nat.le_of_ble_eq_true rfl⟩ ⟨Nat.le_refl _, Nat.le_refl _⟩ rfl (Nat.le_of_ble_eq_true rfl) rfl (fun z83 σ84 hz83 => ?_)
          obtain ⟨rfl, hIσ84, hGσ84, q85_0, q85_1, q85_2⟩ := hz83
          replace q85_0 : (¬ (1 : Int) = 0 ∧ σ84 88 17 = τ 88 17) ∨ ((1 : Int) = 0 ∧ τ 88 17 = 0 ∧ σ84 88 17 = (5 : Int)) ∨ ((1 : Int) = 0 ∧ ¬ τ 88 17 = 0 ∧ σ84 88 17 = τ 88 17) := q85_0
          replace q85_1 : (¬ (1 : Int) = 0 ∧ σ84 88 17 = τ 88 17 ∧ σ84 88 18 = τ 88 18) ∨ ((1 : Int) = 0 ∧ τ 88 17 = 0 ∧ σ84 88 17 = (5 : Int) ∧ σ84 88 18 = τ 88 14) ∨ ((1 : Int) = 0 ∧ ¬ τ 88 17 = 0 ∧ σ84 88 17 = τ 88 17 ∧ σ84 88 18 = τ 88 18) := q85_1
          replace q85_2 : aM σ84 = need (decide (¬ (1 : Int) = 0)) (5 : Int) (aM τ) := q85_2
          have hFσ84 : tw_F (fun c j => (c = 88 ∧ (j = 9 ∨ j = 10 ∨ j = 12 ∨ j = 13 ∨ j = 14 ∨ j = 15 ∨ j = 16 ∨ j = 17 ∨ j = 18)) ∨ (c = 89 ∧ j < 100) ∨ (90 ≤ c ∧ c < 98)) σ σ84 := tw_F_tr hFτ hGσ84 (fun c j q => (show (c = 88 ∧ (j = 9 ∨ j = 10 ∨ j = 12 ∨ j = 13 ∨ j = 14 ∨ j = 15 ∨ j = 16 ∨ j = 17 ∨ j = 18)) ∨ (c = 89 ∧ j < 100) ∨ (90 ≤ c ∧ c < 98) from by replace q : (c = 88 ∧ (j = 17 ∨ j = 18)) := q; omega))
          refine j_st (st' := []) rfl ?_
          have pm := parse_M i4 (by omega) ((q85_2).trans (need_cg (g' := decide (τ 88 10 ≤ τ 93 0)) (fun _ => by first | exact (decide_eq_true (by omega)).trans (decide_eq_true (by omega)).symm | exact (decide_eq_false (by omega)).trans (decide_eq_false (by omega)).symm)))
          refine j_aload_n (pc := 67) dX12_text_67 rfl rfl ?_
          refine j_iconst (pc := 68) dX12_text_68 ?_
          refine j_putI (pc := 69) fl_X12_86 fp_X12_12 dX12_text_69 (a_88 hM) rfl (j_nm (fun σ87 (eσ87 : σ87 = tw_up σ84 88 12 0) => ?_))
          have hIσ87 : tw_I σ87 := tw_I_up hIσ84 eσ87 (show (0 : Int) ≤ 0 ∧ 0 ≤ 400 from ⟨by omega, by omega⟩)
          have hFσ87 : tw_F (fun c j => (c = 88 ∧ (j = 9 ∨ j = 10 ∨ j = 12 ∨ j = 13 ∨ j = 14 ∨ j = 15 ∨ j = 16 ∨ j = 17 ∨ j = 18)) ∨ (c = 89 ∧ j < 100) ∨ (90 ≤ c ∧ c < 98)) σ σ87 := tw_F_up hFσ84 eσ87 (show (88 = 88 ∧ (12 = 9 ∨ 12 = 10 ∨ 12 = 12 ∨ 12 = 13 ∨ 12 = 14 ∨ 12 = 15 ∨ 12 = 16 ∨ 12 = 17 ∨ 12 = 18)) ∨ (88 = 89 ∧ 12 < 100) ∨ (90 ≤ 88 ∧ 88 < 98) from by omega)
          refine j_aload_n (pc := 72) dX12_text_72 rfl rfl ?_
          refine j_getI (pc := 73) fl_X12_91 dX12_text_73 (a_88 hM) rfl ?_
          refine j_topV (show σ87 88 17 = σ84 88 17 from (tw_ne1 eσ87 (by omega))) ?_
          have f88 : (0 : Int) ≤ σ84 88 17 ∧ σ84 88 17 ≤ 5 := hIσ84 88 17
          refine j_ifR_le (pc := 76) (tgt := 87) ⟨by omega, by omega⟩ dX12_text_76 rfl (fun h89 => ?_) (fun h89 => ?_)
          · have z9 : σ87 88 17 = 0 := ((tw_ne1 eσ87 (by omega))).trans (by omega)
            refine j_aload_n (pc := 87) dX12_text_87 rfl rfl ?_
            have y90 : σ87 89 193 = τ 89 193 := ((tw_ne1 eσ87 (by omega))).trans (hGσ84 89 193 (show ¬ ((89 = 88 ∧ (193 = 17 ∨ 193 = 18))) from by omega))
            have f91 : (0 : Int) ≤ τ 89 193 ∧ τ 89 193 ≤ 999 := hIτ 89 193
            have y92 : σ87 89 195 = τ 89 195 := ((tw_ne1 eσ87 (by omega))).trans (hGσ84 89 195 (show ¬ ((89 = 88 ∧ (195 = 17 ∨ 195 = 18))) from by omega))
            have f93 : (0 : Int) ≤ τ 89 195 ∧ τ 89 195 ≤ 999 := hIτ 89 195
            have y94 : σ87 89 293 = τ 89 293 := ((tw_ne1 eσ87 (by omega))).trans (hGσ84 89 293 (show ¬ ((89 = 88 ∧ (293 = 17 ∨ 293 = 18))) from by omega))
            have f95 : (0 : Int) ≤ τ 89 293 ∧ τ 89 293 ≤ 999 := hIτ 89 293
            have y96 : σ87 89 295 = τ 89 295 := ((tw_ne1 eσ87 (by omega))).trans (hGσ84 89 295 (show ¬ ((89 = 88 ∧ (295 = 17 ∨ 295 = 18))) from by omega))
            have f97 : (0 : Int) ≤ τ 89 295 ∧ τ 89 295 ≤ 999 := hIτ 89 295
            refine j_callV (pc := 88) (As := []) (st := []) (c_X12_keepDraft hM σ87 hIσ87 (DQ_dr (DQ_F i0 (fun j => ((tw_ne1 eσ87 (by omega))).trans (hGσ84 93 j (show ¬ ((93 = 88 ∧ (j = 17 ∨ j = 18))) from by omega))) (fun j => ((tw_ne1 eσ87 (by omega))).trans (hGσ84 94 j (show ¬ ((94 = 88 ∧ (j = 17 ∨ j = 18))) from by omega))) (by omega)) (by omega)) (by omega) (by omega)) mv_X12_68 rfl rfl rfl (a_88 hM) dX12_text_88 ⟨Nat.le_of_ble_eq_true rfl, Nat.le_of_ble_eq_true rfl⟩ ⟨Nat.le_refl _, Nat.le_refl _⟩ rfl (Nat.le_of_ble_eq_true rfl) rfl (fun z98 σ99 hz98 => ?_)
            obtain ⟨rfl, hIσ99, hGσ99, q100_0⟩ := hz98
            replace q100_0 : mI σ99 := q100_0
            have hFσ99 : tw_F (fun c j => (c = 88 ∧ (j = 9 ∨ j = 10 ∨ j = 12 ∨ j = 13 ∨ j = 14 ∨ j = 15 ∨ j = 16 ∨ j = 17 ∨ j = 18)) ∨ (c = 89 ∧ j < 100) ∨ (90 ≤ c ∧ c < 98)) σ σ99 := tw_F_tr hFσ87 hGσ99 (fun c j q => (show (c = 88 ∧ (j = 9 ∨ j = 10 ∨ j = 12 ∨ j = 13 ∨ j = 14 ∨ j = 15 ∨ j = 16 ∨ j = 17 ∨ j = 18)) ∨ (c = 89 ∧ j < 100) ∨ (90 ≤ c ∧ c < 98) from by replace q : (c = 89 ∧ j < 100) ∨ (90 ≤ c ∧ c < 93) := q; omega))
            refine j_st (st' := []) rfl ?_
            refine j_iload_n (pc := 91) dX12_text_91 rfl rfl ?_
            have y102 : σ99 88 12 = 0 := ((hGσ99 88 12 (show ¬ ((88 = 89 ∧ 12 < 100) ∨ (90 ≤ 88 ∧ 88 < 93)) from by omega))).trans (tw_eq1 eσ87)
            have y103 : σ99 88 17 = σ84 88 17 := ((hGσ99 88 17 (show ¬ ((88 = 89 ∧ 17 < 100) ∨ (90 ≤ 88 ∧ 88 < 93)) from by omega))).trans (tw_ne1 eσ87 (by omega))
            exact j_iret (pc := 92) ⟨rfl, rfl⟩ dX12_text_92 rfl ⟨_, rfl, ⟨by omega, by omega⟩, hIσ99, hFσ99, (by first | exact q100_0 | exact mI_kept i1 (fun j hj => rfl) (fun j => rfl) (rfl) hIτ), by omega, (by rw [← pm]; first | exact (mtxt_f (by omega)).symm | exact (mtxt_t (by omega)).symm | (rw [mtxt_f (by omega)]; omega) | (rw [mtxt_t (by omega)]; omega)), (by rw [← pm]; show _ = (aM _) 4; rw [aM_4]; omega)⟩
          · refine j_bipush (pc := 79) dX12_text_79 rfl ?_
            refine j_aload_n (pc := 81) dX12_text_81 rfl rfl ?_
            refine j_getI (pc := 82) fl_X12_97 dX12_text_82 (a_88 hM) rfl ?_
            refine j_topV (show σ87 88 18 = σ84 88 18 from (tw_ne1 eσ87 (by omega))) ?_
            have f104 : (0 : Int) ≤ σ84 88 18 ∧ σ84 88 18 ≤ 400 := hIσ84 88 18
            refine j_isub (pc := 85) dX12_text_85 ?_
            have y105 : σ87 88 12 = 0 := (tw_eq1 eσ87)
            have y106 : σ87 88 17 = σ84 88 17 := (tw_ne1 eσ87 (by omega))
            exact j_iret (pc := 86) ⟨rfl, rfl⟩ dX12_text_86 rfl ⟨_, rfl, ⟨by omega, by omega⟩, hIσ87, hFσ87, (by first | exact q85_0 | exact mI_kept i1 (fun j hj => ((tw_ne1 eσ87 (by omega))).trans (hGσ84 89 j (show ¬ ((89 = 88 ∧ (j = 17 ∨ j = 18))) from by omega))) (fun j => ((tw_ne1 eσ87 (by omega))).trans (hGσ84 90 j (show ¬ ((90 = 88 ∧ (j = 17 ∨ j = 18))) from by omega))) (((tw_ne1 eσ87 (by omega))).trans (hGσ84 91 0 (show ¬ ((91 = 88 ∧ (0 = 17 ∨ 0 = 18))) from by omega))) hIτ), by omega, (by rw [← pm]; first | exact (mtxt_f (by omega)).symm | exact (mtxt_t (by omega)).symm | (rw [mtxt_f (by omega)]; omega) | (rw [mtxt_t (by omega)]; omega)), (by rw [← pm]; show _ = (aM _) 4; rw [aM_4]; omega)⟩
      · refine j_aload_n (pc := 34) dX12_text_34 rfl rfl ?_
        refine j_callV (pc := 35) (As := []) (st := []) (c_X12_readLine hM τ hIτ i0 (by omega) (by rw [fx]; exact hq1)) mv_X12_161 rfl rfl rfl (a_88 hM) dX12_text_35 ⟨Nat.le_of_ble_eq_true rfl, Nat.le_of_ble_eq_true rfl⟩ ⟨Nat.le_refl _, Nat.le_refl _⟩ rfl (Nat.le_of_ble_eq_true rfl) rfl (fun z107 σ108 hz107 => ?_)
        obtain ⟨rfl, hIσ108, hGσ108, q109_0, q109_1, q109_2, q109_3⟩ := hz107
        replace q109_0 : DQ σ108 := q109_0
        replace q109_1 : τ 88 13 ≤ σ108 88 13 := q109_1
        replace q109_2 : ¬ σ108 88 17 = 0 ∨ σ108 88 15 = 0 ∨ τ 88 13 < σ108 88 13 := q109_2
        replace q109_3 : aM σ108 = lineM (fM τ) (aM τ) := q109_3
        have hFσ108 : tw_F (fun c j => (c = 88 ∧ (j = 9 ∨ j = 10 ∨ j = 12 ∨ j = 13 ∨ j = 14 ∨ j = 15 ∨ j = 16 ∨ j = 17 ∨ j = 18)) ∨ (c = 89 ∧ j < 100) ∨ (90 ≤ c ∧ c < 98)) σ σ108 := tw_F_tr hFτ hGσ108 (fun c j q => (show (c = 88 ∧ (j = 9 ∨ j = 10 ∨ j = 12 ∨ j = 13 ∨ j = 14 ∨ j = 15 ∨ j = 16 ∨ j = 17 ∨ j = 18)) ∨ (c = 89 ∧ j < 100) ∨ (90 ≤ c ∧ c < 98) from by replace q : (c = 88 ∧ (j = 9 ∨ j = 10 ∨ j = 13 ∨ j = 14 ∨ j = 15 ∨ j = 16 ∨ j = 17 ∨ j = 18)) ∨ (93 ≤ c ∧ c < 98) := q; omega))
        refine j_st (st' := []) rfl ?_
        skip
        skip
        skip
        have y1 : σ108 88 17 = σ108 88 17 := by first | rfl | exact tw_ne1 _ (by omega)
        have y2 : σ108 88 15 = σ108 88 15 := by first | rfl | exact tw_ne1 _ (by omega)
        have y3 : σ108 88 13 = σ108 88 13 := by first | rfl | exact tw_ne1 _ (by omega)
        have y4 : (0 : Int) ≤ σ108 88 13 ∧ σ108 88 13 ≤ 400 := hIσ108 88 13
        have lt9 := mTx_lt (f := τ 88 17) (s := τ 88 15) (p := τ 88 13) (f2 := σ108 88 17) (s2 := σ108 88 15) (p2 := σ108 88 13) (by omega) (by omega) (by omega) (by omega) (by omega)
        have cl2 : aM σ108 = lineX (fM σ) (aM τ) := by (have q := q109_3); rw [fx] at q; exact q.trans (line_XM hq1).symm
        refine j_iinc (pc := 38) (i := 1) (n := 1) (ls' := [(0, vR 88), (1, vI (m + 1))]) [1, 0] dX12_text_38 rfl (Nat.le_of_ble_eq_true rfl) rfl rfl ?_
        refine j_goto (pc := 41) (tgt := 20) dX12_text_41 rfl ?_
        refine j_ls (ls' := [(0, vR 88), (1, vI (m + 1))]) [0, 1] rfl ?_
        have y111 : σ108 88 12 = τ 88 12 := (hGσ108 88 12 (show ¬ ((88 = 88 ∧ (12 = 9 ∨ 12 = 10 ∨ 12 = 13 ∨ 12 = 14 ∨ 12 = 15 ∨ 12 = 16 ∨ 12 = 17 ∨ 12 = 18)) ∨ (93 ≤ 88 ∧ 88 < 98)) from by omega))
        have f112 : (0 : Int) ≤ τ 88 12 ∧ τ 88 12 ≤ 400 := hIτ 88 12
        exact ih (m + 1) ⟨by omega, by omega⟩ σ108 hIσ108 hFσ108 (show DQ σ108 from q109_0) (show mI σ108 from mI_kept i1 (fun j hj => (hGσ108 89 j (show ¬ ((89 = 88 ∧ (j = 9 ∨ j = 10 ∨ j = 13 ∨ j = 14 ∨ j = 15 ∨ j = 16 ∨ j = 17 ∨ j = 18)) ∨ (93 ≤ 89 ∧ 89 < 98)) from by omega))) (fun j => (hGσ108 90 j (show ¬ ((90 = 88 ∧ (j = 9 ∨ j = 10 ∨ j = 13 ∨ j = 14 ∨ j = 15 ∨ j = 16 ∨ j = 17 ∨ j = 18)) ∨ (93 ≤ 90 ∧ 90 < 98)) from by omega))) ((hGσ108 91 0 (show ¬ ((91 = 88 ∧ (0 = 9 ∨ 0 = 10 ∨ 0 = 13 ∨ 0 = 14 ∨ 0 = 15 ∨ 0 = 16 ∨ 0 = 17 ∨ 0 = 18)) ∨ (93 ≤ 91 ∧ 91 < 98)) from by omega))) hIτ) (show (m + 1) ≤ σ108 88 13 ∨ ((¬ σ108 88 17 = 0 ∨ σ108 88 15 = 0) ∧ (m + 1) ≤ σ108 88 13 + 1) from by omega) (show σ108 88 12 = σ 88 12 from by omega) (show itK lstop (lstep (fM σ)) (500 - (m + 1)).toNat (aM σ108, (m + 1)) = lns (fM σ) from (mlns_s i4 ⟨by omega, by omega⟩ (by omega) (by omega) cl2 rfl)) (show (mTx (σ108 88 17) (σ108 88 15) (σ108 88 13)).toNat < N_ from by omega)
set_option maxHeartbeats 4000000 in
set_option maxRecDepth 100000 in
theorem c_X12_text {G : tw_G} (hM : tw_isM G) (σ : tw_M) (hI : tw_I σ) (hq0 : mI σ) (hq1 : FB (fM σ)) : tw_C G yX12_text cX12_text 2 (some .int) 5 [vR 88] σ (q_X12_text σ) := by
  refine tw_met [(0, vR 88)] (by decide +kernel) rfl (Nat.le_of_ble_eq_true rfl) ?_
  refine j_iconst (pc := 0) dX12_text_0 ?_
  refine j_istore_n (pc := 1) (i := 1) (ls' := [(0, vR 88), (1, vI 0)]) [1, 0] dX12_text_1 rfl (Nat.le_of_ble_eq_true rfl) rfl rfl ?_
  refine j_aload_n (pc := 2) dX12_text_2 rfl rfl ?_
  refine j_iconst (pc := 3) dX12_text_3 ?_
  refine j_putI (pc := 4) fl_X12_91 fp_X12_17 dX12_text_4 (a_88 hM) rfl (j_nm (fun σ113 (eσ113 : σ113 = tw_up σ 88 17 0) => ?_))
  have hIσ113 : tw_I σ113 := tw_I_up hI eσ113 (show (0 : Int) ≤ 0 ∧ 0 ≤ 5 from ⟨by omega, by omega⟩)
  have hFσ113 : tw_F (fun c j => (c = 88 ∧ (j = 9 ∨ j = 10 ∨ j = 12 ∨ j = 13 ∨ j = 14 ∨ j = 15 ∨ j = 16 ∨ j = 17 ∨ j = 18)) ∨ (c = 89 ∧ j < 100) ∨ (90 ≤ c ∧ c < 98)) σ σ113 := tw_F_up (tw_F_rf) eσ113 (show (88 = 88 ∧ (17 = 9 ∨ 17 = 10 ∨ 17 = 12 ∨ 17 = 13 ∨ 17 = 14 ∨ 17 = 15 ∨ 17 = 16 ∨ 17 = 17 ∨ 17 = 18)) ∨ (88 = 89 ∧ 17 < 100) ∨ (90 ≤ 88 ∧ 88 < 98) from by omega)
  refine j_aload_n (pc := 7) dX12_text_7 rfl rfl ?_
  refine j_iconst (pc := 8) dX12_text_8 ?_
  refine j_putI (pc := 9) fl_X12_100 fp_X12_13 dX12_text_9 (a_88 hM) rfl (j_nm (fun σ114 (eσ114 : σ114 = tw_up σ113 88 13 0) => ?_))
  have hIσ114 : tw_I σ114 := tw_I_up hIσ113 eσ114 (show (0 : Int) ≤ 0 ∧ 0 ≤ 400 from ⟨by omega, by omega⟩)
  have hFσ114 : tw_F (fun c j => (c = 88 ∧ (j = 9 ∨ j = 10 ∨ j = 12 ∨ j = 13 ∨ j = 14 ∨ j = 15 ∨ j = 16 ∨ j = 17 ∨ j = 18)) ∨ (c = 89 ∧ j < 100) ∨ (90 ≤ c ∧ c < 98)) σ σ114 := tw_F_up hFσ113 eσ114 (show (88 = 88 ∧ (13 = 9 ∨ 13 = 10 ∨ 13 = 12 ∨ 13 = 13 ∨ 13 = 14 ∨ 13 = 15 ∨ 13 = 16 ∨ 13 = 17 ∨ 13 = 18)) ∨ (88 = 89 ∧ 13 < 100) ∨ (90 ≤ 88 ∧ 88 < 98) from by omega)
  refine j_aload_n (pc := 12) dX12_text_12 rfl rfl ?_
  refine j_callV (pc := 13) (As := []) (st := []) (c_X12_firstDraft hM σ114 hIσ114) mv_X12_65 rfl rfl rfl (a_88 hM) dX12_text_13 ⟨Nat.le_of_ble_eq_true rfl, Nat.le_of_ble_eq_true rfl⟩ ⟨Nat.le_refl _, Nat.le_refl _⟩ rfl (Nat.le_of_ble_eq_true rfl) rfl (fun z115 σ116 hz115 => ?_)
  obtain ⟨rfl, hIσ116, hGσ116, q117_0, q117_1⟩ := hz115
  replace q117_0 : DR σ116 := q117_0
  replace q117_1 : drM σ116 = D0 := q117_1
  have hFσ116 : tw_F (fun c j => (c = 88 ∧ (j = 9 ∨ j = 10 ∨ j = 12 ∨ j = 13 ∨ j = 14 ∨ j = 15 ∨ j = 16 ∨ j = 17 ∨ j = 18)) ∨ (c = 89 ∧ j < 100) ∨ (90 ≤ c ∧ c < 98)) σ σ116 := tw_F_tr hFσ114 hGσ116 (fun c j q => (show (c = 88 ∧ (j = 9 ∨ j = 10 ∨ j = 12 ∨ j = 13 ∨ j = 14 ∨ j = 15 ∨ j = 16 ∨ j = 17 ∨ j = 18)) ∨ (c = 89 ∧ j < 100) ∨ (90 ≤ c ∧ c < 98) from by replace q : (c = 88 ∧ (j = 9 ∨ j = 10)) ∨ (93 ≤ c ∧ c < 98) := q; omega))
  refine j_st (st' := []) rfl ?_
  have y119 : σ116 88 13 = 0 := ((hGσ116 88 13 (show ¬ ((88 = 88 ∧ (13 = 9 ∨ 13 = 10)) ∨ (93 ≤ 88 ∧ 88 < 98)) from by omega))).trans (tw_eq1 eσ114)
  have y120 : σ116 88 17 = 0 := (((hGσ116 88 17 (show ¬ ((88 = 88 ∧ (17 = 9 ∨ 17 = 10)) ∨ (93 ≤ 88 ∧ 88 < 98)) from by omega))).trans (tw_ne1 eσ114 (by omega))).trans (tw_eq1 eσ113)
  have d0 := q117_1
  have fz : fM σ116 = fM σ := fM_F ((((hGσ116 88 12 (show ¬ ((88 = 88 ∧ (12 = 9 ∨ 12 = 10)) ∨ (93 ≤ 88 ∧ 88 < 98)) from by omega))).trans (tw_ne1 eσ114 (by omega))).trans (tw_ne1 eσ113 (by omega))) (fun j => (((hGσ116 98 j (show ¬ ((98 = 88 ∧ (j = 9 ∨ j = 10)) ∨ (93 ≤ 98 ∧ 98 < 98)) from by omega))).trans (tw_ne1 eσ114 (by omega))).trans (tw_ne1 eσ113 (by omega)))
  have a0 : aM σ116 = ok 0 (σ116 88 14) (σ116 88 15) (σ116 88 16) D0 := by rw [aM_ok (by omega), d0, show σ116 88 13 = 0 from by omega]
  refine j_aload_n (pc := 16) dX12_text_16 rfl rfl ?_
  refine j_callV (pc := 17) (As := []) (st := []) (c_X12_next hM σ116 hIσ116) mv_X12_137 rfl rfl rfl (a_88 hM) dX12_text_17 ⟨Nat.le_of_ble_eq_true rfl, Nat.le_of_ble_eq_true rfl⟩ ⟨Nat.le_refl _, Nat.le_refl _⟩ rfl (Nat.le_of_ble_eq_true rfl) rfl (fun z121 σ122 hz121 => ?_)
  obtain ⟨rfl, hIσ122, hGσ122, q123_0, q123_1, q123_2, q123_3⟩ := hz121
  replace q123_0 : ¬ σ122 88 17 = 0 ∨ σ116 88 17 = 0 := q123_0
  have y125 : σ116 88 17 = 0 := (((hGσ116 88 17 (show ¬ ((88 = 88 ∧ (17 = 9 ∨ 17 = 10)) ∨ (93 ≤ 88 ∧ 88 < 98)) from by omega))).trans (tw_ne1 eσ114 (by omega))).trans (tw_eq1 eσ113)
  replace q123_1 : σ116 88 13 ≤ σ122 88 13 := q123_1
  have y126 : σ116 88 13 = 0 := ((hGσ116 88 13 (show ¬ ((88 = 88 ∧ (13 = 9 ∨ 13 = 10)) ∨ (93 ≤ 88 ∧ 88 < 98)) from by omega))).trans (tw_eq1 eσ114)
  replace q123_2 : ¬ σ122 88 17 = 0 ∨ σ122 88 15 = 0 ∨ σ116 88 13 < σ122 88 13 := q123_2
  have y127 : σ116 88 13 = 0 := ((hGσ116 88 13 (show ¬ ((88 = 88 ∧ (13 = 9 ∨ 13 = 10)) ∨ (93 ≤ 88 ∧ 88 < 98)) from by omega))).trans (tw_eq1 eσ114)
  replace q123_3 : aM σ122 = tok (fM σ116) (aM σ116) := q123_3
  have hFσ122 : tw_F (fun c j => (c = 88 ∧ (j = 9 ∨ j = 10 ∨ j = 12 ∨ j = 13 ∨ j = 14 ∨ j = 15 ∨ j = 16 ∨ j = 17 ∨ j = 18)) ∨ (c = 89 ∧ j < 100) ∨ (90 ≤ c ∧ c < 98)) σ σ122 := tw_F_tr hFσ116 hGσ122 (fun c j q => (show (c = 88 ∧ (j = 9 ∨ j = 10 ∨ j = 12 ∨ j = 13 ∨ j = 14 ∨ j = 15 ∨ j = 16 ∨ j = 17 ∨ j = 18)) ∨ (c = 89 ∧ j < 100) ∨ (90 ≤ c ∧ c < 98) from by replace q : (c = 88 ∧ (j = 13 ∨ j = 14 ∨ j = 15 ∨ j = 16 ∨ j = 17 ∨ j = 18)) := q; omega))
  refine j_st (st' := []) rfl ?_
  refine j_ls (ls' := [(0, vR 88), (1, vI 0)]) [0, 1] rfl ?_
  have y128 : σ122 88 12 = σ 88 12 := ((((hGσ122 88 12 (show ¬ ((88 = 88 ∧ (12 = 13 ∨ 12 = 14 ∨ 12 = 15 ∨ 12 = 16 ∨ 12 = 17 ∨ 12 = 18))) from by omega))).trans (hGσ116 88 12 (show ¬ ((88 = 88 ∧ (12 = 9 ∨ 12 = 10)) ∨ (93 ≤ 88 ∧ 88 < 98)) from by omega))).trans (tw_ne1 eσ114 (by omega))).trans (tw_ne1 eσ113 (by omega))
  have f129 : (0 : Int) ≤ σ 88 12 ∧ σ 88 12 ≤ 400 := hI 88 12
  exact (l_X12_text hM σ hI hq0 hq1 (((mTx (σ122 88 17) (σ122 88 15) (σ122 88 13)).toNat) + 1)) 0 ⟨by omega, by omega⟩ σ122 hIσ122 hFσ122 (show DQ σ122 from (Or.inr (DR_F q117_0 (fun j => hGσ122 93 j (show ¬ ((93 = 88 ∧ (j = 13 ∨ j = 14 ∨ j = 15 ∨ j = 16 ∨ j = 17 ∨ j = 18))) from by omega)) (fun j => hGσ122 94 j (show ¬ ((94 = 88 ∧ (j = 13 ∨ j = 14 ∨ j = 15 ∨ j = 16 ∨ j = 17 ∨ j = 18))) from by omega))))) (show mI σ122 from mI_kept hq0 (fun j hj => ((((hGσ122 89 j (show ¬ ((89 = 88 ∧ (j = 13 ∨ j = 14 ∨ j = 15 ∨ j = 16 ∨ j = 17 ∨ j = 18))) from by omega))).trans (hGσ116 89 j (show ¬ ((89 = 88 ∧ (j = 9 ∨ j = 10)) ∨ (93 ≤ 89 ∧ 89 < 98)) from by omega))).trans (tw_ne1 eσ114 (by omega))).trans (tw_ne1 eσ113 (by omega))) (fun j => ((((hGσ122 90 j (show ¬ ((90 = 88 ∧ (j = 13 ∨ j = 14 ∨ j = 15 ∨ j = 16 ∨ j = 17 ∨ j = 18))) from by omega))).trans (hGσ116 90 j (show ¬ ((90 = 88 ∧ (j = 9 ∨ j = 10)) ∨ (93 ≤ 90 ∧ 90 < 98)) from by omega))).trans (tw_ne1 eσ114 (by omega))).trans (tw_ne1 eσ113 (by omega))) (((((hGσ122 91 0 (show ¬ ((91 = 88 ∧ (0 = 13 ∨ 0 = 14 ∨ 0 = 15 ∨ 0 = 16 ∨ 0 = 17 ∨ 0 = 18))) from by omega))).trans (hGσ116 91 0 (show ¬ ((91 = 88 ∧ (0 = 9 ∨ 0 = 10)) ∨ (93 ≤ 91 ∧ 91 < 98)) from by omega))).trans (tw_ne1 eσ114 (by omega))).trans (tw_ne1 eσ113 (by omega))) hI) (show (0 : Int) ≤ σ122 88 13 ∨ ((¬ σ122 88 17 = 0 ∨ σ122 88 15 = 0) ∧ (0 : Int) ≤ σ122 88 13 + 1) from by omega) (show σ122 88 12 = σ 88 12 from by omega) (show itK lstop (lstep (fM σ)) (500 - (0 : Int)).toNat (aM σ122, (0 : Int)) = lns (fM σ) from (by (have cb := q123_3); rw [fz, a0] at cb; exact lns_0 cb rfl)) (Nat.lt_succ_self _)
