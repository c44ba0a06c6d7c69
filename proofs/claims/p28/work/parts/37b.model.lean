/-! 37b.model -/
theorem dX12_text_0 : decode cX12_text 0 = .ok (.iconst 0, 1) := by decide +kernel
theorem dX12_text_1 : decode cX12_text 1 = .ok (.istore_n 1, 1) := by decide +kernel
theorem dX12_text_2 : decode cX12_text 2 = .ok (.aload_n 0, 1) := by decide +kernel
theorem dX12_text_3 : decode cX12_text 3 = .ok (.iconst 0, 1) := by decide +kernel
theorem dX12_text_4 : decode cX12_text 4 = .ok (.putfield 91, 3) := by decide +kernel
theorem dX12_text_7 : decode cX12_text 7 = .ok (.aload_n 0, 1) := by decide +kernel
theorem dX12_text_8 : decode cX12_text 8 = .ok (.iconst 0, 1) := by decide +kernel
theorem dX12_text_9 : decode cX12_text 9 = .ok (.putfield 100, 3) := by decide +kernel
theorem dX12_text_12 : decode cX12_text 12 = .ok (.aload_n 0, 1) := by decide +kernel
theorem dX12_text_13 : decode cX12_text 13 = .ok (.invokevirtual 65, 3) := by decide +kernel
theorem dX12_text_16 : decode cX12_text 16 = .ok (.aload_n 0, 1) := by decide +kernel
theorem dX12_text_17 : decode cX12_text 17 = .ok (.invokevirtual 137, 3) := by decide +kernel
theorem dX12_text_20 : decode cX12_text 20 = .ok (.aload_n 0, 1) := by decide +kernel
theorem dX12_text_21 : decode cX12_text 21 = .ok (.getfield 91, 3) := by decide +kernel
theorem dX12_text_24 : decode cX12_text 24 = .ok (.ifCond .ne 20, 3) := by decide +kernel
theorem dX12_text_27 : decode cX12_text 27 = .ok (.aload_n 0, 1) := by decide +kernel
theorem dX12_text_28 : decode cX12_text 28 = .ok (.getfield 115, 3) := by decide +kernel
theorem dX12_text_31 : decode cX12_text 31 = .ok (.ifCond .eq 13, 3) := by decide +kernel
theorem dX12_text_34 : decode cX12_text 34 = .ok (.aload_n 0, 1) := by decide +kernel
theorem dX12_text_35 : decode cX12_text 35 = .ok (.invokevirtual 161, 3) := by decide +kernel
theorem dX12_text_38 : decode cX12_text 38 = .ok (.iinc 1 1, 3) := by decide +kernel
theorem dX12_text_41 : decode cX12_text 41 = .ok (.goto (-21), 3) := by decide +kernel
theorem dX12_text_44 : decode cX12_text 44 = .ok (.aload_n 0, 1) := by decide +kernel
theorem dX12_text_45 : decode cX12_text 45 = .ok (.aload_n 0, 1) := by decide +kernel
theorem dX12_text_46 : decode cX12_text 46 = .ok (.getfield 75, 3) := by decide +kernel
theorem dX12_text_49 : decode cX12_text 49 = .ok (.aload_n 0, 1) := by decide +kernel
theorem dX12_text_50 : decode cX12_text 50 = .ok (.getfield 23, 3) := by decide +kernel
theorem dX12_text_53 : decode cX12_text 53 = .ok (.iconst 0, 1) := by decide +kernel
theorem dX12_text_54 : decode cX12_text 54 = .ok (.iaload, 1) := by decide +kernel
theorem dX12_text_55 : decode cX12_text 55 = .ok (.if_icmp .gt 7, 3) := by decide +kernel
theorem dX12_text_58 : decode cX12_text 58 = .ok (.iconst 1, 1) := by decide +kernel
theorem dX12_text_59 : decode cX12_text 59 = .ok (.goto 4, 3) := by decide +kernel
theorem dX12_text_62 : decode cX12_text 62 = .ok (.iconst 0, 1) := by decide +kernel
theorem dX12_text_63 : decode cX12_text 63 = .ok (.iconst 5, 1) := by decide +kernel
theorem dX12_text_64 : decode cX12_text 64 = .ok (.invokevirtual 129, 3) := by decide +kernel
theorem dX12_text_67 : decode cX12_text 67 = .ok (.aload_n 0, 1) := by decide +kernel
theorem dX12_text_68 : decode cX12_text 68 = .ok (.iconst 0, 1) := by decide +kernel
theorem dX12_text_69 : decode cX12_text 69 = .ok (.putfield 86, 3) := by decide +kernel
theorem dX12_text_72 : decode cX12_text 72 = .ok (.aload_n 0, 1) := by decide +kernel
theorem dX12_text_73 : decode cX12_text 73 = .ok (.getfield 91, 3) := by decide +kernel
theorem dX12_text_76 : decode cX12_text 76 = .ok (.ifCond .le 11, 3) := by decide +kernel
theorem dX12_text_79 : decode cX12_text 79 = .ok (.bipush (-10), 2) := by decide +kernel
theorem dX12_text_81 : decode cX12_text 81 = .ok (.aload_n 0, 1) := by decide +kernel
theorem dX12_text_82 : decode cX12_text 82 = .ok (.getfield 97, 3) := by decide +kernel
theorem dX12_text_85 : decode cX12_text 85 = .ok (.isub, 1) := by decide +kernel
theorem dX12_text_86 : decode cX12_text 86 = .ok (.ireturn, 1) := by decide +kernel
theorem dX12_text_87 : decode cX12_text 87 = .ok (.aload_n 0, 1) := by decide +kernel
theorem dX12_text_88 : decode cX12_text 88 = .ok (.invokevirtual 68, 3) := by decide +kernel
theorem dX12_text_91 : decode cX12_text 91 = .ok (.iload_n 1, 1) := by decide +kernel
theorem dX12_text_92 : decode cX12_text 92 = .ok (.ireturn, 1) := by decide +kernel
abbrev q_X12_text  (σ : tw_M) : Option tw_V → tw_M → Prop := fun z τ => ∃ r : Int, z = some (vI r) ∧ (-2147483648 ≤ r ∧ r ≤ 2147483647) ∧ tw_I τ ∧ tw_F (fun c j => (c = 88 ∧ (j = 9 ∨ j = 10 ∨ j = 12 ∨ j = 13 ∨ j = 14 ∨ j = 15 ∨ j = 16 ∨ j = 17 ∨ j = 18)) ∨ (c = 89 ∧ j < 100) ∨ (90 ≤ c ∧ c < 98)) σ τ ∧ (mI τ) ∧ (τ 88 12 = 0) ∧ (r = txt (parse (fM σ))) ∧ (τ 88 17 = (parse (fM σ)).1 4) ∧ ((τ 88 17 = 0 ∧ τ 90 0 = 0 ∧ τ 90 1 = 0) ∨ (¬ τ 88 17 = 0 ∧ τ 90 0 = σ 90 0 ∧ τ 90 1 = σ 90 1)) ∧ ((τ 88 17 = 0 ∧ τ 89 93 = 0) ∨ (¬ τ 88 17 = 0 ∧ τ 89 93 = σ 89 93)) ∧ ((τ 88 17 = 0 ∧ τ 89 94 = 0) ∨ (¬ τ 88 17 = 0 ∧ τ 89 94 = σ 89 94)) ∧ ((τ 88 17 = 0 ∧ τ 89 95 = 0) ∨ (¬ τ 88 17 = 0 ∧ τ 89 95 = σ 89 95)) ∧ ((τ 88 17 = 0 ∧ τ 89 96 = 0) ∨ (¬ τ 88 17 = 0 ∧ τ 89 96 = σ 89 96))
set_option maxHeartbeats 4000000 in
set_option maxRecDepth 100000 in
theorem l_X12_text {G : tw_G} (hM : tw_isM G) (σ : tw_M) (hI : tw_I σ) (hq0 : mI σ) (hq1 : FB (fM σ)) : ∀ N_ : Nat, (∀ (m : Int) (hm : 0 ≤ m ∧ m ≤ 401) (τ : tw_M) (hIτ : tw_I τ) (hFτ : tw_F (fun c j => (c = 88 ∧ (j = 9 ∨ j = 10 ∨ j = 12 ∨ j = 13 ∨ j = 14 ∨ j = 15 ∨ j = 16 ∨ j = 17 ∨ j = 18)) ∨ (c = 89 ∧ j < 100) ∨ (90 ≤ c ∧ c < 98)) σ τ) (i0 : DQ τ) (i1 : mI τ) (i2 : m ≤ τ 88 13 ∨ ((¬ τ 88 17 = 0 ∨ τ 88 15 = 0) ∧ m ≤ τ 88 13 + 1)) (i3 : τ 88 12 = σ 88 12) (i4 : itK lstop (lstep (fM σ)) (500 - m).toNat (aM τ, m) = lns (fM σ)) (i5 : τ 90 0 = σ 90 0) (i6 : τ 90 1 = σ 90 1) (i7 : τ 89 93 = σ 89 93) (i8 : τ 89 94 = σ 89 94) (i9 : τ 89 95 = σ 89 95) (i10 : τ 89 96 = σ 89 96) (hm : (mTx (τ 88 17) (τ 88 15) (τ 88 13)).toNat < N_), tw_J G (tw_mt RX12 cX12_text 2 (some .int) 5) (tw_E G (q_X12_text σ)) 20 [(0, vR 88), (1, vI m)] [] τ) := by
  intro N_
  induction N_ with
  | zero => exact fun m hm τ hIτ hFτ i0 i1 i2 i3 i4 i5 i6 i7 i8 i9 i10 hm => absurd hm (Nat.not_lt_zero _)
  | succ N_ ih =>
    intro m hm τ hIτ hFτ i0 i1 i2 i3 i4 i5 i6 i7 i8 i9 i10 hm
    have m9 := i1.2.2.2.2
    have fx : fM τ = fM σ := fM_F i3 (fun j => hFτ 98 j (show ¬ ((98 = 88 ∧ (j = 9 ∨ j = 10 ∨ j = 12 ∨ j = 13 ∨ j = 14 ∨ j = 15 ∨ j = 16 ∨ j = 17 ∨ j = 18)) ∨ (98 = 89 ∧ j < 100) ∨ (90 ≤ 98 ∧ 98 < 98)) from by omega))
    refine j_aload_n (pc := 20) dX12_text_20 rfl rfl ?_
    refine j_getI (pc := 21) fl_X12_91 dX12_text_21 (a_88 hM) rfl ?_
    have f1 : (0 : Int) ≤ τ 88 17 ∧ τ 88 17 ≤ 5 := hIτ 88 17
    refine j_ifR_ne (pc := 24) (tgt := 44) ⟨by omega, by omega⟩ dX12_text_24 rfl (fun h2 => ?_) (fun h2 => ?_)
    · refine j_aload_n (pc := 44) dX12_text_44 rfl rfl ?_
      refine j_aload_n (pc := 45) dX12_text_45 rfl rfl ?_
      refine j_getI (pc := 46) fl_X12_75 dX12_text_46 (a_88 hM) rfl ?_
      have f3 : (0 : Int) ≤ τ 88 10 ∧ τ 88 10 ≤ 40 := hIτ 88 10
      refine j_aload_n (pc := 49) dX12_text_49 rfl rfl ?_
      refine j_getR (pc := 50) (r := 93) fl_X12_23 dX12_text_50 (a_88 hM) rfl ?_
      refine j_iconst (pc := 53) dX12_text_53 ?_
      refine j_iald (pc := 54) dX12_text_54 (a_93 hM) (by omega) (by omega) (by decide) ?_
      refine j_topV (show τ 93 (Int.toNat 0) = τ 93 0 from rfl) ?_
      have f4 : (-2147483648 : Int) ≤ τ 93 0 ∧ τ 93 0 ≤ 2147483647 := hIτ 93 0
      refine j_icmpR_gt (pc := 55) (tgt := 62) ⟨by omega, by omega⟩ ⟨by omega, by omega⟩ dX12_text_55 rfl (fun h5 => ?_) (fun h5 => ?_)
      · refine j_iconst (pc := 62) dX12_text_62 ?_
        refine j_iconst (pc := 63) dX12_text_63 ?_
        refine j_callV (pc := 64) (As := [vI 0, vI 5]) (st := []) (c_X12_needs hM 0 ⟨by omega, by omega⟩ 5 ⟨by omega, by omega⟩ τ hIτ) mv_X12_129 rfl rfl rfl (a_88 hM) dX12_text_64 ⟨Nat.le_of_ble_eq_true rfl, Nat.le_of_ble_eq_true rfl⟩ ⟨Nat.le_refl _, Nat.le_refl _⟩ rfl (Nat.le_of_ble_eq_true rfl) rfl (fun z6 σ7 hz6 => ?_)
        obtain ⟨rfl, hIσ7, hGσ7, q8_0, q8_1, q8_2⟩ := hz6
        replace q8_0 : (¬ (0 : Int) = 0 ∧ σ7 88 17 = τ 88 17) ∨ ((0 : Int) = 0 ∧ τ 88 17 = 0 ∧ σ7 88 17 = (5 : Int)) ∨ ((0 : Int) = 0 ∧ ¬ τ 88 17 = 0 ∧ σ7 88 17 = τ 88 17) := q8_0
        replace q8_1 : (¬ (0 : Int) = 0 ∧ σ7 88 17 = τ 88 17 ∧ σ7 88 18 = τ 88 18) ∨ ((0 : Int) = 0 ∧ τ 88 17 = 0 ∧ σ7 88 17 = (5 : Int) ∧ σ7 88 18 = τ 88 14) ∨ ((0 : Int) = 0 ∧ ¬ τ 88 17 = 0 ∧ σ7 88 17 = τ 88 17 ∧ σ7 88 18 = τ 88 18) := q8_1
        replace q8_2 : aM σ7 = need (decide (¬ (0 : Int) = 0)) (5 : Int) (aM τ) := q8_2
        have hFσ7 : tw_F (fun c j => (c = 88 ∧ (j = 9 ∨ j = 10 ∨ j = 12 ∨ j = 13 ∨ j = 14 ∨ j = 15 ∨ j = 16 ∨ j = 17 ∨ j = 18)) ∨ (c = 89 ∧ j < 100) ∨ (90 ≤ c ∧ c < 98)) σ σ7 := tw_F_tr hFτ hGσ7 (fun c j q => (show (c = 88 ∧ (j = 9 ∨ j = 10 ∨ j = 12 ∨ j = 13 ∨ j = 14 ∨ j = 15 ∨ j = 16 ∨ j = 17 ∨ j = 18)) ∨ (c = 89 ∧ j < 100) ∨ (90 ≤ c ∧ c < 98) from by replace q : (c = 88 ∧ (j = 17 ∨ j = 18)) := q; omega))
        refine j_st (st' := []) rfl ?_
        have pm := parse_M i4 (by omega) ((q8_2).trans (need_cg (g' := decide (τ 88 10 ≤ τ 93 0)) (fun _ => by first | exact (decide_eq_true (by omega)).trans (decide_eq_true (by omega)).symm | exact (decide_eq_false (by omega)).trans (decide_eq_false (by omega)).symm)))
        refine j_aload_n (pc := 67) dX12_text_67 rfl rfl ?_
        refine j_iconst (pc := 68) dX12_text_68 ?_
        refine j_putI (pc := 69) fl_X12_86 fp_X12_12 dX12_text_69 (a_88 hM) rfl (j_nm (fun σ10 (eσ10 : σ10 = tw_up σ7 88 12 0) => ?_))
        have hIσ10 : tw_I σ10 := tw_I_up hIσ7 eσ10 (show (0 : Int) ≤ 0 ∧ 0 ≤ 400 from ⟨by omega, by omega⟩)
        have hFσ10 : tw_F (fun c j => (c = 88 ∧ (j = 9 ∨ j = 10 ∨ j = 12 ∨ j = 13 ∨ j = 14 ∨ j = 15 ∨ j = 16 ∨ j = 17 ∨ j = 18)) ∨ (c = 89 ∧ j < 100) ∨ (90 ≤ c ∧ c < 98)) σ σ10 := tw_F_up hFσ7 eσ10 (show (88 = 88 ∧ (12 = 9 ∨ 12 = 10 ∨ 12 = 12 ∨ 12 = 13 ∨ 12 = 14 ∨ 12 = 15 ∨ 12 = 16 ∨ 12 = 17 ∨ 12 = 18)) ∨ (88 = 89 ∧ 12 < 100) ∨ (90 ≤ 88 ∧ 88 < 98) from by omega)
        refine j_aload_n (pc := 72) dX12_text_72 rfl rfl ?_
        refine j_getI (pc := 73) fl_X12_91 dX12_text_73 (a_88 hM) rfl ?_
        refine j_topV (show σ10 88 17 = σ7 88 17 from (tw_ne1 eσ10 (by omega))) ?_
        have f11 : (0 : Int) ≤ σ7 88 17 ∧ σ7 88 17 ≤ 5 := hIσ7 88 17
        refine j_ifR_le (pc := 76) (tgt := 87) ⟨by omega, by omega⟩ dX12_text_76 rfl (fun h12 => ?_) (fun h12 => ?_)
        · have z9 : σ10 88 17 = 0 := ((tw_ne1 eσ10 (by omega))).trans (by omega)
          refine j_aload_n (pc := 87) dX12_text_87 rfl rfl ?_
          have y13 : σ10 89 193 = τ 89 193 := ((tw_ne1 eσ10 (by omega))).trans (hGσ7 89 193 (show ¬ ((89 = 88 ∧ (193 = 17 ∨ 193 = 18))) from by omega))
          have f14 : (0 : Int) ≤ τ 89 193 ∧ τ 89 193 ≤ 999 := hIτ 89 193
          have y15 : σ10 89 195 = τ 89 195 := ((tw_ne1 eσ10 (by omega))).trans (hGσ7 89 195 (show ¬ ((89 = 88 ∧ (195 = 17 ∨ 195 = 18))) from by omega))
          have f16 : (0 : Int) ≤ τ 89 195 ∧ τ 89 195 ≤ 999 := hIτ 89 195
          have y17 : σ10 89 293 = τ 89 293 := ((tw_ne1 eσ10 (by omega))).trans (hGσ7 89 293 (show ¬ ((89 = 88 ∧ (293 = 17 ∨ 293 = 18))) from by omega))
          have f18 : (0 : Int) ≤ τ 89 293 ∧ τ 89 293 ≤ 999 := hIτ 89 293
          have y19 : σ10 89 295 = τ 89 295 := ((tw_ne1 eσ10 (by omega))).trans (hGσ7 89 295 (show ¬ ((89 = 88 ∧ (295 = 17 ∨ 295 = 18))) from by omega))
          have f20 : (0 : Int) ≤ τ 89 295 ∧ τ 89 295 ≤ 999 := hIτ 89 295
          refine j_callV (pc := 88) (As := []) (st := []) (c_X12_keepDraft hM σ10 hIσ10 (DQ_dr (DQ_F i0 (fun j => ((tw_ne1 eσ10 (by omega))).trans (hGσ7 93 j (show ¬ ((93 = 88 ∧ (j = 17 ∨ j = 18))) from by omega))) (fun j => ((tw_ne1 eσ10 (by omega))).trans (hGσ7 94 j (show ¬ ((94 = 88 ∧ (j = 17 ∨ j = 18))) from by omega))) (by omega)) (by omega)) (by omega) (by omega)) mv_X12_68 rfl rfl rfl (a_88 hM) dX12_text_88 ⟨Nat.le_of_ble_eq_true rfl, Nat.le_of_ble_eq_true rfl⟩ ⟨Nat.le_refl _, Nat.le_refl _⟩ rfl (Nat.le_of_ble_eq_true rfl) rfl (fun z21 σ22 hz21 => ?_)
          obtain ⟨rfl, hIσ22, hGσ22, q23_0, q23_1, q23_2, q23_3, q23_4, q23_5, q23_6⟩ := hz21
          replace q23_0 : mI σ22 := q23_0
          replace q23_1 : σ22 90 0 = 0 := q23_1
          replace q23_2 : σ22 90 1 = 0 := q23_2
          replace q23_3 : σ22 89 93 = 0 := q23_3
          replace q23_4 : σ22 89 94 = 0 := q23_4
          replace q23_5 : σ22 89 95 = 0 := q23_5
          replace q23_6 : σ22 89 96 = 0 := q23_6
          have hFσ22 : tw_F (fun c j => (c = 88 ∧ (j = 9 ∨ j = 10 ∨ j = 12 ∨ j = 13 ∨ j = 14 ∨ j = 15 ∨ j = 16 ∨ j = 17 ∨ j = 18)) ∨ (c = 89 ∧ j < 100) ∨ (90 ≤ c ∧ c < 98)) σ σ22 := tw_F_tr hFσ10 hGσ22 (fun c j q => (show (c = 88 ∧ (j = 9 ∨ j = 10 ∨ j = 12 ∨ j = 13 ∨ j = 14 ∨ j = 15 ∨ j = 16 ∨ j = 17 ∨ j = 18)) ∨ (c = 89 ∧ j < 100) ∨ (90 ≤ c ∧ c < 98) from by replace q : (c = 89 ∧ j < 100) ∨ (90 ≤ c ∧ c < 93) := q; omega))
          refine j_st (st' := []) rfl ?_
          refine j_iload_n (pc := 91) dX12_text_91 rfl rfl ?_
          have y25 : σ22 88 12 = 0 := ((hGσ22 88 12 (show ¬ ((88 = 89 ∧ 12 < 100) ∨ (90 ≤ 88 ∧ 88 < 93)) from by omega))).trans (tw_eq1 eσ10)
          have y26 : σ22 88 17 = σ7 88 17 := ((hGσ22 88 17 (show ¬ ((88 = 89 ∧ 17 < 100) ∨ (90 ≤ 88 ∧ 88 < 93)) from by omega))).trans (tw_ne1 eσ10 (by omega))
          have y27 : σ22 88 17 = σ7 88 17 := ((hGσ22 88 17 (show ¬ ((88 = 89 ∧ 17 < 100) ∨ (90 ≤ 88 ∧ 88 < 93)) from by omega))).trans (tw_ne1 eσ10 (by omega))
          have y28 : σ22 88 17 = σ7 88 17 := ((hGσ22 88 17 (show ¬ ((88 = 89 ∧ 17 < 100) ∨ (90 ≤ 88 ∧ 88 < 93)) from by omega))).trans (tw_ne1 eσ10 (by omega))
          have y29 : σ22 88 17 = σ7 88 17 := ((hGσ22 88 17 (show ¬ ((88 = 89 ∧ 17 < 100) ∨ (90 ≤ 88 ∧ 88 < 93)) from by omega))).trans (tw_ne1 eσ10 (by omega))
          have y30 : σ22 88 17 = σ7 88 17 := ((hGσ22 88 17 (show ¬ ((88 = 89 ∧ 17 < 100) ∨ (90 ≤ 88 ∧ 88 < 93)) from by omega))).trans (tw_ne1 eσ10 (by omega))
          have y31 : σ22 88 17 = σ7 88 17 := ((hGσ22 88 17 (show ¬ ((88 = 89 ∧ 17 < 100) ∨ (90 ≤ 88 ∧ 88 < 93)) from by omega))).trans (tw_ne1 eσ10 (by omega))
          exact j_iret (pc := 92) ⟨rfl, rfl⟩ dX12_text_92 rfl ⟨_, rfl, ⟨by omega, by omega⟩, hIσ22, hFσ22, (by first | exact q23_0 | exact mI_kept i1 (fun j hj => rfl) (fun j => rfl) (rfl) hIτ), by omega, (by rw [← pm]; first | exact (mtxt_f (by omega)).symm | exact (mtxt_t (by omega)).symm | (rw [mtxt_f (by omega)]; omega) | (rw [mtxt_t (by omega)]; omega)), (by rw [← pm]; show _ = (aM _) 4; rw [aM_4]; omega), by omega, by omega, by omega, by omega, by omega⟩
        · refine j_bipush (pc := 79) dX12_text_79 rfl ?_
          refine j_aload_n (pc := 81) dX12_text_81 rfl rfl ?_
          refine j_getI (pc := 82) fl_X12_97 dX12_text_82 (a_88 hM) rfl ?_
          refine j_topV (show σ10 88 18 = σ7 88 18 from (tw_ne1 eσ10 (by omega))) ?_
          have f32 : (0 : Int) ≤ σ7 88 18 ∧ σ7 88 18 ≤ 400 := hIσ7 88 18
          refine j_isub (pc := 85) dX12_text_85 ?_
          have y33 : σ10 88 12 = 0 := (tw_eq1 eσ10)
          have y34 : σ10 88 17 = σ7 88 17 := (tw_ne1 eσ10 (by omega))
          have y35 : σ10 88 17 = σ7 88 17 := (tw_ne1 eσ10 (by omega))
          have y36 : σ10 90 0 = τ 90 0 := ((tw_ne1 eσ10 (by omega))).trans (hGσ7 90 0 (show ¬ ((90 = 88 ∧ (0 = 17 ∨ 0 = 18))) from by omega))
          have f37 : (0 : Int) ≤ τ 90 0 ∧ τ 90 0 ≤ 1 := hIτ 90 0
          have y38 : σ10 90 1 = τ 90 1 := ((tw_ne1 eσ10 (by omega))).trans (hGσ7 90 1 (show ¬ ((90 = 88 ∧ (1 = 17 ∨ 1 = 18))) from by omega))
          have f39 : (0 : Int) ≤ τ 90 1 ∧ τ 90 1 ≤ 1 := hIτ 90 1
          have y40 : σ10 88 17 = σ7 88 17 := (tw_ne1 eσ10 (by omega))
          have y41 : σ10 89 93 = τ 89 93 := ((tw_ne1 eσ10 (by omega))).trans (hGσ7 89 93 (show ¬ ((89 = 88 ∧ (93 = 17 ∨ 93 = 18))) from by omega))
          have f42 : (0 : Int) ≤ τ 89 93 ∧ τ 89 93 ≤ 999 := hIτ 89 93
          have y43 : σ10 88 17 = σ7 88 17 := (tw_ne1 eσ10 (by omega))
          have y44 : σ10 89 94 = τ 89 94 := ((tw_ne1 eσ10 (by omega))).trans (hGσ7 89 94 (show ¬ ((89 = 88 ∧ (94 = 17 ∨ 94 = 18))) from by omega))
          have f45 : (-2147483648 : Int) ≤ τ 89 94 ∧ τ 89 94 ≤ 2147483647 := hIτ 89 94
          have y46 : σ10 88 17 = σ7 88 17 := (tw_ne1 eσ10 (by omega))
          have y47 : σ10 89 95 = τ 89 95 := ((tw_ne1 eσ10 (by omega))).trans (hGσ7 89 95 (show ¬ ((89 = 88 ∧ (95 = 17 ∨ 95 = 18))) from by omega))
          have f48 : (0 : Int) ≤ τ 89 95 ∧ τ 89 95 ≤ 999 := hIτ 89 95
          have y49 : σ10 88 17 = σ7 88 17 := (tw_ne1 eσ10 (by omega))
          have y50 : σ10 89 96 = τ 89 96 := ((tw_ne1 eσ10 (by omega))).trans (hGσ7 89 96 (show ¬ ((89 = 88 ∧ (96 = 17 ∨ 96 = 18))) from by omega))
          have f51 : (-2147483648 : Int) ≤ τ 89 96 ∧ τ 89 96 ≤ 2147483647 := hIτ 89 96
          exact j_iret (pc := 86) ⟨rfl, rfl⟩ dX12_text_86 rfl ⟨_, rfl, ⟨by omega, by omega⟩, hIσ10, hFσ10, (by first | exact q8_0 | exact mI_kept i1 (fun j hj => ((tw_ne1 eσ10 (by omega))).trans (hGσ7 89 j (show ¬ ((89 = 88 ∧ (j = 17 ∨ j = 18))) from by omega))) (fun j => ((tw_ne1 eσ10 (by omega))).trans (hGσ7 90 j (show ¬ ((90 = 88 ∧ (j = 17 ∨ j = 18))) from by omega))) (((tw_ne1 eσ10 (by omega))).trans (hGσ7 91 0 (show ¬ ((91 = 88 ∧ (0 = 17 ∨ 0 = 18))) from by omega))) hIτ), by omega, (by rw [← pm]; first | exact (mtxt_f (by omega)).symm | exact (mtxt_t (by omega)).symm | (rw [mtxt_f (by omega)]; omega) | (rw [mtxt_t (by omega)]; omega)), (by rw [← pm]; show _ = (aM _) 4; rw [aM_4]; omega), by omega, by omega, by omega, by omega, by omega⟩
      · refine j_iconst (pc := 58) dX12_text_58 ?_
        refine j_goto (pc := 59) (tgt := 63) dX12_text_59 rfl ?_
        refine j_iconst (pc := 63) dX12_text_63 ?_
        refine j_callV (pc := 64) (As := [vI 1, vI 5]) (st := []) (c_X12_needs hM 1 ⟨by omega, by omega⟩ 5 ⟨by omega, by omega⟩ τ hIτ) mv_X12_129 rfl rfl rfl (a_88 hM) dX12_text_64 ⟨Nat.le_of_ble_eq_true rfl, Nat.le_of_ble_eq_true rfl⟩ ⟨Nat.le_refl _, Nat.le_refl _⟩ rfl (Nat.le_of_ble_eq_true rfl) rfl (fun z52 σ53 hz52 => ?_)
        obtain ⟨rfl, hIσ53, hGσ53, q54_0, q54_1, q54_2⟩ := hz52
        replace q54_0 : (¬ (1 : Int) = 0 ∧ σ53 88 17 = τ 88 17) ∨ ((1 : Int) = 0 ∧ τ 88 17 = 0 ∧ σ53 88 17 = (5 : Int)) ∨ ((1 : Int) = 0 ∧ ¬ τ 88 17 = 0 ∧ σ53 88 17 = τ 88 17) := q54_0
        replace q54_1 : (¬ (1 : Int) = 0 ∧ σ53 88 17 = τ 88 17 ∧ σ53 88 18 = τ 88 18) ∨ ((1 : Int) = 0 ∧ τ 88 17 = 0 ∧ σ53 88 17 = (5 : Int) ∧ σ53 88 18 = τ 88 14) ∨ ((1 : Int) = 0 ∧ ¬ τ 88 17 = 0 ∧ σ53 88 17 = τ 88 17 ∧ σ53 88 18 = τ 88 18) := q54_1
        replace q54_2 : aM σ53 = need (decide (¬ (1 : Int) = 0)) (5 : Int) (aM τ) := q54_2
        have hFσ53 : tw_F (fun c j => (c = 88 ∧ (j = 9 ∨ j = 10 ∨ j = 12 ∨ j = 13 ∨ j = 14 ∨ j = 15 ∨ j = 16 ∨ j = 17 ∨ j = 18)) ∨ (c = 89 ∧ j < 100) ∨ (90 ≤ c ∧ c < 98)) σ σ53 := tw_F_tr hFτ hGσ53 (fun c j q => (show (c = 88 ∧ (j = 9 ∨ j = 10 ∨ j = 12 ∨ j = 13 ∨ j = 14 ∨ j = 15 ∨ j = 16 ∨ j = 17 ∨ j = 18)) ∨ (c = 89 ∧ j < 100) ∨ (90 ≤ c ∧ c < 98) from by replace q : (c = 88 ∧ (j = 17 ∨ j = 18)) := q; omega))
        refine j_st (st' := []) rfl ?_
        have pm := parse_M i4 (by omega) ((q54_2).trans (need_cg (g' := decide (τ 88 10 ≤ τ 93 0)) (fun _ => by first | exact (decide_eq_true (by omega)).trans (decide_eq_true (by omega)).symm | exact (decide_eq_false (by omega)).trans (decide_eq_false (by omega)).symm)))
        refine j_aload_n (pc := 67) dX12_text_67 rfl rfl ?_
        refine j_iconst (pc := 68) dX12_text_68 ?_
        refine j_putI (pc := 69) fl_X12_86 fp_X12_12 dX12_text_69 (a_88 hM) rfl (j_nm (fun σ56 (eσ56 : σ56 = tw_up σ53 88 12 0) => ?_))
        have hIσ56 : tw_I σ56 := tw_I_up hIσ53 eσ56 (show (0 : Int) ≤ 0 ∧ 0 ≤ 400 from ⟨by omega, by omega⟩)
        have hFσ56 : tw_F (fun c j => (c = 88 ∧ (j = 9 ∨ j = 10 ∨ j = 12 ∨ j = 13 ∨ j = 14 ∨ j = 15 ∨ j = 16 ∨ j = 17 ∨ j = 18)) ∨ (c = 89 ∧ j < 100) ∨ (90 ≤ c ∧ c < 98)) σ σ56 := tw_F_up hFσ53 eσ56 (show (88 = 88 ∧ (12 = 9 ∨ 12 = 10 ∨ 12 = 12 ∨ 12 = 13 ∨ 12 = 14 ∨ 12 = 15 ∨ 12 = 16 ∨ 12 = 17 ∨ 12 = 18)) ∨ (88 = 89 ∧ 12 < 100) ∨ (90 ≤ 88 ∧ 88 < 98) from by omega)
        refine j_aload_n (pc := 72) dX12_text_72 rfl rfl ?_
        refine j_getI (pc := 73) fl_X12_91 dX12_text_73 (a_88 hM) rfl ?_
        refine j_topV (show σ56 88 17 = σ53 88 17 from (tw_ne1 eσ56 (by omega))) ?_
        have f57 : (0 : Int) ≤ σ53 88 17 ∧ σ53 88 17 ≤ 5 := hIσ53 88 17
        refine j_ifR_le (pc := 76) (tgt := 87) ⟨by omega, by omega⟩ dX12_text_76 rfl (fun h58 => ?_) (fun h58 => ?_)
        · have z9 : σ56 88 17 = 0 := ((tw_ne1 eσ56 (by omega))).trans (by omega)
          refine j_aload_n (pc := 87) dX12_text_87 rfl rfl ?_
          have y59 : σ56 89 193 = τ 89 193 := ((tw_ne1 eσ56 (by omega))).trans (hGσ53 89 193 (show ¬ ((89 = 88 ∧ (193 = 17 ∨ 193 = 18))) from by omega))
          have f60 : (0 : Int) ≤ τ 89 193 ∧ τ 89 193 ≤ 999 := hIτ 89 193
          have y61 : σ56 89 195 = τ 89 195 := ((tw_ne1 eσ56 (by omega))).trans (hGσ53 89 195 (show ¬ ((89 = 88 ∧ (195 = 17 ∨ 195 = 18))) from by omega))
          have f62 : (0 : Int) ≤ τ 89 195 ∧ τ 89 195 ≤ 999 := hIτ 89 195
          have y63 : σ56 89 293 = τ 89 293 := ((tw_ne1 eσ56 (by omega))).trans (hGσ53 89 293 (show ¬ ((89 = 88 ∧ (293 = 17 ∨ 293 = 18))) from by omega))
          have f64 : (0 : Int) ≤ τ 89 293 ∧ τ 89 293 ≤ 999 := hIτ 89 293
          have y65 : σ56 89 295 = τ 89 295 := ((tw_ne1 eσ56 (by omega))).trans (hGσ53 89 295 (show ¬ ((89 = 88 ∧ (295 = 17 ∨ 295 = 18))) from by omega))
          have f66 : (0 : Int) ≤ τ 89 295 ∧ τ 89 295 ≤ 999 := hIτ 89 295
          refine j_callV (pc := 88) (As := []) (st := []) (c_X12_keepDraft hM σ56 hIσ56 (DQ_dr (DQ_F i0 (fun j => ((tw_ne1 eσ56 (by omega))).trans (hGσ53 93 j (show ¬ ((93 = 88 ∧ (j = 17 ∨ j = 18))) from by omega))) (fun j => ((tw_ne1 eσ56 (by omega))).trans (hGσ53 94 j (show ¬ ((94 = 88 ∧ (j = 17 ∨ j = 18))) from by omega))) (by omega)) (by omega)) (by omega) (by omega)) mv_X12_68 rfl rfl rfl (a_88 hM) dX12_text_88 ⟨Nat.le_of_ble_eq_true rfl, Nat.le_of_ble_eq_true rfl⟩ ⟨Nat.le_refl _, Nat.le_refl _⟩ rfl (Nat.le_of_ble_eq_true rfl) rfl (fun z67 σ68 hz67 => ?_)
          obtain ⟨rfl, hIσ68, hGσ68, q69_0, q69_1, q69_2, q69_3, q69_4, q69_5, q69_6⟩ := hz67
          replace q69_0 : mI σ68 := q69_0
          replace q69_1 : σ68 90 0 = 0 := q69_1
          replace q69_2 : σ68 90 1 = 0 := q69_2
          replace q69_3 : σ68 89 93 = 0 := q69_3
          replace q69_4 : σ68 89 94 = 0 := q69_4
          replace q69_5 : σ68 89 95 = 0 := q69_5
          replace q69_6 : σ68 89 96 = 0 := q69_6
          have hFσ68 : tw_F (fun c j => (c = 88 ∧ (j = 9 ∨ j = 10 ∨ j = 12 ∨ j = 13 ∨ j = 14 ∨ j = 15 ∨ j = 16 ∨ j = 17 ∨ j = 18)) ∨ (c = 89 ∧ j < 100) ∨ (90 ≤ c ∧ c < 98)) σ σ68 := tw_F_tr hFσ56 hGσ68 (fun c j q => (show (c = 88 ∧ (j = 9 ∨ j = 10 ∨ j = 12 ∨ j = 13 ∨ j = 14 ∨ j = 15 ∨ j = 16 ∨ j = 17 ∨ j = 18)) ∨ (c = 89 ∧ j < 100) ∨ (90 ≤ c ∧ c < 98) from by replace q : (c = 89 ∧ j < 100) ∨ (90 ≤ c ∧ c < 93) := q; omega))
          refine j_st (st' := []) rfl ?_
          refine j_iload_n (pc := 91) dX12_text_91 rfl rfl ?_
          have y71 : σ68 88 12 = 0 := ((hGσ68 88 12 (show ¬ ((88 = 89 ∧ 12 < 100) ∨ (90 ≤ 88 ∧ 88 < 93)) from by omega))).trans (tw_eq1 eσ56)
          have y72 : σ68 88 17 = σ53 88 17 := ((hGσ68 88 17 (show ¬ ((88 = 89 ∧ 17 < 100) ∨ (90 ≤ 88 ∧ 88 < 93)) from by omega))).trans (tw_ne1 eσ56 (by omega))
          have y73 : σ68 88 17 = σ53 88 17 := ((hGσ68 88 17 (show ¬ ((88 = 89 ∧ 17 < 100) ∨ (90 ≤ 88 ∧ 88 < 93)) from by omega))).trans (tw_ne1 eσ56 (by omega))
          have y74 : σ68 88 17 = σ53 88 17 := ((hGσ68 88 17 (show ¬ ((88 = 89 ∧ 17 < 100) ∨ (90 ≤ 88 ∧ 88 < 93)) from by omega))).trans (tw_ne1 eσ56 (by omega))
          have y75 : σ68 88 17 = σ53 88 17 := ((hGσ68 88 17 (show ¬ ((88 = 89 ∧ 17 < 100) ∨ (90 ≤ 88 ∧ 88 < 93)) from by omega))).trans (tw_ne1 eσ56 (by omega))
          have y76 : σ68 88 17 = σ53 88 17 := ((hGσ68 88 17 (show ¬ ((88 = 89 ∧ 17 < 100) ∨ (90 ≤ 88 ∧ 88 < 93)) from by omega))).trans (tw_ne1 eσ56 (by omega))
          have y77 : σ68 88 17 = σ53 88 17 := ((hGσ68 88 17 (show ¬ ((88 = 89 ∧ 17 < 100) ∨ (90 ≤ 88 ∧ 88 < 93)) from by omega))).trans (tw_ne1 eσ56 (by omega))
          exact j_iret (pc := 92) ⟨rfl, rfl⟩ dX12_text_92 rfl ⟨_, rfl, ⟨by omega, by omega⟩, hIσ68, hFσ68, (by first | exact q69_0 | exact mI_kept i1 (fun j hj => rfl) (fun j => rfl) (rfl) hIτ), by omega, (by rw [← pm]; first | exact (mtxt_f (by omega)).symm | exact (mtxt_t (by omega)).symm | (rw [mtxt_f (by omega)]; omega) | (rw [mtxt_t (by omega)]; omega)), (by rw [← pm]; show _ = (aM _) 4; rw [aM_4]; omega), by omega, by omega, by omega, by omega, by omega⟩
        · refine j_bipush (pc := 79) dX12_text_79 rfl ?_
          refine j_aload_n (pc := 81) dX12_text_81 rfl rfl ?_
          refine j_getI (pc := 82) fl_X12_97 dX12_text_82 (a_88 hM) rfl ?_
          refine j_topV (show σ56 88 18 = σ53 88 18 from (tw_ne1 eσ56 (by omega))) ?_
          have f78 : (0 : Int) ≤ σ53 88 18 ∧ σ53 88 18 ≤ 400 := hIσ53 88 18
          refine j_isub (pc := 85) dX12_text_85 ?_
          have y79 : σ56 88 12 = 0 := (tw_eq1 eσ56)
          have y80 : σ56 88 17 = σ53 88 17 := (tw_ne1 eσ56 (by omega))
          have y81 : σ56 88 17 = σ53 88 17 := (tw_ne1 eσ56 (by omega))
          have y82 : σ56 90 0 = τ 90 0 := ((tw_ne1 eσ56 (by omega))).trans (hGσ53 90 0 (show ¬ ((90 = 88 ∧ (0 = 17 ∨ 0 = 18))) from by omega))
          have f83 : (0 : Int) ≤ τ 90 0 ∧ τ 90 0 ≤ 1 := hIτ 90 0
          have y84 : σ56 90 1 = τ 90 1 := ((tw_ne1 eσ56 (by omega))).trans (hGσ53 90 1 (show ¬ ((90 = 88 ∧ (1 = 17 ∨ 1 = 18))) from by omega))
          have f85 : (0 : Int) ≤ τ 90 1 ∧ τ 90 1 ≤ 1 := hIτ 90 1
          have y86 : σ56 88 17 = σ53 88 17 := (tw_ne1 eσ56 (by omega))
          have y87 : σ56 89 93 = τ 89 93 := ((tw_ne1 eσ56 (by omega))).trans (hGσ53 89 93 (show ¬ ((89 = 88 ∧ (93 = 17 ∨ 93 = 18))) from by omega))
          have f88 : (0 : Int) ≤ τ 89 93 ∧ τ 89 93 ≤ 999 := hIτ 89 93
          have y89 : σ56 88 17 = σ53 88 17 := (tw_ne1 eσ56 (by omega))
          have y90 : σ56 89 94 = τ 89 94 := ((tw_ne1 eσ56 (by omega))).trans (hGσ53 89 94 (show ¬ ((89 = 88 ∧ (94 = 17 ∨ 94 = 18))) from by omega))
          have f91 : (-2147483648 : Int) ≤ τ 89 94 ∧ τ 89 94 ≤ 2147483647 := hIτ 89 94
          have y92 : σ56 88 17 = σ53 88 17 := (tw_ne1 eσ56 (by omega))
          have y93 : σ56 89 95 = τ 89 95 := ((tw_ne1 eσ56 (by omega))).trans (hGσ53 89 95 (show ¬ ((89 = 88 ∧ (95 = 17 ∨ 95 = 18))) from by omega))
          have f94 : (0 : Int) ≤ τ 89 95 ∧ τ 89 95 ≤ 999 := hIτ 89 95
          have y95 : σ56 88 17 = σ53 88 17 := (tw_ne1 eσ56 (by omega))
          have y96 : σ56 89 96 = τ 89 96 := ((tw_ne1 eσ56 (by omega))).trans (hGσ53 89 96 (show ¬ ((89 = 88 ∧ (96 = 17 ∨ 96 = 18))) from by omega))
          have f97 : (-2147483648 : Int) ≤ τ 89 96 ∧ τ 89 96 ≤ 2147483647 := hIτ 89 96
          exact j_iret (pc := 86) ⟨rfl, rfl⟩ dX12_text_86 rfl ⟨_, rfl, ⟨by omega, by omega⟩, hIσ56, hFσ56, (by first | exact q54_0 | exact mI_kept i1 (fun j hj => ((tw_ne1 eσ56 (by omega))).trans (hGσ53 89 j (show ¬ ((89 = 88 ∧ (j = 17 ∨ j = 18))) from by omega))) (fun j => ((tw_ne1 eσ56 (by omega))).trans (hGσ53 90 j (show ¬ ((90 = 88 ∧ (j = 17 ∨ j = 18))) from by omega))) (((tw_ne1 eσ56 (by omega))).trans (hGσ53 91 0 (show ¬ ((91 = 88 ∧ (0 = 17 ∨ 0 = 18))) from by omega))) hIτ), by omega, (by rw [← pm]; first | exact (mtxt_f (by omega)).symm | exact (mtxt_t (by omega)).symm | (rw [mtxt_f (by omega)]; omega) | (rw [mtxt_t (by omega)]; omega)), (by rw [← pm]; show _ = (aM _) 4; rw [aM_4]; omega), by omega, by omega, by omega, by omega, by omega⟩
    · refine j_aload_n (pc := 27) dX12_text_27 rfl rfl ?_
      refine j_getI (pc := 28) fl_X12_115 dX12_text_28 (a_88 hM) rfl ?_
      have f98 : (-2147483648 : Int) ≤ τ 88 15 ∧ τ 88 15 ≤ 2147483647 := hIτ 88 15
      refine j_ifR_eq (pc := 31) (tgt := 44) ⟨by omega, by omega⟩ dX12_text_31 rfl (fun h99 => ?_) (fun h99 => ?_)
      · refine j_aload_n (pc := 44) dX12_text_44 rfl rfl ?_
        refine j_aload_n (pc := 45) dX12_text_45 rfl rfl ?_
        refine j_getI (pc := 46) fl_X12_75 dX12_text_46 (a_88 hM) rfl ?_
        have f100 : (0 : Int) ≤ τ 88 10 ∧ τ 88 10 ≤ 40 := hIτ 88 10
        refine j_aload_n (pc := 49) dX12_text_49 rfl rfl ?_
        refine j_getR (pc := 50) (r := 93) fl_X12_23 dX12_text_50 (a_88 hM) rfl ?_
        refine j_iconst (pc := 53) dX12_text_53 ?_
        refine j_iald (pc := 54) dX12_text_54 (a_93 hM) (by omega) (by omega) (by decide) ?_
        refine j_topV (show τ 93 (Int.toNat 0) = τ 93 0 from rfl) ?_
        have f101 : (-2147483648 : Int) ≤ τ 93 0 ∧ τ 93 0 ≤ 2147483647 := hIτ 93 0
        refine j_icmpR_gt (pc := 55) (tgt := 62) ⟨by omega, by omega⟩ ⟨by omega, by omega⟩ dX12_text_55 rfl (fun h102 => ?_) (fun h102 => ?_)
        · refine j_iconst (pc := 62) dX12_text_62 ?_
          refine j_iconst (pc := 63) dX12_text_63 ?_
          refine j_callV (pc := 64) (As := [vI 0, vI 5]) (st := []) (c_X12_needs hM 0 ⟨by omega, by omega⟩ 5 ⟨by omega, by omega⟩ τ hIτ) mv_X12_129 rfl rfl rfl (a_88 hM) dX12_text_64 ⟨Nat.le_of_ble_eq_true rfl, Nat.le_of_ble_eq_true rfl⟩ ⟨Nat.le_refl _, Nat.le_refl _⟩ rfl (Nat.le_of_ble_eq_true rfl) rfl (fun z103 σ104 hz103 => ?_)
          obtain ⟨rfl, hIσ104, hGσ104, q105_0, q105_1, q105_2⟩ := hz103
          replace q105_0 : (¬ (0 : Int) = 0 ∧ σ104 88 17 = τ 88 17) ∨ ((0 : Int) = 0 ∧ τ 88 17 = 0 ∧ σ104 88 17 = (5 : Int)) ∨ ((0 : Int) = 0 ∧ ¬ τ 88 17 = 0 ∧ σ104 88 17 = τ 88 17) := q105_0
          replace q105_1 : (¬ (0 : Int) = 0 ∧ σ104 88 17 = τ 88 17 ∧ σ104 88 18 = τ 88 18) ∨ ((0 : Int) = 0 ∧ τ 88 17 = 0 ∧ σ104 88 17 = (5 : Int) ∧ σ104 88 18 = τ 88 14) ∨ ((0 : Int) = 0 ∧ ¬ τ 88 17 = 0 ∧ σ104 88 17 = τ 88 17 ∧ σ104 88 18 = τ 88 18) := q105_1
          replace q105_2 : aM σ104 = need (decide (¬ (0 : Int) = 0)) (5 : Int) (aM τ) := q105_2
          have hFσ104 : tw_F (fun c j => (c = 88 ∧ (j = 9 ∨ j = 10 ∨ j = 12 ∨ j = 13 ∨ j = 14 ∨ j = 15 ∨ j = 16 ∨ j = 17 ∨ j = 18)) ∨ (c = 89 ∧ j < 100) ∨ (90 ≤ c ∧ c < 98)) σ σ104 := tw_F_tr hFτ hGσ104 (fun c j q => (show (c = 88 ∧ (j = 9 ∨ j = 10 ∨ j = 12 ∨ j = 13 ∨ j = 14 ∨ j = 15 ∨ j = 16 ∨ j = 17 ∨ j = 18)) ∨ (c = 89 ∧ j < 100) ∨ (90 ≤ c ∧ c < 98) from by replace q : (c = 88 ∧ (j = 17 ∨ j = 18)) := q; omega))
          refine j_st (st' := []) rfl ?_
          have pm := parse_M i4 (by omega) ((q105_2).trans (need_cg (g' := decide (τ 88 10 ≤ τ 93 0)) (fun _ => by first | exact (decide_eq_true (by omega)).trans (decide_eq_true (by omega)).symm | exact (decide_eq_false (by omega)).trans (decide_eq_false (by omega)).symm)))
          refine j_aload_n (pc := 67) dX12_text_67 rfl rfl ?_
          refine j_iconst (pc := 68) dX12_text_68 ?_
          refine j_putI (pc := 69) fl_X12_86 fp_X12_12 dX12_text_69 (a_88 hM) rfl (j_nm (fun σ107 (eσ107 : σ107 = tw_up σ104 88 12 0) => ?_))
          have hIσ107 : tw_I σ107 := tw_I_up hIσ104 eσ107 (show (0 : Int) ≤ 0 ∧ 0 ≤ 400 from ⟨by omega, by omega⟩)
          have hFσ107 : tw_F (fun c j => (c = 88 ∧ (j = 9 ∨ j = 10 ∨ j = 12 ∨ j = 13 ∨ j = 14 ∨ j = 15 ∨ j = 16 ∨ j = 17 ∨ j = 18)) ∨ (c = 89 ∧ j < 100) ∨ (90 ≤ c ∧ c < 98)) σ σ107 := tw_F_up hFσ104 eσ107 (show (88 = 88 ∧ (12 = 9 ∨ 12 = 10 ∨ 12 = 12 ∨ 12 = 13 ∨ 12 = 14 ∨ 12 = 15 ∨ 12 = 16 ∨ 12 = 17 ∨ 12 = 18)) ∨ (88 = 89 ∧ 12 < 100) ∨ (90 ≤ 88 ∧ 88 < 98) from by omega)
          refine j_aload_n (pc := 72) dX12_text_72 rfl rfl ?_
          refine j_getI (pc := 73) fl_X12_91 dX12_text_73 (a_88 hM) rfl ?_
          refine j_topV (show σ107 88 17 = σ104 88 17 from (tw_ne1 eσ107 (by omega))) ?_
          have f108 : (0 : Int) ≤ σ104 88 17 ∧ σ104 88 17 ≤ 5 := hIσ104 88 17
          refine j_ifR_le (pc := 76) (tgt := 87) ⟨by omega, by omega⟩ dX12_text_76 rfl (fun h109 => ?_) (fun h109 => ?_)
          · have z9 : σ107 88 17 = 0 := ((tw_ne1 eσ107 (by omega))).trans (by omega)
            refine j_aload_n (pc := 87) dX12_text_87 rfl rfl ?_
            have y110 : σ107 89 193 = τ 89 193 := ((tw_ne1 eσ107 (by omega))).trans (hGσ104 89 193 (show ¬ ((89 = 88 ∧ (193 = 17 ∨ 193 = 18))) from by omega))
            have f111 : (0 : Int) ≤ τ 89 193 ∧ τ 89 193 ≤ 999 := hIτ 89 193
            have y112 : σ107 89 195 = τ 89 195 := ((tw_ne1 eσ107 (by omega))).trans (hGσ104 89 195 (show ¬ ((89 = 88 ∧ (195 = 17 ∨ 195 = 18))) from by omega))
            have f113 : (0 : Int) ≤ τ 89 195 ∧ τ 89 195 ≤ 999 := hIτ 89 195
            have y114 : σ107 89 293 = τ 89 293 := ((tw_ne1 eσ107 (by omega))).trans (hGσ104 89 293 (show ¬ ((89 = 88 ∧ (293 = 17 ∨ 293 = 18))) from by omega))
            have f115 : (0 : Int) ≤ τ 89 293 ∧ τ 89 293 ≤ 999 := hIτ 89 293
            have y116 : σ107 89 295 = τ 89 295 := ((tw_ne1 eσ107 (by omega))).trans (hGσ104 89 295 (show ¬ ((89 = 88 ∧ (295 = 17 ∨ 295 = 18))) from by omega))
            have f117 : (0 : Int) ≤ τ 89 295 ∧ τ 89 295 ≤ 999 := hIτ 89 295
            refine j_callV (pc := 88) (As := []) (st := []) (c_X12_keepDraft hM σ107 hIσ107 (DQ_dr (DQ_F i0 (fun j => ((tw_ne1 eσ107 (by omega))).trans (hGσ104 93 j (show ¬ ((93 = 88 ∧ (j = 17 ∨ j = 18))) from by omega))) (fun j => ((tw_ne1 eσ107 (by omega))).trans (hGσ104 94 j (show ¬ ((94 = 88 ∧ (j = 17 ∨ j = 18))) from by omega))) (by omega)) (by omega)) (by omega) (by omega)) mv_X12_68 rfl rfl rfl (a_88 hM) dX12_text_88 ⟨Nat.le_of_ble_eq_true rfl, Nat.le_of_ble_eq_true rfl⟩ ⟨Nat.le_refl _, Nat.le_refl _⟩ rfl (Nat.le_of_ble_eq_true rfl) rfl (fun z118 σ119 hz118 => ?_)
            obtain ⟨rfl, hIσ119, hGσ119, q120_0, q120_1, q120_2, q120_3, q120_4, q120_5, q120_6⟩ := hz118
            replace q120_0 : mI σ119 := q120_0
            replace q120_1 : σ119 90 0 = 0 := q120_1
            replace q120_2 : σ119 90 1 = 0 := q120_2
            replace q120_3 : σ119 89 93 = 0 := q120_3
            replace q120_4 : σ119 89 94 = 0 := q120_4
            replace q120_5 : σ119 89 95 = 0 := q120_5
            replace q120_6 : σ119 89 96 = 0 := q120_6
            have hFσ119 : tw_F (fun c j => (c = 88 ∧ (j = 9 ∨ j = 10 ∨ j = 12 ∨ j = 13 ∨ j = 14 ∨ j = 15 ∨ j = 16 ∨ j = 17 ∨ j = 18)) ∨ (c = 89 ∧ j < 100) ∨ (90 ≤ c ∧ c < 98)) σ σ119 := tw_F_tr hFσ107 hGσ119 (fun c j q => (show (c = 88 ∧ (j = 9 ∨ j = 10 ∨ j = 12 ∨ j = 13 ∨ j = 14 ∨ j = 15 ∨ j = 16 ∨ j = 17 ∨ j = 18)) ∨ (c = 89 ∧ j < 100) ∨ (90 ≤ c ∧ c < 98) from by replace q : (c = 89 ∧ j < 100) ∨ (90 ≤ c ∧ c < 93) := q; omega))
            refine j_st (st' := []) rfl ?_
            refine j_iload_n (pc := 91) dX12_text_91 rfl rfl ?_
            have y122 : σ119 88 12 = 0 := ((hGσ119 88 12 (show ¬ ((88 = 89 ∧ 12 < 100) ∨ (90 ≤ 88 ∧ 88 < 93)) from by omega))).trans (tw_eq1 eσ107)
            have y123 : σ119 88 17 = σ104 88 17 := ((hGσ119 88 17 (show ¬ ((88 = 89 ∧ 17 < 100) ∨ (90 ≤ 88 ∧ 88 < 93)) from by omega))).trans (tw_ne1 eσ107 (by omega))
            have y124 : σ119 88 17 = σ104 88 17 := ((hGσ119 88 17 (show ¬ ((88 = 89 ∧ 17 < 100) ∨ (90 ≤ 88 ∧ 88 < 93)) from by omega))).trans (tw_ne1 eσ107 (by omega))
            have y125 : σ119 88 17 = σ104 88 17 := ((hGσ119 88 17 (show ¬ ((88 = 89 ∧ 17 < 100) ∨ (90 ≤ 88 ∧ 88 < 93)) from by omega))).trans (tw_ne1 eσ107 (by omega))
            have y126 : σ119 88 17 = σ104 88 17 := ((hGσ119 88 17 (show ¬ ((88 = 89 ∧ 17 < 100) ∨ (90 ≤ 88 ∧ 88 < 93)) from by omega))).trans (tw_ne1 eσ107 (by omega))
            have y127 : σ119 88 17 = σ104 88 17 := ((hGσ119 88 17 (show ¬ ((88 = 89 ∧ 17 < 100) ∨ (90 ≤ 88 ∧ 88 < 93)) from by omega))).trans (tw_ne1 eσ107 (by omega))
            have y128 : σ119 88 17 = σ104 88 17 := ((hGσ119 88 17 (show ¬ ((88 = 89 ∧ 17 < 100) ∨ (90 ≤ 88 ∧ 88 < 93)) from by omega))).trans (tw_ne1 eσ107 (by omega))
            exact j_iret (pc := 92) ⟨rfl, rfl⟩ dX12_text_92 rfl ⟨_, rfl, ⟨by omega, by omega⟩, hIσ119, hFσ119, (by first | exact q120_0 | exact mI_kept i1 (fun j hj => rfl) (fun j => rfl) (rfl) hIτ), by omega, (by rw [← pm]; first | exact (mtxt_f (by omega)).symm | exact (mtxt_t (by omega)).symm | (rw [mtxt_f (by omega)]; omega) | (rw [mtxt_t (by omega)]; omega)), (by rw [← pm]; show _ = (aM _) 4; rw [aM_4]; omega), by omega, by omega, by omega, by omega, by omega⟩
          · refine j_bipush (pc := 79) dX12_text_79 rfl ?_
            refine j_aload_n (pc := 81) dX12_text_81 rfl rfl ?_
            refine j_getI (pc := 82) fl_X12_97 dX12_text_82 (a_88 hM) rfl ?_
            refine j_topV (show σ107 88 18 = σ104 88 18 from (tw_ne1 eσ107 (by omega))) ?_
            have f129 : (0 : Int) ≤ σ104 88 18 ∧ σ104 88 18 ≤ 400 := hIσ104 88 18
            refine j_isub (pc := 85) dX12_text_85 ?_
            have y130 : σ107 88 12 = 0 := (tw_eq1 eσ107)
            have y131 : σ107 88 17 = σ104 88 17 := (tw_ne1 eσ107 (by omega))
            have y132 : σ107 88 17 = σ104 88 17 := (tw_ne1 eσ107 (by omega))
            have y133 : σ107 90 0 = τ 90 0 := ((tw_ne1 eσ107 (by omega))).trans (hGσ104 90 0 (show ¬ ((90 = 88 ∧ (0 = 17 ∨ 0 = 18))) from by omega))
            have f134 : (0 : Int) ≤ τ 90 0 ∧ τ 90 0 ≤ 1 := hIτ 90 0
            have y135 : σ107 90 1 = τ 90 1 := ((tw_ne1 eσ107 (by omega))).trans (hGσ104 90 1 (show ¬ ((90 = 88 ∧ (1 = 17 ∨ 1 = 18))) from by omega))
            have f136 : (0 : Int) ≤ τ 90 1 ∧ τ 90 1 ≤ 1 := hIτ 90 1
            have y137 : σ107 88 17 = σ104 88 17 := (tw_ne1 eσ107 (by omega))
            have y138 : σ107 89 93 = τ 89 93 := ((tw_ne1 eσ107 (by omega))).trans (hGσ104 89 93 (show ¬ ((89 = 88 ∧ (93 = 17 ∨ 93 = 18))) from by omega))
            have f139 : (0 : Int) ≤ τ 89 93 ∧ τ 89 93 ≤ 999 := hIτ 89 93
            have y140 : σ107 88 17 = σ104 88 17 := (tw_ne1 eσ107 (by omega))
            have y141 : σ107 89 94 = τ 89 94 := ((tw_ne1 eσ107 (by omega))).trans (hGσ104 89 94 (show ¬ ((89 = 88 ∧ (94 = 17 ∨ 94 = 18))) from by omega))
            have f142 : (-2147483648 : Int) ≤ τ 89 94 ∧ τ 89 94 ≤ 2147483647 := hIτ 89 94
            have y143 : σ107 88 17 = σ104 88 17 := (tw_ne1 eσ107 (by omega))
            have y144 : σ107 89 95 = τ 89 95 := ((tw_ne1 eσ107 (by omega))).trans (hGσ104 89 95 (show ¬ ((89 = 88 ∧ (95 = 17 ∨ 95 = 18))) from by omega))
            have f145 : (0 : Int) ≤ τ 89 95 ∧ τ 89 95 ≤ 999 := hIτ 89 95
            have y146 : σ107 88 17 = σ104 88 17 := (tw_ne1 eσ107 (by omega))
            have y147 : σ107 89 96 = τ 89 96 := ((tw_ne1 eσ107 (by omega))).trans (hGσ104 89 96 (show ¬ ((89 = 88 ∧ (96 = 17 ∨ 96 = 18))) from by omega))
            have f148 : (-2147483648 : Int) ≤ τ 89 96 ∧ τ 89 96 ≤ 2147483647 := hIτ 89 96
            exact j_iret (pc := 86) ⟨rfl, rfl⟩ dX12_text_86 rfl ⟨_, rfl, ⟨by omega, by omega⟩, hIσ107, hFσ107, (by first | exact q105_0 | exact mI_kept i1 (fun j hj => ((tw_ne1 eσ107 (by omega))).trans (hGσ104 89 j (show ¬ ((89 = 88 ∧ (j = 17 ∨ j = 18))) from by omega))) (fun j => ((tw_ne1 eσ107 (by omega))).trans (hGσ104 90 j (show ¬ ((90 = 88 ∧ (j = 17 ∨ j = 18))) from by omega))) (((tw_ne1 eσ107 (by omega))).trans (hGσ104 91 0 (show ¬ ((91 = 88 ∧ (0 = 17 ∨ 0 = 18))) from by omega))) hIτ), by omega, (by rw [← pm]; first | exact (mtxt_f (by omega)).symm | exact (mtxt_t (by omega)).symm | (rw [mtxt_f (by omega)]; omega) | (rw [mtxt_t (by omega)]; omega)), (by rw [← pm]; show _ = (aM _) 4; rw [aM_4]; omega), by omega, by omega, by omega, by omega, by omega⟩
        · refine j_iconst (pc := 58) dX12_text_58 ?_
          refine j_goto (pc := 59) (tgt := 63) dX12_text_59 rfl ?_
          refine j_iconst (pc := 63) dX12_text_63 ?_
          refine j_callV (pc := 64) (As := [vI 1, vI 5]) (st := []) (c_X12_needs hM 1 ⟨by omega, by omega⟩ 5 ⟨by omega, by omega⟩ τ hIτ) mv_X12_129 rfl rfl rfl (a_88 hM) dX12_text_64 ⟨Nat.le_of_ble_eq_true rfl, Nat.le_of_ble_eq_true rfl⟩ ⟨Nat.le_refl _, Nat.le_refl _⟩ rfl (Nat.le_of_ble_eq_true rfl) rfl (fun z149 σ150 hz149 => ?_)
          obtain ⟨rfl, hIσ150, hGσ150, q151_0, q151_1, q151_2⟩ := hz149
          replace q151_0 : (¬ (1 : Int) = 0 ∧ σ150 88 17 = τ 88 17) ∨ ((1 : Int) = 0 ∧ τ 88 17 = 0 ∧ σ150 88 17 = (5 : Int)) ∨ ((1 : Int) = 0 ∧ ¬ τ 88 17 = 0 ∧ σ150 88 17 = τ 88 17) := q151_0
          replace q151_1 : (¬ (1 : Int) = 0 ∧ σ150 88 17 = τ 88 17 ∧ σ150 88 18 = τ 88 18) ∨ ((1 : Int) = 0 ∧ τ 88 17 = 0 ∧ σ150 88 17 = (5 : Int) ∧ σ150 88 18 = τ 88 14) ∨ ((1 : Int) = 0 ∧ ¬ τ 88 17 = 0 ∧ σ150 88 17 = τ 88 17 ∧ σ150 88 18 = τ 88 18) := q151_1
          replace q151_2 : aM σ150 = need (decide (¬ (1 : Int) = 0)) (5 : Int) (aM τ) := q151_2
          have hFσ150 : tw_F (fun c j => (c = 88 ∧ (j = 9 ∨ j = 10 ∨ j = 12 ∨ j = 13 ∨ j = 14 ∨ j = 15 ∨ j = 16 ∨ j = 17 ∨ j = 18)) ∨ (c = 89 ∧ j < 100) ∨ (90 ≤ c ∧ c < 98)) σ σ150 := tw_F_tr hFτ hGσ150 (fun c j q => (show (c = 88 ∧ (j = 9 ∨ j = 10 ∨ j = 12 ∨ j = 13 ∨ j = 14 ∨ j = 15 ∨ j = 16 ∨ j = 17 ∨ j = 18)) ∨ (c = 89 ∧ j < 100) ∨ (90 ≤ c ∧ c < 98) from by replace q : (c = 88 ∧ (j = 17 ∨ j = 18)) := q; omega))
          refine j_st (st' := []) rfl ?_
          have pm := parse_M i4 (by omega) ((q151_2).trans (need_cg (g' := decide (τ 88 10 ≤ τ 93 0)) (fun _ => by first | exact (decide_eq_true (by omega)).trans (decide_eq_true (by omega)).symm | exact (decide_eq_false (by omega)).trans (decide_eq_false (by omega)).symm)))
          refine j_aload_n (pc := 67) dX12_text_67 rfl rfl ?_
          refine j_iconst (pc := 68) dX12_text_68 ?_
          refine j_putI (pc := 69) fl_X12_86 fp_X12_12 dX12_text_69 (a_88 hM) rfl (j_nm (fun σ153 (eσ153 : σ153 = tw_up σ150 88 12 0) => ?_))
          have hIσ153 : tw_I σ153 := tw_I_up hIσ150 eσ153 (show (0 : Int) ≤ 0 ∧ 0 ≤ 400 from ⟨by omega, by omega⟩)
          have hFσ153 : tw_F (fun c j => (c = 88 ∧ (j = 9 ∨ j = 10 ∨ j = 12 ∨ j = 13 ∨ j = 14 ∨ j = 15 ∨ j = 16 ∨ j = 17 ∨ j = 18)) ∨ (c = 89 ∧ j < 100) ∨ (90 ≤ c ∧ c < 98)) σ σ153 := tw_F_up hFσ150 eσ153 (show (88 = 88 ∧ (12 = 9 ∨ 12 = 10 ∨ 12 = 12 ∨ 12 = 13 ∨ 12 = 14 ∨ 12 = 15 ∨ 12 = 16 ∨ 12 = 17 ∨ 12 = 18)) ∨ (88 = 89 ∧ 12 < 100) ∨ (90 ≤ 88 ∧ 88 < 98) from by omega)
          refine j_aload_n (pc := 72) dX12_text_72 rfl rfl ?_
          refine j_getI (pc := 73) fl_X12_91 dX12_text_73 (a_88 hM) rfl ?_
          refine j_topV (show σ153 88 17 = σ150 88 17 from (tw_ne1 eσ153 (by omega))) ?_
          have f154 : (0 : Int) ≤ σ150 88 17 ∧ σ150 88 17 ≤ 5 := hIσ150 88 17
          refine j_ifR_le (pc := 76) (tgt := 87) ⟨by omega, by omega⟩ dX12_text_76 rfl (fun h155 => ?_) (fun h155 => ?_)
          · have z9 : σ153 88 17 = 0 := ((tw_ne1 eσ153 (by omega))).trans (by omega)
            refine j_aload_n (pc := 87) dX12_text_87 rfl rfl ?_
            have y156 : σ153 89 193 = τ 89 193 := ((tw_ne1 eσ153 (by omega))).trans (hGσ150 89 193 (show ¬ ((89 = 88 ∧ (193 = 17 ∨ 193 = 18))) from by omega))
            have f157 : (0 : Int) ≤ τ 89 193 ∧ τ 89 193 ≤ 999 := hIτ 89 193
            have y158 : σ153 89 195 = τ 89 195 := ((tw_ne1 eσ153 (by omega))).trans (hGσ150 89 195 (show ¬ ((89 = 88 ∧ (195 = 17 ∨ 195 = 18))) from by omega))
            have f159 : (0 : Int) ≤ τ 89 195 ∧ τ 89 195 ≤ 999 := hIτ 89 195
            have y160 : σ153 89 293 = τ 89 293 := ((tw_ne1 eσ153 (by omega))).trans (hGσ150 89 293 (show ¬ ((89 = 88 ∧ (293 = 17 ∨ 293 = 18))) from by omega))
            have f161 : (0 : Int) ≤ τ 89 293 ∧ τ 89 293 ≤ 999 := hIτ 89 293
            have y162 : σ153 89 295 = τ 89 295 := ((tw_ne1 eσ153 (by omega))).trans (hGσ150 89 295 (show ¬ ((89 = 88 ∧ (295 = 17 ∨ 295 = 18))) from by omega))
            have f163 : (0 : Int) ≤ τ 89 295 ∧ τ 89 295 ≤ 999 := hIτ 89 295
            refine j_callV (pc := 88) (As := []) (st := []) (c_X12_keepDraft hM σ153 hIσ153 (DQ_dr (DQ_F i0 (fun j => ((tw_ne1 eσ153 (by omega))).trans (hGσ150 93 j (show ¬ ((93 = 88 ∧ (j = 17 ∨ j = 18))) from by omega))) (fun j => ((tw_ne1 eσ153 (by omega))).trans (hGσ150 94 j (show ¬ ((94 = 88 ∧ (j = 17 ∨ j = 18))) from by omega))) (by omega)) (by omega)) (by omega) (by omega)) mv_X12_68 rfl rfl rfl (a_88 hM) dX12_text_88 ⟨Nat.le_of_ble_eq_true rfl, Nat.le_of_ble_eq_true rfl⟩ ⟨Nat.le_refl _, Nat.le_refl _⟩ rfl (Nat.le_of_ble_eq_true rfl) rfl (fun z164 σ165 hz164 => ?_)
            obtain ⟨rfl, hIσ165, hGσ165, q166_0, q166_1, q166_2, q166_3, q166_4, q166_5, q166_6⟩ := hz164
            replace q166_0 : mI σ165 := q166_0
            replace q166_1 : σ165 90 0 = 0 := q166_1
            replace q166_2 : σ165 90 1 = 0 := q166_2
            replace q166_3 : σ165 89 93 = 0 := q166_3
            replace q166_4 : σ165 89 94 = 0 := q166_4
            replace q166_5 : σ165 89 95 = 0 := q166_5
            replace q166_6 : σ165 89 96 = 0 := q166_6
            have hFσ165 : tw_F (fun c j => (c = 88 ∧ (j = 9 ∨ j = 10 ∨ j = 12 ∨ j = 13 ∨ j = 14 ∨ j = 15 ∨ j = 16 ∨ j = 17 ∨ j = 18)) ∨ (c = 89 ∧ j < 100) ∨ (90 ≤ c ∧ c < 98)) σ σ165 := tw_F_tr hFσ153 hGσ165 (fun c j q => (show (c = 88 ∧ (j = 9 ∨ j = 10 ∨ j = 12 ∨ j = 13 ∨ j = 14 ∨ j = 15 ∨ j = 16 ∨ j = 17 ∨ j = 18)) ∨ (c = 89 ∧ j < 100) ∨ (90 ≤ c ∧ c < 98) from by replace q : (c = 89 ∧ j < 100) ∨ (90 ≤ c ∧ c < 93) := q; omega))
            refine j_st (st' := []) rfl ?_
            refine j_iload_n (pc := 91) dX12_text_91 rfl rfl ?_
            have y168 : σ165 88 12 = 0 := ((hGσ165 88 12 (show ¬ ((88 = 89 ∧ 12 < 100) ∨ (90 ≤ 88 ∧ 88 < 93)) from by omega))).trans (tw_eq1 eσ153)
            have y169 : σ165 88 17 = σ150 88 17 := ((hGσ165 88 17 (show ¬ ((88 = 89 ∧ 17 < 100) ∨ (90 ≤ 88 ∧ 88 < 93)) from by omega))).trans (tw_ne1 eσ153 (by omega))
            have y170 : σ165 88 17 = σ150 88 17 := ((hGσ165 88 17 (show ¬ ((88 = 89 ∧ 17 < 100) ∨ (90 ≤ 88 ∧ 88 < 93)) from by omega))).trans (tw_ne1 eσ153 (by omega))
            have y171 : σ165 88 17 = σ150 88 17 := ((hGσ165 88 17 (show ¬ ((88 = 89 ∧ 17 < 100) ∨ (90 ≤ 88 ∧ 88 < 93)) from by omega))).trans (tw_ne1 eσ153 (by omega))
            have y172 : σ165 88 17 = σ150 88 17 := ((hGσ165 88 17 (show ¬ ((88 = 89 ∧ 17 < 100) ∨ (90 ≤ 88 ∧ 88 < 93)) from by omega))).trans (tw_ne1 eσ153 (by omega))
            have y173 : σ165 88 17 = σ150 88 17 := ((hGσ165 88 17 (show ¬ ((88 = 89 ∧ 17 < 100) ∨ (90 ≤ 88 ∧ 88 < 93)) from by omega))).trans (tw_ne1 eσ153 (by omega))
            have y174 : σ165 88 17 = σ150 88 17 := ((hGσ165 88 17 (show ¬ ((88 = 89 ∧ 17 < 100) ∨ (90 ≤ 88 ∧ 88 < 93)) from by omega))).trans (tw_ne1 eσ153 (by omega))
            exact j_iret (pc := 92) ⟨rfl, rfl⟩ dX12_text_92 rfl ⟨_, rfl, ⟨by omega, by omega⟩, hIσ165, hFσ165, (by first | exact q166_0 | exact mI_kept i1 (fun j hj => rfl) (fun j => rfl) (rfl) hIτ), by omega, (by rw [← pm]; first | exact (mtxt_f (by omega)).symm | exact (mtxt_t (by omega)).symm | (rw [mtxt_f (by omega)]; omega) | (rw [mtxt_t (by omega)]; omega)), (by rw [← pm]; show _ = (aM _) 4; rw [aM_4]; omega), by omega, by omega, by omega, by omega, by omega⟩
          · refine j_bipush (pc := 79) dX12_text_79 rfl ?_
            refine j_aload_n (pc := 81) dX12_text_81 rfl rfl ?_
            refine j_getI (pc := 82) fl_X12_97 dX12_text_82 (a_88 hM) rfl ?_
            refine j_topV (show σ153 88 18 = σ150 88 18 from (tw_ne1 eσ153 (by omega))) ?_
            have f175 : (0 : Int) ≤ σ150 88 18 ∧ σ150 88 18 ≤ 400 := hIσ150 88 18
            refine j_isub (pc := 85) dX12_text_85 ?_
            have y176 : σ153 88 12 = 0 := (tw_eq1 eσ153)
            have y177 : σ153 88 17 = σ150 88 17 := (tw_ne1 eσ153 (by omega))
            have y178 : σ153 88 17 = σ150 88 17 := (tw_ne1 eσ153 (by omega))
            have y179 : σ153 90 0 = τ 90 0 := ((tw_ne1 eσ153 (by omega))).trans (hGσ150 90 0 (show ¬ ((90 = 88 ∧ (0 = 17 ∨ 0 = 18))) from by omega))
            have f180 : (0 : Int) ≤ τ 90 0 ∧ τ 90 0 ≤ 1 := hIτ 90 0
            have y181 : σ153 90 1 = τ 90 1 := ((tw_ne1 eσ153 (by omega))).trans (hGσ150 90 1 (show ¬ ((90 = 88 ∧ (1 = 17 ∨ 1 = 18))) from by omega))
            have f182 : (0 : Int) ≤ τ 90 1 ∧ τ 90 1 ≤ 1 := hIτ 90 1
            have y183 : σ153 88 17 = σ150 88 17 := (tw_ne1 eσ153 (by omega))
            have y184 : σ153 89 93 = τ 89 93 := ((tw_ne1 eσ153 (by omega))).trans (hGσ150 89 93 (show ¬ ((89 = 88 ∧ (93 = 17 ∨ 93 = 18))) from by omega))
            have f185 : (0 : Int) ≤ τ 89 93 ∧ τ 89 93 ≤ 999 := hIτ 89 93
            have y186 : σ153 88 17 = σ150 88 17 := (tw_ne1 eσ153 (by omega))
            have y187 : σ153 89 94 = τ 89 94 := ((tw_ne1 eσ153 (by omega))).trans (hGσ150 89 94 (show ¬ ((89 = 88 ∧ (94 = 17 ∨ 94 = 18))) from by omega))
            have f188 : (-2147483648 : Int) ≤ τ 89 94 ∧ τ 89 94 ≤ 2147483647 := hIτ 89 94
            have y189 : σ153 88 17 = σ150 88 17 := (tw_ne1 eσ153 (by omega))
            have y190 : σ153 89 95 = τ 89 95 := ((tw_ne1 eσ153 (by omega))).trans (hGσ150 89 95 (show ¬ ((89 = 88 ∧ (95 = 17 ∨ 95 = 18))) from by omega))
            have f191 : (0 : Int) ≤ τ 89 95 ∧ τ 89 95 ≤ 999 := hIτ 89 95
            have y192 : σ153 88 17 = σ150 88 17 := (tw_ne1 eσ153 (by omega))
            have y193 : σ153 89 96 = τ 89 96 := ((tw_ne1 eσ153 (by omega))).trans (hGσ150 89 96 (show ¬ ((89 = 88 ∧ (96 = 17 ∨ 96 = 18))) from by omega))
            have f194 : (-2147483648 : Int) ≤ τ 89 96 ∧ τ 89 96 ≤ 2147483647 := hIτ 89 96
            exact j_iret (pc := 86) ⟨rfl, rfl⟩ dX12_text_86 rfl ⟨_, rfl, ⟨by omega, by omega⟩, hIσ153, hFσ153, (by first | exact q151_0 | exact mI_kept i1 (fun j hj => ((tw_ne1 eσ153 (by omega))).trans (hGσ150 89 j (show ¬ ((89 = 88 ∧ (j = 17 ∨ j = 18))) from by omega))) (fun j => ((tw_ne1 eσ153 (by omega))).trans (hGσ150 90 j (show ¬ ((90 = 88 ∧ (j = 17 ∨ j = 18))) from by omega))) (((tw_ne1 eσ153 (by omega))).trans (hGσ150 91 0 (show ¬ ((91 = 88 ∧ (0 = 17 ∨ 0 = 18))) from by omega))) hIτ), by omega, (by rw [← pm]; first | exact (mtxt_f (by omega)).symm | exact (mtxt_t (by omega)).symm | (rw [mtxt_f (by omega)]; omega) | (rw [mtxt_t (by omega)]; omega)), (by rw [← pm]; show _ = (aM _) 4; rw [aM_4]; omega), by omega, by omega, by omega, by omega, by omega⟩
      · refine j_aload_n (pc := 34) dX12_text_34 rfl rfl ?_
        refine j_callV (pc := 35) (As := []) (st := []) (c_X12_readLine hM τ hIτ i0 (by omega) (by rw [fx]; exact hq1)) mv_X12_161 rfl rfl rfl (a_88 hM) dX12_text_35 ⟨Nat.le_of_ble_eq_true rfl, Nat.le_of_ble_eq_true rfl⟩ ⟨Nat.le_refl _, Nat.le_refl _⟩ rfl (Nat.le_of_ble_eq_true rfl) rfl (fun z195 σ196 hz195 => ?_)
        obtain ⟨rfl, hIσ196, hGσ196, q197_0, q197_1, q197_2, q197_3⟩ := hz195
        replace q197_0 : DQ σ196 := q197_0
        replace q197_1 : τ 88 13 ≤ σ196 88 13 := q197_1
        replace q197_2 : ¬ σ196 88 17 = 0 ∨ σ196 88 15 = 0 ∨ τ 88 13 < σ196 88 13 := q197_2
        replace q197_3 : aM σ196 = lineM (fM τ) (aM τ) := q197_3
        have hFσ196 : tw_F (fun c j => (c = 88 ∧ (j = 9 ∨ j = 10 ∨ j = 12 ∨ j = 13 ∨ j = 14 ∨ j = 15 ∨ j = 16 ∨ j = 17 ∨ j = 18)) ∨ (c = 89 ∧ j < 100) ∨ (90 ≤ c ∧ c < 98)) σ σ196 := tw_F_tr hFτ hGσ196 (fun c j q => (show (c = 88 ∧ (j = 9 ∨ j = 10 ∨ j = 12 ∨ j = 13 ∨ j = 14 ∨ j = 15 ∨ j = 16 ∨ j = 17 ∨ j = 18)) ∨ (c = 89 ∧ j < 100) ∨ (90 ≤ c ∧ c < 98) from by replace q : (c = 88 ∧ (j = 9 ∨ j = 10 ∨ j = 13 ∨ j = 14 ∨ j = 15 ∨ j = 16 ∨ j = 17 ∨ j = 18)) ∨ (93 ≤ c ∧ c < 98) := q; omega))
        refine j_st (st' := []) rfl ?_
        skip
        skip
        skip
        have y1 : σ196 88 17 = σ196 88 17 := by first | rfl | exact tw_ne1 _ (by omega)
        have y2 : σ196 88 15 = σ196 88 15 := by first | rfl | exact tw_ne1 _ (by omega)
        have y3 : σ196 88 13 = σ196 88 13 := by first | rfl | exact tw_ne1 _ (by omega)
        have y4 : (0 : Int) ≤ σ196 88 13 ∧ σ196 88 13 ≤ 400 := hIσ196 88 13
        have lt9 := mTx_lt (f := τ 88 17) (s := τ 88 15) (p := τ 88 13) (f2 := σ196 88 17) (s2 := σ196 88 15) (p2 := σ196 88 13) (by omega) (by omega) (by omega) (by omega) (by omega)
        have cl2 : aM σ196 = lineX (fM σ) (aM τ) := by (have q := q197_3); rw [fx] at q; exact q.trans (line_XM hq1).symm
        refine j_iinc (pc := 38) (i := 1) (n := 1) (ls' := [(0, vR 88), (1, vI (m + 1))]) [1, 0] dX12_text_38 rfl (Nat.le_of_ble_eq_true rfl) rfl rfl ?_
        refine j_goto (pc := 41) (tgt := 20) dX12_text_41 rfl ?_
        refine j_ls (ls' := [(0, vR 88), (1, vI (m + 1))]) [0, 1] rfl ?_
        have y199 : σ196 88 12 = τ 88 12 := (hGσ196 88 12 (show ¬ ((88 = 88 ∧ (12 = 9 ∨ 12 = 10 ∨ 12 = 13 ∨ 12 = 14 ∨ 12 = 15 ∨ 12 = 16 ∨ 12 = 17 ∨ 12 = 18)) ∨ (93 ≤ 88 ∧ 88 < 98)) from by omega))
        have f200 : (0 : Int) ≤ τ 88 12 ∧ τ 88 12 ≤ 400 := hIτ 88 12
        have y201 : σ196 90 0 = τ 90 0 := (hGσ196 90 0 (show ¬ ((90 = 88 ∧ (0 = 9 ∨ 0 = 10 ∨ 0 = 13 ∨ 0 = 14 ∨ 0 = 15 ∨ 0 = 16 ∨ 0 = 17 ∨ 0 = 18)) ∨ (93 ≤ 90 ∧ 90 < 98)) from by omega))
        have f202 : (0 : Int) ≤ τ 90 0 ∧ τ 90 0 ≤ 1 := hIτ 90 0
        have y203 : σ196 90 1 = τ 90 1 := (hGσ196 90 1 (show ¬ ((90 = 88 ∧ (1 = 9 ∨ 1 = 10 ∨ 1 = 13 ∨ 1 = 14 ∨ 1 = 15 ∨ 1 = 16 ∨ 1 = 17 ∨ 1 = 18)) ∨ (93 ≤ 90 ∧ 90 < 98)) from by omega))
        have f204 : (0 : Int) ≤ τ 90 1 ∧ τ 90 1 ≤ 1 := hIτ 90 1
        have y205 : σ196 89 93 = τ 89 93 := (hGσ196 89 93 (show ¬ ((89 = 88 ∧ (93 = 9 ∨ 93 = 10 ∨ 93 = 13 ∨ 93 = 14 ∨ 93 = 15 ∨ 93 = 16 ∨ 93 = 17 ∨ 93 = 18)) ∨ (93 ≤ 89 ∧ 89 < 98)) from by omega))
        have f206 : (0 : Int) ≤ τ 89 93 ∧ τ 89 93 ≤ 999 := hIτ 89 93
        have y207 : σ196 89 94 = τ 89 94 := (hGσ196 89 94 (show ¬ ((89 = 88 ∧ (94 = 9 ∨ 94 = 10 ∨ 94 = 13 ∨ 94 = 14 ∨ 94 = 15 ∨ 94 = 16 ∨ 94 = 17 ∨ 94 = 18)) ∨ (93 ≤ 89 ∧ 89 < 98)) from by omega))
        have f208 : (-2147483648 : Int) ≤ τ 89 94 ∧ τ 89 94 ≤ 2147483647 := hIτ 89 94
        have y209 : σ196 89 95 = τ 89 95 := (hGσ196 89 95 (show ¬ ((89 = 88 ∧ (95 = 9 ∨ 95 = 10 ∨ 95 = 13 ∨ 95 = 14 ∨ 95 = 15 ∨ 95 = 16 ∨ 95 = 17 ∨ 95 = 18)) ∨ (93 ≤ 89 ∧ 89 < 98)) from by omega))
        have f210 : (0 : Int) ≤ τ 89 95 ∧ τ 89 95 ≤ 999 := hIτ 89 95
        have y211 : σ196 89 96 = τ 89 96 := (hGσ196 89 96 (show ¬ ((89 = 88 ∧ (96 = 9 ∨ 96 = 10 ∨ 96 = 13 ∨ 96 = 14 ∨ 96 = 15 ∨ 96 = 16 ∨ 96 = 17 ∨ 96 = 18)) ∨ (93 ≤ 89 ∧ 89 < 98)) from by omega))
        have f212 : (-2147483648 : Int) ≤ τ 89 96 ∧ τ 89 96 ≤ 2147483647 := hIτ 89 96
        exact ih (m + 1) ⟨by omega, by omega⟩ σ196 hIσ196 hFσ196 (show DQ σ196 from q197_0) (show mI σ196 from mI_kept i1 (fun j hj => (hGσ196 89 j (show ¬ ((89 = 88 ∧ (j = 9 ∨ j = 10 ∨ j = 13 ∨ j = 14 ∨ j = 15 ∨ j = 16 ∨ j = 17 ∨ j = 18)) ∨ (93 ≤ 89 ∧ 89 < 98)) from by omega))) (fun j => (hGσ196 90 j (show ¬ ((90 = 88 ∧ (j = 9 ∨ j = 10 ∨ j = 13 ∨ j = 14 ∨ j = 15 ∨ j = 16 ∨ j = 17 ∨ j = 18)) ∨ (93 ≤ 90 ∧ 90 < 98)) from by omega))) ((hGσ196 91 0 (show ¬ ((91 = 88 ∧ (0 = 9 ∨ 0 = 10 ∨ 0 = 13 ∨ 0 = 14 ∨ 0 = 15 ∨ 0 = 16 ∨ 0 = 17 ∨ 0 = 18)) ∨ (93 ≤ 91 ∧ 91 < 98)) from by omega))) hIτ) (show (m + 1) ≤ σ196 88 13 ∨ ((¬ σ196 88 17 = 0 ∨ σ196 88 15 = 0) ∧ (m + 1) ≤ σ196 88 13 + 1) from by omega) (show σ196 88 12 = σ 88 12 from by omega) (show itK lstop (lstep (fM σ)) (500 - (m + 1)).toNat (aM σ196, (m + 1)) = lns (fM σ) from (mlns_s i4 ⟨by omega, by omega⟩ (by omega) (by omega) cl2 rfl)) (show σ196 90 0 = σ 90 0 from by omega) (show σ196 90 1 = σ 90 1 from by omega) (show σ196 89 93 = σ 89 93 from by omega) (show σ196 89 94 = σ 89 94 from by omega) (show σ196 89 95 = σ 89 95 from by omega) (show σ196 89 96 = σ 89 96 from by omega) (show (mTx (σ196 88 17) (σ196 88 15) (σ196 88 13)).toNat < N_ from by omega)
set_option maxHeartbeats 4000000 in
set_option maxRecDepth 100000 in
theorem c_X12_text {G : tw_G} (hM : tw_isM G) (σ : tw_M) (hI : tw_I σ) (hq0 : mI σ) (hq1 : FB (fM σ)) : tw_C G yX12_text cX12_text 2 (some .int) 5 [vR 88] σ (q_X12_text σ) := by
  refine tw_met [(0, vR 88)] (by decide +kernel) rfl (Nat.le_of_ble_eq_true rfl) ?_
  refine j_iconst (pc := 0) dX12_text_0 ?_
  refine j_istore_n (pc := 1) (i := 1) (ls' := [(0, vR 88), (1, vI 0)]) [1, 0] dX12_text_1 rfl (Nat.le_of_ble_eq_true rfl) rfl rfl ?_
  refine j_aload_n (pc := 2) dX12_text_2 rfl rfl ?_
  refine j_iconst (pc := 3) dX12_text_3 ?_
  refine j_putI (pc := 4) fl_X12_91 fp_X12_17 dX12_text_4 (a_88 hM) rfl (j_nm (fun σ213 (eσ213 : σ213 = tw_up σ 88 17 0) => ?_))
  have hIσ213 : tw_I σ213 := tw_I_up hI eσ213 (show (0 : Int) ≤ 0 ∧ 0 ≤ 5 from ⟨by omega, by omega⟩)
  have hFσ213 : tw_F (fun c j => (c = 88 ∧ (j = 9 ∨ j = 10 ∨ j = 12 ∨ j = 13 ∨ j = 14 ∨ j = 15 ∨ j = 16 ∨ j = 17 ∨ j = 18)) ∨ (c = 89 ∧ j < 100) ∨ (90 ≤ c ∧ c < 98)) σ σ213 := tw_F_up (tw_F_rf) eσ213 (show (88 = 88 ∧ (17 = 9 ∨ 17 = 10 ∨ 17 = 12 ∨ 17 = 13 ∨ 17 = 14 ∨ 17 = 15 ∨ 17 = 16 ∨ 17 = 17 ∨ 17 = 18)) ∨ (88 = 89 ∧ 17 < 100) ∨ (90 ≤ 88 ∧ 88 < 98) from by omega)
  refine j_aload_n (pc := 7) dX12_text_7 rfl rfl ?_
  refine j_iconst (pc := 8) dX12_text_8 ?_
  refine j_putI (pc := 9) fl_X12_100 fp_X12_13 dX12_text_9 (a_88 hM) rfl (j_nm (fun σ214 (eσ214 : σ214 = tw_up σ213 88 13 0) => ?_))
  have hIσ214 : tw_I σ214 := tw_I_up hIσ213 eσ214 (show (0 : Int) ≤ 0 ∧ 0 ≤ 400 from ⟨by omega, by omega⟩)
  have hFσ214 : tw_F (fun c j => (c = 88 ∧ (j = 9 ∨ j = 10 ∨ j = 12 ∨ j = 13 ∨ j = 14 ∨ j = 15 ∨ j = 16 ∨ j = 17 ∨ j = 18)) ∨ (c = 89 ∧ j < 100) ∨ (90 ≤ c ∧ c < 98)) σ σ214 := tw_F_up hFσ213 eσ214 (show (88 = 88 ∧ (13 = 9 ∨ 13 = 10 ∨ 13 = 12 ∨ 13 = 13 ∨ 13 = 14 ∨ 13 = 15 ∨ 13 = 16 ∨ 13 = 17 ∨ 13 = 18)) ∨ (88 = 89 ∧ 13 < 100) ∨ (90 ≤ 88 ∧ 88 < 98) from by omega)
  refine j_aload_n (pc := 12) dX12_text_12 rfl rfl ?_
  refine j_callV (pc := 13) (As := []) (st := []) (c_X12_firstDraft hM σ214 hIσ214) mv_X12_65 rfl rfl rfl (a_88 hM) dX12_text_13 ⟨Nat.le_of_ble_eq_true rfl, Nat.le_of_ble_eq_true rfl⟩ ⟨Nat.le_refl _, Nat.le_refl _⟩ rfl (Nat.le_of_ble_eq_true rfl) rfl (fun z215 σ216 hz215 => ?_)
  obtain ⟨rfl, hIσ216, hGσ216, q217_0, q217_1⟩ := hz215
  replace q217_0 : DR σ216 := q217_0
  replace q217_1 : drM σ216 = D0 := q217_1
  have hFσ216 : tw_F (fun c j => (c = 88 ∧ (j = 9 ∨ j = 10 ∨ j = 12 ∨ j = 13 ∨ j = 14 ∨ j = 15 ∨ j = 16 ∨ j = 17 ∨ j = 18)) ∨ (c = 89 ∧ j < 100) ∨ (90 ≤ c ∧ c < 98)) σ σ216 := tw_F_tr hFσ214 hGσ216 (fun c j q => (show (c = 88 ∧ (j = 9 ∨ j = 10 ∨ j = 12 ∨ j = 13 ∨ j = 14 ∨ j = 15 ∨ j = 16 ∨ j = 17 ∨ j = 18)) ∨ (c = 89 ∧ j < 100) ∨ (90 ≤ c ∧ c < 98) from by replace q : (c = 88 ∧ (j = 9 ∨ j = 10)) ∨ (93 ≤ c ∧ c < 98) := q; omega))
  refine j_st (st' := []) rfl ?_
  have y219 : σ216 88 13 = 0 := ((hGσ216 88 13 (show ¬ ((88 = 88 ∧ (13 = 9 ∨ 13 = 10)) ∨ (93 ≤ 88 ∧ 88 < 98)) from by omega))).trans (tw_eq1 eσ214)
  have y220 : σ216 88 17 = 0 := (((hGσ216 88 17 (show ¬ ((88 = 88 ∧ (17 = 9 ∨ 17 = 10)) ∨ (93 ≤ 88 ∧ 88 < 98)) from by omega))).trans (tw_ne1 eσ214 (by omega))).trans (tw_eq1 eσ213)
  have d0 := q217_1
  have fz : fM σ216 = fM σ := fM_F ((((hGσ216 88 12 (show ¬ ((88 = 88 ∧ (12 = 9 ∨ 12 = 10)) ∨ (93 ≤ 88 ∧ 88 < 98)) from by omega))).trans (tw_ne1 eσ214 (by omega))).trans (tw_ne1 eσ213 (by omega))) (fun j => (((hGσ216 98 j (show ¬ ((98 = 88 ∧ (j = 9 ∨ j = 10)) ∨ (93 ≤ 98 ∧ 98 < 98)) from by omega))).trans (tw_ne1 eσ214 (by omega))).trans (tw_ne1 eσ213 (by omega)))
  have a0 : aM σ216 = ok 0 (σ216 88 14) (σ216 88 15) (σ216 88 16) D0 := by rw [aM_ok (by omega), d0, show σ216 88 13 = 0 from by omega]
  refine j_aload_n (pc := 16) dX12_text_16 rfl rfl ?_
  refine j_callV (pc := 17) (As := []) (st := []) (c_X12_next hM σ216 hIσ216) mv_X12_137 rfl rfl rfl (a_88 hM) dX12_text_17 ⟨Nat.le_of_ble_eq_true rfl, Nat.le_of_ble_eq_true rfl⟩ ⟨Nat.le_refl _, Nat.le_refl _⟩ rfl (Nat.le_of_ble_eq_true rfl) rfl (fun z221 σ222 hz221 => ?_)
  obtain ⟨rfl, hIσ222, hGσ222, q223_0, q223_1, q223_2, q223_3⟩ := hz221
  replace q223_0 : ¬ σ222 88 17 = 0 ∨ σ216 88 17 = 0 := q223_0
  have y225 : σ216 88 17 = 0 := (((hGσ216 88 17 (show ¬ ((88 = 88 ∧ (17 = 9 ∨ 17 = 10)) ∨ (93 ≤ 88 ∧ 88 < 98)) from by omega))).trans (tw_ne1 eσ214 (by omega))).trans (tw_eq1 eσ213)
  replace q223_1 : σ216 88 13 ≤ σ222 88 13 := q223_1
  have y226 : σ216 88 13 = 0 := ((hGσ216 88 13 (show ¬ ((88 = 88 ∧ (13 = 9 ∨ 13 = 10)) ∨ (93 ≤ 88 ∧ 88 < 98)) from by omega))).trans (tw_eq1 eσ214)
  replace q223_2 : ¬ σ222 88 17 = 0 ∨ σ222 88 15 = 0 ∨ σ216 88 13 < σ222 88 13 := q223_2
  have y227 : σ216 88 13 = 0 := ((hGσ216 88 13 (show ¬ ((88 = 88 ∧ (13 = 9 ∨ 13 = 10)) ∨ (93 ≤ 88 ∧ 88 < 98)) from by omega))).trans (tw_eq1 eσ214)
  replace q223_3 : aM σ222 = tok (fM σ216) (aM σ216) := q223_3
  have hFσ222 : tw_F (fun c j => (c = 88 ∧ (j = 9 ∨ j = 10 ∨ j = 12 ∨ j = 13 ∨ j = 14 ∨ j = 15 ∨ j = 16 ∨ j = 17 ∨ j = 18)) ∨ (c = 89 ∧ j < 100) ∨ (90 ≤ c ∧ c < 98)) σ σ222 := tw_F_tr hFσ216 hGσ222 (fun c j q => (show (c = 88 ∧ (j = 9 ∨ j = 10 ∨ j = 12 ∨ j = 13 ∨ j = 14 ∨ j = 15 ∨ j = 16 ∨ j = 17 ∨ j = 18)) ∨ (c = 89 ∧ j < 100) ∨ (90 ≤ c ∧ c < 98) from by replace q : (c = 88 ∧ (j = 13 ∨ j = 14 ∨ j = 15 ∨ j = 16 ∨ j = 17 ∨ j = 18)) := q; omega))
  refine j_st (st' := []) rfl ?_
  refine j_ls (ls' := [(0, vR 88), (1, vI 0)]) [0, 1] rfl ?_
  have y228 : σ222 88 12 = σ 88 12 := ((((hGσ222 88 12 (show ¬ ((88 = 88 ∧ (12 = 13 ∨ 12 = 14 ∨ 12 = 15 ∨ 12 = 16 ∨ 12 = 17 ∨ 12 = 18))) from by omega))).trans (hGσ216 88 12 (show ¬ ((88 = 88 ∧ (12 = 9 ∨ 12 = 10)) ∨ (93 ≤ 88 ∧ 88 < 98)) from by omega))).trans (tw_ne1 eσ214 (by omega))).trans (tw_ne1 eσ213 (by omega))
  have f229 : (0 : Int) ≤ σ 88 12 ∧ σ 88 12 ≤ 400 := hI 88 12
  have y230 : σ222 90 0 = σ 90 0 := ((((hGσ222 90 0 (show ¬ ((90 = 88 ∧ (0 = 13 ∨ 0 = 14 ∨ 0 = 15 ∨ 0 = 16 ∨ 0 = 17 ∨ 0 = 18))) from by omega))).trans (hGσ216 90 0 (show ¬ ((90 = 88 ∧ (0 = 9 ∨ 0 = 10)) ∨ (93 ≤ 90 ∧ 90 < 98)) from by omega))).trans (tw_ne1 eσ214 (by omega))).trans (tw_ne1 eσ213 (by omega))
  have f231 : (0 : Int) ≤ σ 90 0 ∧ σ 90 0 ≤ 1 := hI 90 0
  have y232 : σ222 90 1 = σ 90 1 := ((((hGσ222 90 1 (show ¬ ((90 = 88 ∧ (1 = 13 ∨ 1 = 14 ∨ 1 = 15 ∨ 1 = 16 ∨ 1 = 17 ∨ 1 = 18))) from by omega))).trans (hGσ216 90 1 (show ¬ ((90 = 88 ∧ (1 = 9 ∨ 1 = 10)) ∨ (93 ≤ 90 ∧ 90 < 98)) from by omega))).trans (tw_ne1 eσ214 (by omega))).trans (tw_ne1 eσ213 (by omega))
  have f233 : (0 : Int) ≤ σ 90 1 ∧ σ 90 1 ≤ 1 := hI 90 1
  have y234 : σ222 89 93 = σ 89 93 := ((((hGσ222 89 93 (show ¬ ((89 = 88 ∧ (93 = 13 ∨ 93 = 14 ∨ 93 = 15 ∨ 93 = 16 ∨ 93 = 17 ∨ 93 = 18))) from by omega))).trans (hGσ216 89 93 (show ¬ ((89 = 88 ∧ (93 = 9 ∨ 93 = 10)) ∨ (93 ≤ 89 ∧ 89 < 98)) from by omega))).trans (tw_ne1 eσ214 (by omega))).trans (tw_ne1 eσ213 (by omega))
  have f235 : (0 : Int) ≤ σ 89 93 ∧ σ 89 93 ≤ 999 := hI 89 93
  have y236 : σ222 89 94 = σ 89 94 := ((((hGσ222 89 94 (show ¬ ((89 = 88 ∧ (94 = 13 ∨ 94 = 14 ∨ 94 = 15 ∨ 94 = 16 ∨ 94 = 17 ∨ 94 = 18))) from by omega))).trans (hGσ216 89 94 (show ¬ ((89 = 88 ∧ (94 = 9 ∨ 94 = 10)) ∨ (93 ≤ 89 ∧ 89 < 98)) from by omega))).trans (tw_ne1 eσ214 (by omega))).trans (tw_ne1 eσ213 (by omega))
  have f237 : (-2147483648 : Int) ≤ σ 89 94 ∧ σ 89 94 ≤ 2147483647 := hI 89 94
  have y238 : σ222 89 95 = σ 89 95 := ((((hGσ222 89 95 (show ¬ ((89 = 88 ∧ (95 = 13 ∨ 95 = 14 ∨ 95 = 15 ∨ 95 = 16 ∨ 95 = 17 ∨ 95 = 18))) from by omega))).trans (hGσ216 89 95 (show ¬ ((89 = 88 ∧ (95 = 9 ∨ 95 = 10)) ∨ (93 ≤ 89 ∧ 89 < 98)) from by omega))).trans (tw_ne1 eσ214 (by omega))).trans (tw_ne1 eσ213 (by omega))
  have f239 : (0 : Int) ≤ σ 89 95 ∧ σ 89 95 ≤ 999 := hI 89 95
  have y240 : σ222 89 96 = σ 89 96 := ((((hGσ222 89 96 (show ¬ ((89 = 88 ∧ (96 = 13 ∨ 96 = 14 ∨ 96 = 15 ∨ 96 = 16 ∨ 96 = 17 ∨ 96 = 18))) from by omega))).trans (hGσ216 89 96 (show ¬ ((89 = 88 ∧ (96 = 9 ∨ 96 = 10)) ∨ (93 ≤ 89 ∧ 89 < 98)) from by omega))).trans (tw_ne1 eσ214 (by omega))).trans (tw_ne1 eσ213 (by omega))
  have f241 : (-2147483648 : Int) ≤ σ 89 96 ∧ σ 89 96 ≤ 2147483647 := hI 89 96
  exact (l_X12_text hM σ hI hq0 hq1 (((mTx (σ222 88 17) (σ222 88 15) (σ222 88 13)).toNat) + 1)) 0 ⟨by omega, by omega⟩ σ222 hIσ222 hFσ222 (show DQ σ222 from (Or.inr (DR_F q217_0 (fun j => hGσ222 93 j (show ¬ ((93 = 88 ∧ (j = 13 ∨ j = 14 ∨ j = 15 ∨ j = 16 ∨ j = 17 ∨ j = 18))) from by omega)) (fun j => hGσ222 94 j (show ¬ ((94 = 88 ∧ (j = 13 ∨ j = 14 ∨ j = 15 ∨ j = 16 ∨ j = 17 ∨ j = 18))) from by omega))))) (show mI σ222 from mI_kept hq0 (fun j hj => ((((hGσ222 89 j (show ¬ ((89 = 88 ∧ (j = 13 ∨ j = 14 ∨ j = 15 ∨ j = 16 ∨ j = 17 ∨ j = 18))) from by omega))).trans (hGσ216 89 j (show ¬ ((89 = 88 ∧ (j = 9 ∨ j = 10)) ∨ (93 ≤ 89 ∧ 89 < 98)) from by omega))).trans (tw_ne1 eσ214 (by omega))).trans (tw_ne1 eσ213 (by omega))) (fun j => ((((hGσ222 90 j (show ¬ ((90 = 88 ∧ (j = 13 ∨ j = 14 ∨ j = 15 ∨ j = 16 ∨ j = 17 ∨ j = 18))) from by omega))).trans (hGσ216 90 j (show ¬ ((90 = 88 ∧ (j = 9 ∨ j = 10)) ∨ (93 ≤ 90 ∧ 90 < 98)) from by omega))).trans (tw_ne1 eσ214 (by omega))).trans (tw_ne1 eσ213 (by omega))) (((((hGσ222 91 0 (show ¬ ((91 = 88 ∧ (0 = 13 ∨ 0 = 14 ∨ 0 = 15 ∨ 0 = 16 ∨ 0 = 17 ∨ 0 = 18))) from by omega))).trans (hGσ216 91 0 (show ¬ ((91 = 88 ∧ (0 = 9 ∨ 0 = 10)) ∨ (93 ≤ 91 ∧ 91 < 98)) from by omega))).trans (tw_ne1 eσ214 (by omega))).trans (tw_ne1 eσ213 (by omega))) hI) (show (0 : Int) ≤ σ222 88 13 ∨ ((¬ σ222 88 17 = 0 ∨ σ222 88 15 = 0) ∧ (0 : Int) ≤ σ222 88 13 + 1) from by omega) (show σ222 88 12 = σ 88 12 from by omega) (show itK lstop (lstep (fM σ)) (500 - (0 : Int)).toNat (aM σ222, (0 : Int)) = lns (fM σ) from (by (have cb := q223_3); rw [fz, a0] at cb; exact lns_0 cb rfl)) (show σ222 90 0 = σ 90 0 from by omega) (show σ222 90 1 = σ 90 1 from by omega) (show σ222 89 93 = σ 89 93 from by omega) (show σ222 89 94 = σ 89 94 from by omega) (show σ222 89 95 = σ 89 95 from by omega) (show σ222 89 96 = σ 89 96 from by omega) (Nat.lt_succ_self _)
