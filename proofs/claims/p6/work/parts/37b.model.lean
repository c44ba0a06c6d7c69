/-! 37b.model -/
theorem dX12_text_0 : decode cX12_text 0 = .ok (.iconst 0, 1) := by decide +kernel
theorem dX12_text_1 : decode cX12_text 1 = .ok (.istore_n 1, 1) := by decide +kernel
theorem dX12_text_2 : decode cX12_text 2 = .ok (.aload_n 0, 1) := by decide +kernel
theorem dX12_text_3 : decode cX12_text 3 = .ok (.iconst 0, 1) := by decide +kernel
theorem dX12_text_4 : decode cX12_text 4 = .ok (.putfield 91, 3) := by decide +kernel
theorem dX12_text_7 : decode cX12_text 7 = .ok (.aload_n 0, 1) := by decide +kernel
theorem dX12_text_8 : decode cX12_text 8 = .ok (.iconst 0, 1) := by decide +kernel
theorem dX12_text_9 : decode cX12_text 9 = .ok (.putfield 100, 3) := by decide +kernel
theorem dX12_text_12 : decode cX12_text 12 = .ok (.aload_n 0, 1) := by decide +kernel
theorem dX12_text_13 : decode cX12_text 13 = .ok (.invokevirtual 65, 3) := by decide +kernel
theorem dX12_text_16 : decode cX12_text 16 = .ok (.aload_n 0, 1) := by decide +kernel
theorem dX12_text_17 : decode cX12_text 17 = .ok (.invokevirtual 137, 3) := by decide +kernel
theorem dX12_text_20 : decode cX12_text 20 = .ok (.aload_n 0, 1) := by decide +kernel
theorem dX12_text_21 : decode cX12_text 21 = .ok (.getfield 91, 3) := by decide +kernel
theorem dX12_text_24 : decode cX12_text 24 = .ok (.ifCond .ne 20, 3) := by decide +kernel
theorem dX12_text_27 : decode cX12_text 27 = .ok (.aload_n 0, 1) := by decide +kernel
theorem dX12_text_28 : decode cX12_text 28 = .ok (.getfield 115, 3) := by decide +kernel
theorem dX12_text_31 : decode cX12_text 31 = .ok (.ifCond .eq 13, 3) := by decide +kernel
theorem dX12_text_34 : decode cX12_text 34 = .ok (.aload_n 0, 1) := by decide +kernel
theorem dX12_text_35 : decode cX12_text 35 = .ok (.invokevirtual 161, 3) := by decide +kernel
theorem dX12_text_38 : decode cX12_text 38 = .ok (.iinc 1 1, 3) := by decide +kernel
theorem dX12_text_41 : decode cX12_text 41 = .ok (.goto (-21), 3) := by decide +kernel
theorem dX12_text_44 : decode cX12_text 44 = .ok (.aload_n 0, 1) := by decide +kernel
theorem dX12_text_45 : decode cX12_text 45 = .ok (.aload_n 0, 1) := by decide +kernel
theorem dX12_text_46 : decode cX12_text 46 = .ok (.getfield 75, 3) := by decide +kernel
theorem dX12_text_49 : decode cX12_text 49 = .ok (.aload_n 0, 1) := by decide +kernel
theorem dX12_text_50 : decode cX12_text 50 = .ok (.getfield 23, 3) := by decide +kernel
theorem dX12_text_53 : decode cX12_text 53 = .ok (.iconst 0, 1) := by decide +kernel
theorem dX12_text_54 : decode cX12_text 54 = .ok (.iaload, 1) := by decide +kernel
theorem dX12_text_55 : decode cX12_text 55 = .ok (.if_icmp .gt 7, 3) := by decide +kernel
theorem dX12_text_58 : decode cX12_text 58 = .ok (.iconst 1, 1) := by decide +kernel
theorem dX12_text_59 : decode cX12_text 59 = .ok (.goto 4, 3) := by decide +kernel
theorem dX12_text_62 : decode cX12_text 62 = .ok (.iconst 0, 1) := by decide +kernel
theorem dX12_text_63 : decode cX12_text 63 = .ok (.iconst 5, 1) := by decide +kernel
theorem dX12_text_64 : decode cX12_text 64 = .ok (.invokevirtual 129, 3) := by decide +kernel
theorem dX12_text_67 : decode cX12_text 67 = .ok (.aload_n 0, 1) := by decide +kernel
theorem dX12_text_68 : decode cX12_text 68 = .ok (.iconst 0, 1) := by decide +kernel
theorem dX12_text_69 : decode cX12_text 69 = .ok (.putfield 86, 3) := by decide +kernel
theorem dX12_text_72 : decode cX12_text 72 = .ok (.aload_n 0, 1) := by decide +kernel
theorem dX12_text_73 : decode cX12_text 73 = .ok (.getfield 91, 3) := by decide +kernel
theorem dX12_text_76 : decode cX12_text 76 = .ok (.ifCond .le 11, 3) := by decide +kernel
theorem dX12_text_79 : decode cX12_text 79 = .ok (.bipush (-10), 2) := by decide +kernel
theorem dX12_text_81 : decode cX12_text 81 = .ok (.aload_n 0, 1) := by decide +kernel
theorem dX12_text_82 : decode cX12_text 82 = .ok (.getfield 97, 3) := by decide +kernel
theorem dX12_text_85 : decode cX12_text 85 = .ok (.isub, 1) := by decide +kernel
theorem dX12_text_86 : decode cX12_text 86 = .ok (.ireturn, 1) := by decide +kernel
theorem dX12_text_87 : decode cX12_text 87 = .ok (.aload_n 0, 1) := by decide +kernel
theorem dX12_text_88 : decode cX12_text 88 = .ok (.invokevirtual 68, 3) := by decide +kernel
theorem dX12_text_91 : decode cX12_text 91 = .ok (.iload_n 1, 1) := by decide +kernel
theorem dX12_text_92 : decode cX12_text 92 = .ok (.ireturn, 1) := by decide +kernel
abbrev q_X12_text  (σ : tw_M) : Option tw_V → tw_M → Prop := fun z τ => ∃ r : Int, z = some (vI r) ∧ (-2147483648 ≤ r ∧ r ≤ 2147483647) ∧ tw_I τ ∧ tw_F (fun c j => (c = 88 ∧ (j = 9 ∨ j = 10 ∨ j = 12 ∨ j = 13 ∨ j = 14 ∨ j = 15 ∨ j = 16 ∨ j = 17 ∨ j = 18)) ∨ (c = 89 ∧ j < 100) ∨ (90 ≤ c ∧ c < 98)) σ τ ∧ (mI τ) ∧ (τ 88 12 = 0) ∧ (r = txt (parse (fM σ))) ∧ (τ 88 17 = (parse (fM σ)).1 4) ∧ ((τ 88 17 = 0 ∧ τ 90 0 = 0 ∧ τ 90 1 = 0) ∨ (¬ τ 88 17 = 0 ∧ τ 90 0 = σ 90 0 ∧ τ 90 1 = σ 90 1)) ∧ ((τ 88 17 = 0 ∧ τ 89 93 = 0) ∨ (¬ τ 88 17 = 0 ∧ τ 89 93 = σ 89 93)) ∧ ((τ 88 17 = 0 ∧ τ 89 94 = 0) ∨ (¬ τ 88 17 = 0 ∧ τ 89 94 = σ 89 94)) ∧ ((τ 88 17 = 0 ∧ τ 89 95 = 0) ∨ (¬ τ 88 17 = 0 ∧ τ 89 95 = σ 89 95)) ∧ ((τ 88 17 = 0 ∧ τ 89 96 = 0) ∨ (¬ τ 88 17 = 0 ∧ τ 89 96 = σ 89 96)) ∧ ((τ 88 17 = 0 ∧ wM τ = pwB (parse (fM σ)).1 ∧ (∀ j : Nat, j < 11 → τ 89 (82 + j) = (parse (fM σ)).1 (200 + j)) ∧ (∀ j : Nat, j < 82 → τ 89 j = 0) ∧ τ 91 5 = (parse (fM σ)).1 105 ∧ τ 91 6 = (parse (fM σ)).1 106) ∨ (¬ τ 88 17 = 0 ∧ ∀ c j : Nat, 89 ≤ c → c < 93 → τ c j = σ c j))
set_option maxHeartbeats 4000000 in
set_option maxRecDepth 100000 in
theorem l_X12_text {G : tw_G} (hM : tw_isM G) (σ : tw_M) (hI : tw_I σ) (hq0 : mI σ) (hq1 : FB (fM σ)) : ∀ N_ : Nat, (∀ (m : Int) (hm : 0 ≤ m ∧ m ≤ 401) (τ : tw_M) (hIτ : tw_I τ) (hFτ : tw_F (fun c j => (c = 88 ∧ (j = 9 ∨ j = 10 ∨ j = 12 ∨ j = 13 ∨ j = 14 ∨ j = 15 ∨ j = 16 ∨ j = 17 ∨ j = 18)) ∨ (c = 89 ∧ j < 100) ∨ (90 ≤ c ∧ c < 98)) σ τ) (i0 : DQ τ) (i1 : mI τ) (i2 : m ≤ τ 88 13 ∨ ((¬ τ 88 17 = 0 ∨ τ 88 15 = 0) ∧ m ≤ τ 88 13 + 1)) (i3 : τ 88 12 = σ 88 12) (i4 : itK lstop (lstep (fM σ)) (500 - m).toNat (aM τ, m) = lns (fM σ)) (i5 : τ 90 0 = σ 90 0) (i6 : τ 90 1 = σ 90 1) (i7 : τ 89 93 = σ 89 93) (i8 : τ 89 94 = σ 89 94) (i9 : τ 89 95 = σ 89 95) (i10 : τ 89 96 = σ 89 96) (i11 : ∀ c j : Nat, 89 ≤ c → c < 93 → τ c j = σ c j) (hm : (mTx (τ 88 17) (τ 88 15) (τ 88 13)).toNat < N_), tw_J G (tw_mt RX12 cX12_text 2 (some .int) 5) (tw_E G (q_X12_text σ)) 20 [(0, vR 88), (1, vI m)] [] τ) := by
  intro N_
  induction N_ with
  | zero => exact fun m hm τ hIτ hFτ i0 i1 i2 i3 i4 i5 i6 i7 i8 i9 i10 i11 hm => absurd hm (Nat.not_lt_zero _)
  | succ N_ ih =>
    intro m hm τ hIτ hFτ i0 i1 i2 i3 i4 i5 i6 i7 i8 i9 i10 i11 hm
    have m9 := i1.2.2.2.2
    have fx : fM τ = fM σ := fM_F i3 (fun j => hFτ 98 j (show ¬ ((98 = 88 ∧ (j = 9 ∨ j = 10 ∨ j = 12 ∨ j = 13 ∨ j = 14 ∨ j = 15 ∨ j = 16 ∨ j = 17 ∨ j = 18)) ∨ (98 = 89 ∧ j < 100) ∨ (90 ≤ 98 ∧ 98 < 98)) from by omega))
    refine j_aload_n (pc := 20) dX12_text_20 rfl rfl ?_
    refine j_getI (pc := 21) fl_X12_91 dX12_text_21 (a_88 hM) rfl ?_
    have f1 : (0 : Int) ≤ τ 88 17 ∧ τ 88 17 ≤ 5 := hIτ 88 17
    refine j_ifR_ne (pc := 24) (tgt := 44) ⟨by omega, by omega⟩ dX12_text_24 rfl (fun h2 => ?_) (fun h2 => ?_)
    · refine j_aload_n (pc := 44) dX12_text_44 rfl rfl ?_
      refine j_aload_n (pc := 45) dX12_text_45 rfl rfl ?_
      refine j_getI (pc := 46) fl_X12_75 dX12_text_46 (a_88 hM) rfl ?_
      have f3 : (0 : Int) ≤ τ 88 10 ∧ τ 88 10 ≤ 40 := hIτ 88 10
      refine j_aload_n (pc := 49) dX12_text_49 rfl rfl ?_
      refine j_getR (pc := 50) (r := 93) fl_X12_23 dX12_text_50 (a_88 hM) rfl ?_
      refine j_iconst (pc := 53) dX12_text_53 ?_
      refine j_iald (pc := 54) dX12_text_54 (a_93 hM) (by omega) (by omega) (by decide) ?_
      refine j_topV (show τ 93 (Int.toNat 0) = τ 93 0 from rfl) ?_
      have f4 : (-2147483648 : Int) ≤ τ 93 0 ∧ τ 93 0 ≤ 2147483647 := hIτ 93 0
      refine j_icmpR_gt (pc := 55) (tgt := 62) ⟨by omega, by omega⟩ ⟨by omega, by omega⟩ dX12_text_55 rfl (fun h5 => ?_) (fun h5 => ?_)
      · refine j_iconst (pc := 62) dX12_text_62 ?_
        refine j_iconst (pc := 63) dX12_text_63 ?_
        refine j_callV (pc := 64) (As := [vI 0, vI 5]) (st := []) (c_X12_needs hM 0 ⟨by omega, by omega⟩ 5 ⟨by omega, by omega⟩ τ hIτ) mv_X12_129 rfl rfl rfl (a_88 hM) dX12_text_64 ⟨Nat.le_of_ble_eq_true rfl, Nat.le_of_ble_eq_true rfl⟩ ⟨Nat.le_refl _, Nat.le_refl _⟩ rfl (Nat.le_of_ble_eq_true rfl) rfl (fun z6 σ7 hz6 => ?_)
        obtain ⟨rfl, hIσ7, hGσ7, q8_0, q8_1, q8_2⟩ := hz6
        replace q8_0 : (¬ (0 : Int) = 0 ∧ σ7 88 17 = τ 88 17) ∨ ((0 : Int) = 0 ∧ τ 88 17 = 0 ∧ σ7 88 17 = (5 : Int)) ∨ ((0 : Int) = 0 ∧ ¬ τ 88 17 = 0 ∧ σ7 88 17 = τ 88 17) := q8_0
        replace q8_1 : (¬ (0 : Int) = 0 ∧ σ7 88 17 = τ 88 17 ∧ σ7 88 18 = τ 88 18) ∨ ((0 : Int) = 0 ∧ τ 88 17 = 0 ∧ σ7 88 17 = (5 : Int) ∧ σ7 88 18 = τ 88 14) ∨ ((0 : Int) = 0 ∧ ¬ τ 88 17 = 0 ∧ σ7 88 17 = τ 88 17 ∧ σ7 88 18 = τ 88 18) := q8_1
        replace q8_2 : aM σ7 = need (decide (¬ (0 : Int) = 0)) (5 : Int) (aM τ) := q8_2
        have hFσ7 : tw_F (fun c j => (c = 88 ∧ (j = 9 ∨ j = 10 ∨ j = 12 ∨ j = 13 ∨ j = 14 ∨ j = 15 ∨ j = 16 ∨ j = 17 ∨ j = 18)) ∨ (c = 89 ∧ j < 100) ∨ (90 ≤ c ∧ c < 98)) σ σ7 := tw_F_tr hFτ hGσ7 (fun c j q => (show (c = 88 ∧ (j = 9 ∨ j = 10 ∨ j = 12 ∨ j = 13 ∨ j = 14 ∨ j = 15 ∨ j = 16 ∨ j = 17 ∨ j = 18)) ∨ (c = 89 ∧ j < 100) ∨ (90 ≤ c ∧ c < 98) from by replace q : (c = 88 ∧ (j = 17 ∨ j = 18)) := q; omega))
        refine j_st (st' := []) rfl ?_
        have pm := parse_M i4 (by omega) ((q8_2).trans (need_cg (g' := decide (τ 88 10 ≤ τ 93 0)) (fun _ => by first | exact (decide_eq_true (by omega)).trans (decide_eq_true (by omega)).symm | exact (decide_eq_false (by omega)).trans (decide_eq_false (by omega)).symm)))
        refine j_aload_n (pc := 67) dX12_text_67 rfl rfl ?_
        refine j_iconst (pc := 68) dX12_text_68 ?_
        refine j_putI (pc := 69) fl_X12_86 fp_X12_12 dX12_text_69 (a_88 hM) rfl (j_nm (fun σ10 (eσ10 : σ10 = tw_up σ7 88 12 0) => ?_))
        have hIσ10 : tw_I σ10 := tw_I_up hIσ7 eσ10 (show (0 : Int) ≤ 0 ∧ 0 ≤ 400 from ⟨by omega, by omega⟩)
        have hFσ10 : tw_F (fun c j => (c = 88 ∧ (j = 9 ∨ j = 10 ∨ j = 12 ∨ j = 13 ∨ j = 14 ∨ j = 15 ∨ j = 16 ∨ j = 17 ∨ j = 18)) ∨ (c = 89 ∧ j < 100) ∨ (90 ≤ c ∧ c < 98)) σ σ10 := tw_F_up hFσ7 eσ10 (show (88 = 88 ∧ (12 = 9 ∨ 12 = 10 ∨ 12 = 12 ∨ 12 = 13 ∨ 12 = 14 ∨ 12 = 15 ∨ 12 = 16 ∨ 12 = 17 ∨ 12 = 18)) ∨ (88 = 89 ∧ 12 < 100) ∨ (90 ≤ 88 ∧ 88 < 98) from by omega)
        refine j_aload_n (pc := 72) dX12_text_72 rfl rfl ?_
        refine j_getI (pc := 73) fl_X12_91 dX12_text_73 (a_88 hM) rfl ?_
        refine j_topV (show σ10 88 17 = σ7 88 17 from (tw_ne1 eσ10 (by omega))) ?_
        have f11 : (0 : Int) ≤ σ7 88 17 ∧ σ7 88 17 ≤ 5 := hIσ7 88 17
        refine j_ifR_le (pc := 76) (tgt := 87) ⟨by omega, by omega⟩ dX12_text_76 rfl (fun h12 => ?_) (fun h12 => ?_)
        · have z9 : σ10 88 17 = 0 := ((tw_ne1 eσ10 (by omega))).trans (by omega)
          have dB : drM σ10 = drM σ7 := drM_F (tw_ne1 eσ10 (by decide)) (tw_ne1 eσ10 (by decide)) (fun c j h => tw_ne1 eσ10 (by omega))
          have f17 : σ7 88 17 = 0 := by omega
          have pw := pwB_M pm f17
          refine j_aload_n (pc := 87) dX12_text_87 rfl rfl ?_
          have y13 : σ10 89 193 = τ 89 193 := ((tw_ne1 eσ10 (by omega))).trans (hGσ7 89 193 (show ¬ ((89 = 88 ∧ (193 = 17 ∨ 193 = 18))) from by omega))
          have f14 : (0 : Int) ≤ τ 89 193 ∧ τ 89 193 ≤ 999 := hIτ 89 193
          have y15 : σ10 89 195 = τ 89 195 := ((tw_ne1 eσ10 (by omega))).trans (hGσ7 89 195 (show ¬ ((89 = 88 ∧ (195 = 17 ∨ 195 = 18))) from by omega))
          have f16 : (0 : Int) ≤ τ 89 195 ∧ τ 89 195 ≤ 999 := hIτ 89 195
          have y17 : σ10 89 293 = τ 89 293 := ((tw_ne1 eσ10 (by omega))).trans (hGσ7 89 293 (show ¬ ((89 = 88 ∧ (293 = 17 ∨ 293 = 18))) from by omega))
          have f18 : (0 : Int) ≤ τ 89 293 ∧ τ 89 293 ≤ 999 := hIτ 89 293
          have y19 : σ10 89 295 = τ 89 295 := ((tw_ne1 eσ10 (by omega))).trans (hGσ7 89 295 (show ¬ ((89 = 88 ∧ (295 = 17 ∨ 295 = 18))) from by omega))
          have f20 : (0 : Int) ≤ τ 89 295 ∧ τ 89 295 ≤ 999 := hIτ 89 295
          refine j_callV (pc := 88) (As := []) (st := []) (c_X12_keepDraft hM σ10 hIσ10 (DQ_dr (DQ_F i0 (fun j => ((tw_ne1 eσ10 (by omega))).trans (hGσ7 93 j (show ¬ ((93 = 88 ∧ (j = 17 ∨ j = 18))) from by omega))) (fun j => ((tw_ne1 eσ10 (by omega))).trans (hGσ7 94 j (show ¬ ((94 = 88 ∧ (j = 17 ∨ j = 18))) from by omega))) (by omega)) (by omega)) (by omega) (by omega)) mv_X12_68 rfl rfl rfl (a_88 hM) dX12_text_88 ⟨Nat.le_of_ble_eq_true rfl, Nat.le_of_ble_eq_true rfl⟩ ⟨Nat.le_refl _, Nat.le_refl _⟩ rfl (Nat.le_of_ble_eq_true rfl) rfl (fun z21 σ22 hz21 => ?_)
          obtain ⟨rfl, hIσ22, hGσ22, q23_0, q23_1, q23_2, q23_3, q23_4, q23_5, q23_6, q23_7, q23_8, q23_9, q23_10, q23_11⟩ := hz21
          replace q23_0 : mI σ22 := q23_0
          replace q23_1 : σ22 90 0 = 0 := q23_1
          replace q23_2 : σ22 90 1 = 0 := q23_2
          replace q23_3 : σ22 89 93 = 0 := q23_3
          replace q23_4 : σ22 89 94 = 0 := q23_4
          replace q23_5 : σ22 89 95 = 0 := q23_5
          replace q23_6 : σ22 89 96 = 0 := q23_6
          replace q23_7 : wM σ22 = pwB (drM σ10) := q23_7
          replace q23_8 : ∀ j : Nat, j < 11 → σ22 89 (82 + j) = σ10 95 j := q23_8
          replace q23_9 : ∀ j : Nat, j < 82 → σ22 89 j = 0 := q23_9
          replace q23_10 : σ22 91 5 = σ10 93 5 := q23_10
          have y25 : σ10 93 5 = τ 93 5 := ((tw_ne1 eσ10 (by omega))).trans (hGσ7 93 5 (show ¬ ((93 = 88 ∧ (5 = 17 ∨ 5 = 18))) from by omega))
          have f26 : (-2147483648 : Int) ≤ τ 93 5 ∧ τ 93 5 ≤ 2147483647 := hIτ 93 5
          replace q23_11 : σ22 91 6 = σ10 93 6 := q23_11
          have y27 : σ10 93 6 = τ 93 6 := ((tw_ne1 eσ10 (by omega))).trans (hGσ7 93 6 (show ¬ ((93 = 88 ∧ (6 = 17 ∨ 6 = 18))) from by omega))
          have f28 : (-2147483648 : Int) ≤ τ 93 6 ∧ τ 93 6 ≤ 2147483647 := hIτ 93 6
          have hFσ22 : tw_F (fun c j => (c = 88 ∧ (j = 9 ∨ j = 10 ∨ j = 12 ∨ j = 13 ∨ j = 14 ∨ j = 15 ∨ j = 16 ∨ j = 17 ∨ j = 18)) ∨ (c = 89 ∧ j < 100) ∨ (90 ≤ c ∧ c < 98)) σ σ22 := tw_F_tr hFσ10 hGσ22 (fun c j q => (show (c = 88 ∧ (j = 9 ∨ j = 10 ∨ j = 12 ∨ j = 13 ∨ j = 14 ∨ j = 15 ∨ j = 16 ∨ j = 17 ∨ j = 18)) ∨ (c = 89 ∧ j < 100) ∨ (90 ≤ c ∧ c < 98) from by replace q : (c = 89 ∧ j < 100) ∨ (90 ≤ c ∧ c < 93) := q; omega))
          refine j_st (st' := []) rfl ?_
          have kd0 := q23_7
          have kd1 := q23_8
          have kd2 := q23_9
          have kd3 := q23_10
          have kd4 := q23_11
          refine j_iload_n (pc := 91) dX12_text_91 rfl rfl ?_
          have fin : (σ22 88 17 = 0 ∧ wM σ22 = pwB (parse (fM σ)).1 ∧ (∀ j : Nat, j < 11 → σ22 89 (82 + j) = (parse (fM σ)).1 (200 + j)) ∧ (∀ j : Nat, j < 82 → σ22 89 j = 0) ∧ σ22 91 5 = (parse (fM σ)).1 105 ∧ σ22 91 6 = (parse (fM σ)).1 106) ∨ (¬ σ22 88 17 = 0 ∧ ∀ c j : Nat, 89 ≤ c → c < 93 → σ22 c j = σ c j) := by
            refine Or.inl ⟨by omega, by rw [← pw.1, ← dB]; exact kd0, fun j hj => ?_, kd2, ?_, ?_⟩
            · rw [kd1 j hj, ← pw.2 (200 + j) (by omega), ← dB, drM_k hj]
            · rw [kd3, ← pw.2 105 (by omega), ← dB, show (105 : Nat) = 100 + 5 from rfl, drM_r (by omega)]
            · rw [kd4, ← pw.2 106 (by omega), ← dB, show (106 : Nat) = 100 + 6 from rfl, drM_r (by omega)]
          have y29 : σ22 88 12 = 0 := ((hGσ22 88 12 (show ¬ ((88 = 89 ∧ 12 < 100) ∨ (90 ≤ 88 ∧ 88 < 93)) from by omega))).trans (tw_eq1 eσ10)
          have y30 : σ22 88 17 = σ7 88 17 := ((hGσ22 88 17 (show ¬ ((88 = 89 ∧ 17 < 100) ∨ (90 ≤ 88 ∧ 88 < 93)) from by omega))).trans (tw_ne1 eσ10 (by omega))
          have y31 : σ22 88 17 = σ7 88 17 := ((hGσ22 88 17 (show ¬ ((88 = 89 ∧ 17 < 100) ∨ (90 ≤ 88 ∧ 88 < 93)) from by omega))).trans (tw_ne1 eσ10 (by omega))
          have y32 : σ22 88 17 = σ7 88 17 := ((hGσ22 88 17 (show ¬ ((88 = 89 ∧ 17 < 100) ∨ (90 ≤ 88 ∧ 88 < 93)) from by omega))).trans (tw_ne1 eσ10 (by omega))
          have y33 : σ22 88 17 = σ7 88 17 := ((hGσ22 88 17 (show ¬ ((88 = 89 ∧ 17 < 100) ∨ (90 ≤ 88 ∧ 88 < 93)) from by omega))).trans (tw_ne1 eσ10 (by omega))
          have y34 : σ22 88 17 = σ7 88 17 := ((hGσ22 88 17 (show ¬ ((88 = 89 ∧ 17 < 100) ∨ (90 ≤ 88 ∧ 88 < 93)) from by omega))).trans (tw_ne1 eσ10 (by omega))
          have y35 : σ22 88 17 = σ7 88 17 := ((hGσ22 88 17 (show ¬ ((88 = 89 ∧ 17 < 100) ∨ (90 ≤ 88 ∧ 88 < 93)) from by omega))).trans (tw_ne1 eσ10 (by omega))
          have y36 : σ22 88 17 = σ7 88 17 := ((hGσ22 88 17 (show ¬ ((88 = 89 ∧ 17 < 100) ∨ (90 ≤ 88 ∧ 88 < 93)) from by omega))).trans (tw_ne1 eσ10 (by omega))
          exact j_iret (pc := 92) ⟨rfl, rfl⟩ dX12_text_92 rfl ⟨_, rfl, ⟨by omega, by omega⟩, hIσ22, hFσ22, (by first | exact q23_0 | exact mI_kept i1 (fun j hj => rfl) (fun j => rfl) (rfl) hIτ), by omega, (by rw [← pm]; first | exact (mtxt_f (by omega)).symm | exact (mtxt_t (by omega)).symm | (rw [mtxt_f (by omega)]; omega) | (rw [mtxt_t (by omega)]; omega)), (by rw [← pm]; show _ = (aM _) 4; rw [aM_4]; omega), by omega, by omega, by omega, by omega, by omega, fin⟩
        · refine j_bipush (pc := 79) dX12_text_79 rfl ?_
          refine j_aload_n (pc := 81) dX12_text_81 rfl rfl ?_
          refine j_getI (pc := 82) fl_X12_97 dX12_text_82 (a_88 hM) rfl ?_
          refine j_topV (show σ10 88 18 = σ7 88 18 from (tw_ne1 eσ10 (by omega))) ?_
          have f37 : (0 : Int) ≤ σ7 88 18 ∧ σ7 88 18 ≤ 400 := hIσ7 88 18
          refine j_isub (pc := 85) dX12_text_85 ?_
          have fin : (σ10 88 17 = 0 ∧ wM σ10 = pwB (parse (fM σ)).1 ∧ (∀ j : Nat, j < 11 → σ10 89 (82 + j) = (parse (fM σ)).1 (200 + j)) ∧ (∀ j : Nat, j < 82 → σ10 89 j = 0) ∧ σ10 91 5 = (parse (fM σ)).1 105 ∧ σ10 91 6 = (parse (fM σ)).1 106) ∨ (¬ σ10 88 17 = 0 ∧ ∀ c j : Nat, 89 ≤ c → c < 93 → σ10 c j = σ c j) := Or.inr ⟨by omega, fun c j a b => (tw_ne1 eσ10 (by omega)).trans ((hGσ7 c j (show ¬ ((c = 88 ∧ (j = 17 ∨ j = 18))) from by omega)).trans (i11 c j a b))⟩
          have y38 : σ10 88 12 = 0 := (tw_eq1 eσ10)
          have y39 : σ10 88 17 = σ7 88 17 := (tw_ne1 eσ10 (by omega))
          have y40 : σ10 88 17 = σ7 88 17 := (tw_ne1 eσ10 (by omega))
          have y41 : σ10 90 0 = τ 90 0 := ((tw_ne1 eσ10 (by omega))).trans (hGσ7 90 0 (show ¬ ((90 = 88 ∧ (0 = 17 ∨ 0 = 18))) from by omega))
          have f42 : (0 : Int) ≤ τ 90 0 ∧ τ 90 0 ≤ 1 := hIτ 90 0
          have y43 : σ10 90 1 = τ 90 1 := ((tw_ne1 eσ10 (by omega))).trans (hGσ7 90 1 (show ¬ ((90 = 88 ∧ (1 = 17 ∨ 1 = 18))) from by omega))
          have f44 : (0 : Int) ≤ τ 90 1 ∧ τ 90 1 ≤ 1 := hIτ 90 1
          have y45 : σ10 88 17 = σ7 88 17 := (tw_ne1 eσ10 (by omega))
          have y46 : σ10 89 93 = τ 89 93 := ((tw_ne1 eσ10 (by omega))).trans (hGσ7 89 93 (show ¬ ((89 = 88 ∧ (93 = 17 ∨ 93 = 18))) from by omega))
          have f47 : (0 : Int) ≤ τ 89 93 ∧ τ 89 93 ≤ 999 := hIτ 89 93
          have y48 : σ10 88 17 = σ7 88 17 := (tw_ne1 eσ10 (by omega))
          have y49 : σ10 89 94 = τ 89 94 := ((tw_ne1 eσ10 (by omega))).trans (hGσ7 89 94 (show ¬ ((89 = 88 ∧ (94 = 17 ∨ 94 = 18))) from by omega))
          have f50 : (-2147483648 : Int) ≤ τ 89 94 ∧ τ 89 94 ≤ 2147483647 := hIτ 89 94
          have y51 : σ10 88 17 = σ7 88 17 := (tw_ne1 eσ10 (by omega))
          have y52 : σ10 89 95 = τ 89 95 := ((tw_ne1 eσ10 (by omega))).trans (hGσ7 89 95 (show ¬ ((89 = 88 ∧ (95 = 17 ∨ 95 = 18))) from by omega))
          have f53 : (0 : Int) ≤ τ 89 95 ∧ τ 89 95 ≤ 999 := hIτ 89 95
          have y54 : σ10 88 17 = σ7 88 17 := (tw_ne1 eσ10 (by omega))
          have y55 : σ10 89 96 = τ 89 96 := ((tw_ne1 eσ10 (by omega))).trans (hGσ7 89 96 (show ¬ ((89 = 88 ∧ (96 = 17 ∨ 96 = 18))) from by omega))
          have f56 : (-2147483648 : Int) ≤ τ 89 96 ∧ τ 89 96 ≤ 2147483647 := hIτ 89 96
          have y57 : σ10 88 17 = σ7 88 17 := (tw_ne1 eσ10 (by omega))
          have y58 : σ10 89 ((82 + j)) = τ 89 ((82 + j)) := ((tw_ne1 eσ10 (by omega))).trans (hGσ7 89 ((82 + j)) (show ¬ ((89 = 88 ∧ ((82 + j) = 17 ∨ (82 + j) = 18))) from by omega))
          have y59 : σ10 91 5 = τ 91 5 := ((tw_ne1 eσ10 (by omega))).trans (hGσ7 91 5 (show ¬ ((91 = 88 ∧ (5 = 17 ∨ 5 = 18))) from by omega))
          have f60 : (-2147483648 : Int) ≤ τ 91 5 ∧ τ 91 5 ≤ 2147483647 := hIτ 91 5
          have y61 : σ10 91 6 = τ 91 6 := ((tw_ne1 eσ10 (by omega))).trans (hGσ7 91 6 (show ¬ ((91 = 88 ∧ (6 = 17 ∨ 6 = 18))) from by omega))
          have f62 : (-2147483648 : Int) ≤ τ 91 6 ∧ τ 91 6 ≤ 2147483647 := hIτ 91 6
          exact j_iret (pc := 86) ⟨rfl, rfl⟩ dX12_text_86 rfl ⟨_, rfl, ⟨by omega, by omega⟩, hIσ10, hFσ10, (by first | exact q8_0 | exact mI_kept i1 (fun j hj => ((tw_ne1 eσ10 (by omega))).trans (hGσ7 89 j (show ¬ ((89 = 88 ∧ (j = 17 ∨ j = 18))) from by omega))) (fun j => ((tw_ne1 eσ10 (by omega))).trans (hGσ7 90 j (show ¬ ((90 = 88 ∧ (j = 17 ∨ j = 18))) from by omega))) (((tw_ne1 eσ10 (by omega))).trans (hGσ7 91 0 (show ¬ ((91 = 88 ∧ (0 = 17 ∨ 0 = 18))) from by omega))) hIτ), by omega, (by rw [← pm]; first | exact (mtxt_f (by omega)).symm | exact (mtxt_t (by omega)).symm | (rw [mtxt_f (by omega)]; omega) | (rw [mtxt_t (by omega)]; omega)), (by rw [← pm]; show _ = (aM _) 4; rw [aM_4]; omega), by omega, by omega, by omega, by omega, by omega, fin⟩
      · refine j_iconst (pc := 58) dX12_text_58 ?_
        refine j_goto (pc := 59) (tgt := 63) dX12_text_59 rfl ?_
        refine j_iconst (pc := 63) dX12_text_63 ?_
        refine j_callV (pc := 64) (As := [vI 1, vI 5]) (st := []) (c_X12_needs hM 1 ⟨by omega, by omega⟩ 5 ⟨by omega, by omega⟩ τ hIτ) mv_X12_129 rfl rfl rfl (a_88 hM) dX12_text_64 ⟨Nat.le_of_ble_eq_true rfl, Nat.le_of_ble_eq_true rfl⟩ ⟨Nat.le_refl _, Nat.le_refl _⟩ rfl (Nat.le_of_ble_eq_true rfl) rfl (fun z63 σ64 hz63 => ?_)
        obtain ⟨rfl, hIσ64, hGσ64, q65_0, q65_1, q65_2⟩ := hz63
        replace q65_0 : (¬ (1 : Int) = 0 ∧ σ64 88 17 = τ 88 17) ∨ ((1 : Int) = 0 ∧ τ 88 17 = 0 ∧ σ64 88 17 = (5 : Int)) ∨ ((1 : Int) = 0 ∧ ¬ τ 88 17 = 0 ∧ σ64 88 17 = τ 88 17) := q65_0
        replace q65_1 : (¬ (1 : Int) = 0 ∧ σ64 88 17 = τ 88 17 ∧ σ64 88 18 = τ 88 18) ∨ ((1 : Int) = 0 ∧ τ 88 17 = 0 ∧ σ64 88 17 = (5 : Int) ∧ σ64 88 18 = τ 88 14) ∨ ((1 : Int) = 0 ∧ ¬ τ 88 17 = 0 ∧ σ64 88 17 = τ 88 17 ∧ σ64 88 18 = τ 88 18) := q65_1
        replace q65_2 : aM σ64 = need (decide (¬ (1 : Int) = 0)) (5 : Int) (aM τ) := q65_2
        have hFσ64 : tw_F (fun c j => (c = 88 ∧ (j = 9 ∨ j = 10 ∨ j = 12 ∨ j = 13 ∨ j = 14 ∨ j = 15 ∨ j = 16 ∨ j = 17 ∨ j = 18)) ∨ (c = 89 ∧ j < 100) ∨ (90 ≤ c ∧ c < 98)) σ σ64 := tw_F_tr hFτ hGσ64 (fun c j q => (show (c = 88 ∧ (j = 9 ∨ j = 10 ∨ j = 12 ∨ j = 13 ∨ j = 14 ∨ j = 15 ∨ j = 16 ∨ j = 17 ∨ j = 18)) ∨ (c = 89 ∧ j < 100) ∨ (90 ≤ c ∧ c < 98) from by replace q : (c = 88 ∧ (j = 17 ∨ j = 18)) := q; omega))
        refine j_st (st' := []) rfl ?_
        have pm := parse_M i4 (by omega) ((q65_2).trans (need_cg (g' := decide (τ 88 10 ≤ τ 93 0)) (fun _ => by first | exact (decide_eq_true (by omega)).trans (decide_eq_true (by omega)).symm | exact (decide_eq_false (by omega)).trans (decide_eq_false (by omega)).symm)))
        refine j_aload_n (pc := 67) dX12_text_67 rfl rfl ?_
        refine j_iconst (pc := 68) dX12_text_68 ?_
        refine j_putI (pc := 69) fl_X12_86 fp_X12_12 dX12_text_69 (a_88 hM) rfl (j_nm (fun σ67 (eσ67 : σ67 = tw_up σ64 88 12 0) => ?_))
        have hIσ67 : tw_I σ67 := tw_I_up hIσ64 eσ67 (show (0 : Int) ≤ 0 ∧ 0 ≤ 400 from ⟨by omega, by omega⟩)
        have hFσ67 : tw_F (fun c j => (c = 88 ∧ (j = 9 ∨ j = 10 ∨ j = 12 ∨ j = 13 ∨ j = 14 ∨ j = 15 ∨ j = 16 ∨ j = 17 ∨ j = 18)) ∨ (c = 89 ∧ j < 100) ∨ (90 ≤ c ∧ c < 98)) σ σ67 := tw_F_up hFσ64 eσ67 (show (88 = 88 ∧ (12 = 9 ∨ 12 = 10 ∨ 12 = 12 ∨ 12 = 13 ∨ 12 = 14 ∨ 12 = 15 ∨ 12 = 16 ∨ 12 = 17 ∨ 12 = 18)) ∨ (88 = 89 ∧ 12 < 100) ∨ (90 ≤ 88 ∧ 88 < 98) from by omega)
        refine j_aload_n (pc := 72) dX12_text_72 rfl rfl ?_
        refine j_getI (pc := 73) fl_X12_91 dX12_text_73 (a_88 hM) rfl ?_
        refine j_topV (show σ67 88 17 = σ64 88 17 from (tw_ne1 eσ67 (by omega))) ?_
        have f68 : (0 : Int) ≤ σ64 88 17 ∧ σ64 88 17 ≤ 5 := hIσ64 88 17
        refine j_ifR_le (pc := 76) (tgt := 87) ⟨by omega, by omega⟩ dX12_text_76 rfl (fun h69 => ?_) (fun h69 => ?_)
        · have z9 : σ67 88 17 = 0 := ((tw_ne1 eσ67 (by omega))).trans (by omega)
          have dB : drM σ67 = drM σ64 := drM_F (tw_ne1 eσ67 (by decide)) (tw_ne1 eσ67 (by decide)) (fun c j h => tw_ne1 eσ67 (by omega))
          have f17 : σ64 88 17 = 0 := by omega
          have pw := pwB_M pm f17
          refine j_aload_n (pc := 87) dX12_text_87 rfl rfl ?_
          have y70 : σ67 89 193 = τ 89 193 := ((tw_ne1 eσ67 (by omega))).trans (hGσ64 89 193 (show ¬ ((89 = 88 ∧ (193 = 17 ∨ 193 = 18))) from by omega))
          have f71 : (0 : Int) ≤ τ 89 193 ∧ τ 89 193 ≤ 999 := hIτ 89 193
          have y72 : σ67 89 195 = τ 89 195 := ((tw_ne1 eσ67 (by omega))).trans (hGσ64 89 195 (show ¬ ((89 = 88 ∧ (195 = 17 ∨ 195 = 18))) from by omega))
          have f73 : (0 : Int) ≤ τ 89 195 ∧ τ 89 195 ≤ 999 := hIτ 89 195
          have y74 : σ67 89 293 = τ 89 293 := ((tw_ne1 eσ67 (by omega))).trans (hGσ64 89 293 (show ¬ ((89 = 88 ∧ (293 = 17 ∨ 293 = 18))) from by omega))
          have f75 : (0 : Int) ≤ τ 89 293 ∧ τ 89 293 ≤ 999 := hIτ 89 293
          have y76 : σ67 89 295 = τ 89 295 := ((tw_ne1 eσ67 (by omega))).trans (hGσ64 89 295 (show ¬ ((89 = 88 ∧ (295 = 17 ∨ 295 = 18))) from by omega))
          have f77 : (0 : Int) ≤ τ 89 295 ∧ τ 89 295 ≤ 999 := hIτ 89 295
          refine j_callV (pc := 88) (As := []) (st := []) (c_X12_keepDraft hM σ67 hIσ67 (DQ_dr (DQ_F i0 (fun j => ((tw_ne1 eσ67 (by omega))).trans (hGσ64 93 j (show ¬ ((93 = 88 ∧ (j = 17 ∨ j = 18))) from by omega))) (fun j => ((tw_ne1 eσ67 (by omega))).trans (hGσ64 94 j (show ¬ ((94 = 88 ∧ (j = 17 ∨ j = 18))) from by omega))) (by omega)) (by omega)) (by omega) (by omega)) mv_X12_68 rfl rfl rfl (a_88 hM) dX12_text_88 ⟨Nat.le_of_ble_eq_true rfl, Nat.le_of_ble_eq_true rfl⟩ ⟨Nat.le_refl _, Nat.le_refl _⟩ rfl (Nat.le_of_ble_eq_true rfl) rfl (fun z78 σ79 hz78 => ?_)
          obtain ⟨rfl, hIσ79, hGσ79, q80_0, q80_1, q80_2, q80_3, q80_4, q80_5, q80_6, q80_7, q80_8, q80_9, q80_10, q80_11⟩ := hz78
          replace q80_0 : mI σ79 := q80_0
          replace q80_1 : σ79 90 0 = 0 := q80_1
          replace q80_2 : σ79 90 1 = 0 := q80_2
          replace q80_3 : σ79 89 93 = 0 := q80_3
          replace q80_4 : σ79 89 94 = 0 := q80_4
          replace q80_5 : σ79 89 95 = 0 := q80_5
          replace q80_6 : σ79 89 96 = 0 := q80_6
          replace q80_7 : wM σ79 = pwB (drM σ67) := q80_7
          replace q80_8 : ∀ j : Nat, j < 11 → σ79 89 (82 + j) = σ67 95 j := q80_8
          replace q80_9 : ∀ j : Nat, j < 82 → σ79 89 j = 0 := q80_9
          replace q80_10 : σ79 91 5 = σ67 93 5 := q80_10
          have y82 : σ67 93 5 = τ 93 5 := ((tw_ne1 eσ67 (by omega))).trans (hGσ64 93 5 (show ¬ ((93 = 88 ∧ (5 = 17 ∨ 5 = 18))) from by omega))
          have f83 : (-2147483648 : Int) ≤ τ 93 5 ∧ τ 93 5 ≤ 2147483647 := hIτ 93 5
          replace q80_11 : σ79 91 6 = σ67 93 6 := q80_11
          have y84 : σ67 93 6 = τ 93 6 := ((tw_ne1 eσ67 (by omega))).trans (hGσ64 93 6 (show ¬ ((93 = 88 ∧ (6 = 17 ∨ 6 = 18))) from by omega))
          have f85 : (-2147483648 : Int) ≤ τ 93 6 ∧ τ 93 6 ≤ 2147483647 := hIτ 93 6
          have hFσ79 : tw_F (fun c j => (c = 88 ∧ (j = 9 ∨ j = 10 ∨ j = 12 ∨ j = 13 ∨ j = 14 ∨ j = 15 ∨ j = 16 ∨ j = 17 ∨ j = 18)) ∨ (c = 89 ∧ j < 100) ∨ (90 ≤ c ∧ c < 98)) σ σ79 := tw_F_tr hFσ67 hGσ79 (fun c j q => (show (c = 88 ∧ (j = 9 ∨ j = 10 ∨ j = 12 ∨ j = 13 ∨ j = 14 ∨ j = 15 ∨ j = 16 ∨ j = 17 ∨ j = 18)) ∨ (c = 89 ∧ j < 100) ∨ (90 ≤ c ∧ c < 98) from by replace q : (c = 89 ∧ j < 100) ∨ (90 ≤ c ∧ c < 93) := q; omega))
          refine j_st (st' := []) rfl ?_
          have kd0 := q80_7
          have kd1 := q80_8
          have kd2 := q80_9
          have kd3 := q80_10
          have kd4 := q80_11
          refine j_iload_n (pc := 91) dX12_text_91 rfl rfl ?_
          have fin : (σ79 88 17 = 0 ∧ wM σ79 = pwB (parse (fM σ)).1 ∧ (∀ j : Nat, j < 11 → σ79 89 (82 + j) = (parse (fM σ)).1 (200 + j)) ∧ (∀ j : Nat, j < 82 → σ79 89 j = 0) ∧ σ79 91 5 = (parse (fM σ)).1 105 ∧ σ79 91 6 = (parse (fM σ)).1 106) ∨ (¬ σ79 88 17 = 0 ∧ ∀ c j : Nat, 89 ≤ c → c < 93 → σ79 c j = σ c j) := by
            refine Or.inl ⟨by omega, by rw [← pw.1, ← dB]; exact kd0, fun j hj => ?_, kd2, ?_, ?_⟩
            · rw [kd1 j hj, ← pw.2 (200 + j) (by omega), ← dB, drM_k hj]
            · rw [kd3, ← pw.2 105 (by omega), ← dB, show (105 : Nat) = 100 + 5 from rfl, drM_r (by omega)]
            · rw [kd4, ← pw.2 106 (by omega), ← dB, show (106 : Nat) = 100 + 6 from rfl, drM_r (by omega)]
          have y86 : σ79 88 12 = 0 := ((hGσ79 88 12 (show ¬ ((88 = 89 ∧ 12 < 100) ∨ (90 ≤ 88 ∧ 88 < 93)) from by omega))).trans (tw_eq1 eσ67)
          have y87 : σ79 88 17 = σ64 88 17 := ((hGσ79 88 17 (show ¬ ((88 = 89 ∧ 17 < 100) ∨ (90 ≤ 88 ∧ 88 < 93)) from by omega))).trans (tw_ne1 eσ67 (by omega))
          have y88 : σ79 88 17 = σ64 88 17 := ((hGσ79 88 17 (show ¬ ((88 = 89 ∧ 17 < 100) ∨ (90 ≤ 88 ∧ 88 < 93)) from by omega))).trans (tw_ne1 eσ67 (by omega))
          have y89 : σ79 88 17 = σ64 88 17 := ((hGσ79 88 17 (show ¬ ((88 = 89 ∧ 17 < 100) ∨ (90 ≤ 88 ∧ 88 < 93)) from by omega))).trans (tw_ne1 eσ67 (by omega))
          have y90 : σ79 88 17 = σ64 88 17 := ((hGσ79 88 17 (show ¬ ((88 = 89 ∧ 17 < 100) ∨ (90 ≤ 88 ∧ 88 < 93)) from by omega))).trans (tw_ne1 eσ67 (by omega))
          have y91 : σ79 88 17 = σ64 88 17 := ((hGσ79 88 17 (show ¬ ((88 = 89 ∧ 17 < 100) ∨ (90 ≤ 88 ∧ 88 < 93)) from by omega))).trans (tw_ne1 eσ67 (by omega))
          have y92 : σ79 88 17 = σ64 88 17 := ((hGσ79 88 17 (show ¬ ((88 = 89 ∧ 17 < 100) ∨ (90 ≤ 88 ∧ 88 < 93)) from by omega))).trans (tw_ne1 eσ67 (by omega))
          have y93 : σ79 88 17 = σ64 88 17 := ((hGσ79 88 17 (show ¬ ((88 = 89 ∧ 17 < 100) ∨ (90 ≤ 88 ∧ 88 < 93)) from by omega))).trans (tw_ne1 eσ67 (by omega))
          exact j_iret (pc := 92) ⟨rfl, rfl⟩ dX12_text_92 rfl ⟨_, rfl, ⟨by omega, by omega⟩, hIσ79, hFσ79, (by first | exact q80_0 | exact mI_kept i1 (fun j hj => rfl) (fun j => rfl) (rfl) hIτ), by omega, (by rw [← pm]; first | exact (mtxt_f (by omega)).symm | exact (mtxt_t (by omega)).symm | (rw [mtxt_f (by omega)]; omega) | (rw [mtxt_t (by omega)]; omega)), (by rw [← pm]; show _ = (aM _) 4; rw [aM_4]; omega), by omega, by omega, by omega, by omega, by omega, fin⟩
        · refine j_bipush (pc := 79) dX12_text_79 rfl ?_
          refine j_aload_n (pc := 81) dX12_text_81 rfl rfl ?_
          refine j_getI (pc := 82) fl_X12_97 dX12_text_82 (a_88 hM) rfl ?_
          refine j_topV (show σ67 88 18 = σ64 88 18 from (tw_ne1 eσ67 (by omega))) ?_
          have f94 : (0 : Int) ≤ σ64 88 18 ∧ σ64 88 18 ≤ 400 := hIσ64 88 18
          refine j_isub (pc := 85) dX12_text_85 ?_
          have fin : (σ67 88 17 = 0 ∧ wM σ67 = pwB (parse (fM σ)).1 ∧ (∀ j : Nat, j < 11 → σ67 89 (82 + j) = (parse (fM σ)).1 (200 + j)) ∧ (∀ j : Nat, j < 82 → σ67 89 j = 0) ∧ σ67 91 5 = (parse (fM σ)).1 105 ∧ σ67 91 6 = (parse (fM σ)).1 106) ∨ (¬ σ67 88 17 = 0 ∧ ∀ c j : Nat, 89 ≤ c → c < 93 → σ67 c j = σ c j) := Or.inr ⟨by omega, fun c j a b => (tw_ne1 eσ67 (by omega)).trans ((hGσ64 c j (show ¬ ((c = 88 ∧ (j = 17 ∨ j = 18))) from by omega)).trans (i11 c j a b))⟩
          have y95 : σ67 88 12 = 0 := (tw_eq1 eσ67)
          have y96 : σ67 88 17 = σ64 88 17 := (tw_ne1 eσ67 (by omega))
          have y97 : σ67 88 17 = σ64 88 17 := (tw_ne1 eσ67 (by omega))
          have y98 : σ67 90 0 = τ 90 0 := ((tw_ne1 eσ67 (by omega))).trans (hGσ64 90 0 (show ¬ ((90 = 88 ∧ (0 = 17 ∨ 0 = 18))) from by omega))
          have f99 : (0 : Int) ≤ τ 90 0 ∧ τ 90 0 ≤ 1 := hIτ 90 0
          have y100 : σ67 90 1 = τ 90 1 := ((tw_ne1 eσ67 (by omega))).trans (hGσ64 90 1 (show ¬ ((90 = 88 ∧ (1 = 17 ∨ 1 = 18))) from by omega))
          have f101 : (0 : Int) ≤ τ 90 1 ∧ τ 90 1 ≤ 1 := hIτ 90 1
          have y102 : σ67 88 17 = σ64 88 17 := (tw_ne1 eσ67 (by omega))
          have y103 : σ67 89 93 = τ 89 93 := ((tw_ne1 eσ67 (by omega))).trans (hGσ64 89 93 (show ¬ ((89 = 88 ∧ (93 = 17 ∨ 93 = 18))) from by omega))
          have f104 : (0 : Int) ≤ τ 89 93 ∧ τ 89 93 ≤ 999 := hIτ 89 93
          have y105 : σ67 88 17 = σ64 88 17 := (tw_ne1 eσ67 (by omega))
          have y106 : σ67 89 94 = τ 89 94 := ((tw_ne1 eσ67 (by omega))).trans (hGσ64 89 94 (show ¬ ((89 = 88 ∧ (94 = 17 ∨ 94 = 18))) from by omega))
          have f107 : (-2147483648 : Int) ≤ τ 89 94 ∧ τ 89 94 ≤ 2147483647 := hIτ 89 94
          have y108 : σ67 88 17 = σ64 88 17 := (tw_ne1 eσ67 (by omega))
          have y109 : σ67 89 95 = τ 89 95 := ((tw_ne1 eσ67 (by omega))).trans (hGσ64 89 95 (show ¬ ((89 = 88 ∧ (95 = 17 ∨ 95 = 18))) from by omega))
          have f110 : (0 : Int) ≤ τ 89 95 ∧ τ 89 95 ≤ 999 := hIτ 89 95
          have y111 : σ67 88 17 = σ64 88 17 := (tw_ne1 eσ67 (by omega))
          have y112 : σ67 89 96 = τ 89 96 := ((tw_ne1 eσ67 (by omega))).trans (hGσ64 89 96 (show ¬ ((89 = 88 ∧ (96 = 17 ∨ 96 = 18))) from by omega))
          have f113 : (-2147483648 : Int) ≤ τ 89 96 ∧ τ 89 96 ≤ 2147483647 := hIτ 89 96
          have y114 : σ67 88 17 = σ64 88 17 := (tw_ne1 eσ67 (by omega))
          have y115 : σ67 89 ((82 + j)) = τ 89 ((82 + j)) := ((tw_ne1 eσ67 (by omega))).trans (hGσ64 89 ((82 + j)) (show ¬ ((89 = 88 ∧ ((82 + j) = 17 ∨ (82 + j) = 18))) from by omega))
          have y116 : σ67 91 5 = τ 91 5 := ((tw_ne1 eσ67 (by omega))).trans (hGσ64 91 5 (show ¬ ((91 = 88 ∧ (5 = 17 ∨ 5 = 18))) from by omega))
          have f117 : (-2147483648 : Int) ≤ τ 91 5 ∧ τ 91 5 ≤ 2147483647 := hIτ 91 5
          have y118 : σ67 91 6 = τ 91 6 := ((tw_ne1 eσ67 (by omega))).trans (hGσ64 91 6 (show ¬ ((91 = 88 ∧ (6 = 17 ∨ 6 = 18))) from by omega))
          have f119 : (-2147483648 : Int) ≤ τ 91 6 ∧ τ 91 6 ≤ 2147483647 := hIτ 91 6
          exact j_iret (pc := 86) ⟨rfl, rfl⟩ dX12_text_86 rfl ⟨_, rfl, ⟨by omega, by omega⟩, hIσ67, hFσ67, (by first | exact q65_0 | exact mI_kept i1 (fun j hj => ((tw_ne1 eσ67 (by omega))).trans (hGσ64 89 j (show ¬ ((89 = 88 ∧ (j = 17 ∨ j = 18))) from by omega))) (fun j => ((tw_ne1 eσ67 (by omega))).trans (hGσ64 90 j (show ¬ ((90 = 88 ∧ (j = 17 ∨ j = 18))) from by omega))) (((tw_ne1 eσ67 (by omega))).trans (hGσ64 91 0 (show ¬ ((91 = 88 ∧ (0 = 17 ∨ 0 = 18))) from by omega))) hIτ), by omega, (by rw [← pm]; first | exact (mtxt_f (by omega)).symm | exact (mtxt_t (by omega)).symm | (rw [mtxt_f (by omega)]; omega) | (rw [mtxt_t (by omega)]; omega)), (by rw [← pm]; show _ = (aM _) 4; rw [aM_4]; omega), by omega, by omega, by omega, by omega, by omega, fin⟩
    · refine j_aload_n (pc := 27) dX12_text_27 rfl rfl ?_
      refine j_getI (pc := 28) fl_X12_115 dX12_text_28 (a_88 hM) rfl ?_
      have f120 : (-2147483648 : Int) ≤ τ 88 15 ∧ τ 88 15 ≤ 2147483647 := hIτ 88 15
      refine j_ifR_eq (pc := 31) (tgt := 44) ⟨by omega, by omega⟩ dX12_text_31 rfl (fun h121 => ?_) (fun h121 => ?_)
      · refine j_aload_n (pc := 44) dX12_text_44 rfl rfl ?_
        refine j_aload_n (pc := 45) dX12_text_45 rfl rfl ?_
        refine j_getI (pc := 46) fl_X12_75 dX12_text_46 (a_88 hM) rfl ?_
        have f122 : (0 : Int) ≤ τ 88 10 ∧ τ 88 10 ≤ 40 := hIτ 88 10
        refine j_aload_n (pc := 49) dX12_text_49 rfl rfl ?_
        refine j_getR (pc := 50) (r := 93) fl_X12_23 dX12_text_50 (a_88 hM) rfl ?_
        refine j_iconst (pc := 53) dX12_text_53 ?_
        refine j_iald (pc := 54) dX12_text_54 (a_93 hM) (by omega) (by omega) (by decide) ?_
        refine j_topV (show τ 93 (Int.toNat 0) = τ 93 0 from rfl) ?_
        have f123 : (-2147483648 : Int) ≤ τ 93 0 ∧ τ 93 0 ≤ 2147483647 := hIτ 93 0
        refine j_icmpR_gt (pc := 55) (tgt := 62) ⟨by omega, by omega⟩ ⟨by omega, by omega⟩ dX12_text_55 rfl (fun h124 => ?_) (fun h124 => ?_)
        · refine j_iconst (pc := 62) dX12_text_62 ?_
          refine j_iconst (pc := 63) dX12_text_63 ?_
          refine j_callV (pc := 64) (As := [vI 0, vI 5]) (st := []) (c_X12_needs hM 0 ⟨by omega, by omega⟩ 5 ⟨by omega, by omega⟩ τ hIτ) mv_X12_129 rfl rfl rfl (a_88 hM) dX12_text_64 ⟨Nat.le_of_ble_eq_true rfl, Nat.le_of_ble_eq_true rfl⟩ ⟨Nat.le_refl _, Nat.le_refl _⟩ rfl (Nat.le_of_ble_eq_true rfl) rfl (fun z125 σ126 hz125 => ?_)
          obtain ⟨rfl, hIσ126, hGσ126, q127_0, q127_1, q127_2⟩ := hz125
          replace q127_0 : (¬ (0 : Int) = 0 ∧ σ126 88 17 = τ 88 17) ∨ ((0 : Int) = 0 ∧ τ 88 17 = 0 ∧ σ126 88 17 = (5 : Int)) ∨ ((0 : Int) = 0 ∧ ¬ τ 88 17 = 0 ∧ σ126 88 17 = τ 88 17) := q127_0
          replace q127_1 : (¬ (0 : Int) = 0 ∧ σ126 88 17 = τ 88 17 ∧ σ126 88 18 = τ 88 18) ∨ ((0 : Int) = 0 ∧ τ 88 17 = 0 ∧ σ126 88 17 = (5 : Int) ∧ σ126 88 18 = τ 88 14) ∨ ((0 : Int) = 0 ∧ ¬ τ 88 17 = 0 ∧ σ126 88 17 = τ 88 17 ∧ σ126 88 18 = τ 88 18) := q127_1
          replace q127_2 : aM σ126 = need (decide (¬ (0 : Int) = 0)) (5 : Int) (aM τ) := q127_2
          have hFσ126 : tw_F (fun c j => (c = 88 ∧ (j = 9 ∨ j = 10 ∨ j = 12 ∨ j = 13 ∨ j = 14 ∨ j = 15 ∨ j = 16 ∨ j = 17 ∨ j = 18)) ∨ (c = 89 ∧ j < 100) ∨ (90 ≤ c ∧ c < 98)) σ σ126 := tw_F_tr hFτ hGσ126 (fun c j q => (show (c = 88 ∧ (j = 9 ∨ j = 10 ∨ j = 12 ∨ j = 13 ∨ j = 14 ∨ j = 15 ∨ j = 16 ∨ j = 17 ∨ j = 18)) ∨ (c = 89 ∧ j < 100) ∨ (90 ≤ c ∧ c < 98) from by replace q : (c = 88 ∧ (j = 17 ∨ j = 18)) := q; omega))
          refine j_st (st' := []) rfl ?_
          have pm := parse_M i4 (by omega) ((q127_2).trans (need_cg (g' := decide (τ 88 10 ≤ τ 93 0)) (fun _ => by first | exact (decide_eq_true (by omega)).trans (decide_eq_true (by omega)).symm | exact (decide_eq_false (by omega)).trans (decide_eq_false (by omega)).symm)))
          refine j_aload_n (pc := 67) dX12_text_67 rfl rfl ?_
          refine j_iconst (pc := 68) dX12_text_68 ?_
          refine j_putI (pc := 69) fl_X12_86 fp_X12_12 dX12_text_69 (a_88 hM) rfl (j_nm (fun σ129 (eσ129 : σ129 = tw_up σ126 88 12 0) => ?_))
          have hIσ129 : tw_I σ129 := tw_I_up hIσ126 eσ129 (show (0 : Int) ≤ 0 ∧ 0 ≤ 400 from ⟨by omega, by omega⟩)
          have hFσ129 : tw_F (fun c j => (c = 88 ∧ (j = 9 ∨ j = 10 ∨ j = 12 ∨ j = 13 ∨ j = 14 ∨ j = 15 ∨ j = 16 ∨ j = 17 ∨ j = 18)) ∨ (c = 89 ∧ j < 100) ∨ (90 ≤ c ∧ c < 98)) σ σ129 := tw_F_up hFσ126 eσ129 (show (88 = 88 ∧ (12 = 9 ∨ 12 = 10 ∨ 12 = 12 ∨ 12 = 13 ∨ 12 = 14 ∨ 12 = 15 ∨ 12 = 16 ∨ 12 = 17 ∨ 12 = 18)) ∨ (88 = 89 ∧ 12 < 100) ∨ (90 ≤ 88 ∧ 88 < 98) from by omega)
          refine j_aload_n (pc := 72) dX12_text_72 rfl rfl ?_
          refine j_getI (pc := 73) fl_X12_91 dX12_text_73 (a_88 hM) rfl ?_
          refine j_topV (show σ129 88 17 = σ126 88 17 from (tw_ne1 eσ129 (by omega))) ?_
          have f130 : (0 : Int) ≤ σ126 88 17 ∧ σ126 88 17 ≤ 5 := hIσ126 88 17
          refine j_ifR_le (pc := 76) (tgt := 87) ⟨by omega, by omega⟩ dX12_text_76 rfl (fun h131 => ?_) (fun h131 => ?_)
          · have z9 : σ129 88 17 = 0 := ((tw_ne1 eσ129 (by omega))).trans (by omega)
            have dB : drM σ129 = drM σ126 := drM_F (tw_ne1 eσ129 (by decide)) (tw_ne1 eσ129 (by decide)) (fun c j h => tw_ne1 eσ129 (by omega))
            have f17 : σ126 88 17 = 0 := by omega
            have pw := pwB_M pm f17
            refine j_aload_n (pc := 87) dX12_text_87 rfl rfl ?_
            have y132 : σ129 89 193 = τ 89 193 := ((tw_ne1 eσ129 (by omega))).trans (hGσ126 89 193 (show ¬ ((89 = 88 ∧ (193 = 17 ∨ 193 = 18))) from by omega))
            have f133 : (0 : Int) ≤ τ 89 193 ∧ τ 89 193 ≤ 999 := hIτ 89 193
            have y134 : σ129 89 195 = τ 89 195 := ((tw_ne1 eσ129 (by omega))).trans (hGσ126 89 195 (show ¬ ((89 = 88 ∧ (195 = 17 ∨ 195 = 18))) from by omega))
            have f135 : (0 : Int) ≤ τ 89 195 ∧ τ 89 195 ≤ 999 := hIτ 89 195
            have y136 : σ129 89 293 = τ 89 293 := ((tw_ne1 eσ129 (by omega))).trans (hGσ126 89 293 (show ¬ ((89 = 88 ∧ (293 = 17 ∨ 293 = 18))) from by omega))
            have f137 : (0 : Int) ≤ τ 89 293 ∧ τ 89 293 ≤ 999 := hIτ 89 293
            have y138 : σ129 89 295 = τ 89 295 := ((tw_ne1 eσ129 (by omega))).trans (hGσ126 89 295 (show ¬ ((89 = 88 ∧ (295 = 17 ∨ 295 = 18))) from by omega))
            have f139 : (0 : Int) ≤ τ 89 295 ∧ τ 89 295 ≤ 999 := hIτ 89 295
            refine j_callV (pc := 88) (As := []) (st := []) (c_X12_keepDraft hM σ129 hIσ129 (DQ_dr (DQ_F i0 (fun j => ((tw_ne1 eσ129 (by omega))).trans (hGσ126 93 j (show ¬ ((93 = 88 ∧ (j = 17 ∨ j = 18))) from by omega))) (fun j => ((tw_ne1 eσ129 (by omega))).trans (hGσ126 94 j (show ¬ ((94 = 88 ∧ (j = 17 ∨ j = 18))) from by omega))) (by omega)) (by omega)) (by omega) (by omega)) mv_X12_68 rfl rfl rfl (a_88 hM) dX12_text_88 ⟨Nat.le_of_ble_eq_true rfl, Nat.le_of_ble_eq_true rfl⟩ ⟨Nat.le_refl _, Nat.le_refl _⟩ rfl (Nat.le_of_ble_eq_true rfl) rfl (fun z140 σ141 hz140 => ?_)
            obtain ⟨rfl, hIσ141, hGσ141, q142_0, q142_1, q142_2, q142_3, q142_4, q142_5, q142_6, q142_7, q142_8, q142_9, q142_10, q142_11⟩ := hz140
            replace q142_0 : mI σ141 := q142_0
            replace q142_1 : σ141 90 0 = 0 := q142_1
            replace q142_2 : σ141 90 1 = 0 := q142_2
            replace q142_3 : σ141 89 93 = 0 := q142_3
            replace q142_4 : σ141 89 94 = 0 := q142_4
            replace q142_5 : σ141 89 95 = 0 := q142_5
            replace q142_6 : σ141 89 96 = 0 := q142_6
            replace q142_7 : wM σ141 = pwB (drM σ129) := q142_7
            replace q142_8 : ∀ j : Nat, j < 11 → σ141 89 (82 + j) = σ129 95 j := q142_8
            replace q142_9 : ∀ j : Nat, j < 82 → σ141 89 j = 0 := q142_9
            replace q142_10 : σ141 91 5 = σ129 93 5 := q142_10
            have y144 : σ129 93 5 = τ 93 5 := ((tw_ne1 eσ129 (by omega))).trans (hGσ126 93 5 (show ¬ ((93 = 88 ∧ (5 = 17 ∨ 5 = 18))) from by omega))
            have f145 : (-2147483648 : Int) ≤ τ 93 5 ∧ τ 93 5 ≤ 2147483647 := hIτ 93 5
            replace q142_11 : σ141 91 6 = σ129 93 6 := q142_11
            have y146 : σ129 93 6 = τ 93 6 := ((tw_ne1 eσ129 (by omega))).trans (hGσ126 93 6 (show ¬ ((93 = 88 ∧ (6 = 17 ∨ 6 = 18))) from by omega))
            have f147 : (-2147483648 : Int) ≤ τ 93 6 ∧ τ 93 6 ≤ 2147483647 := hIτ 93 6
            have hFσ141 : tw_F (fun c j => (c = 88 ∧ (j = 9 ∨ j = 10 ∨ j = 12 ∨ j = 13 ∨ j = 14 ∨ j = 15 ∨ j = 16 ∨ j = 17 ∨ j = 18)) ∨ (c = 89 ∧ j < 100) ∨ (90 ≤ c ∧ c < 98)) σ σ141 := tw_F_tr hFσ129 hGσ141 (fun c j q => (show (c = 88 ∧ (j = 9 ∨ j = 10 ∨ j = 12 ∨ j = 13 ∨ j = 14 ∨ j = 15 ∨ j = 16 ∨ j = 17 ∨ j = 18)) ∨ (c = 89 ∧ j < 100) ∨ (90 ≤ c ∧ c < 98) from by replace q : (c = 89 ∧ j < 100) ∨ (90 ≤ c ∧ c < 93) := q; omega))
            refine j_st (st' := []) rfl ?_
            have kd0 := q142_7
            have kd1 := q142_8
            have kd2 := q142_9
            have kd3 := q142_10
            have kd4 := q142_11
            refine j_iload_n (pc := 91) dX12_text_91 rfl rfl ?_
            have fin : (σ141 88 17 = 0 ∧ wM σ141 = pwB (parse (fM σ)).1 ∧ (∀ j : Nat, j < 11 → σ141 89 (82 + j) = (parse (fM σ)).1 (200 + j)) ∧ (∀ j : Nat, j < 82 → σ141 89 j = 0) ∧ σ141 91 5 = (parse (fM σ)).1 105 ∧ σ141 91 6 = (parse (fM σ)).1 106) ∨ (¬ σ141 88 17 = 0 ∧ ∀ c j : Nat, 89 ≤ c → c < 93 → σ141 c j = σ c j) := by
              refine Or.inl ⟨by omega, by rw [← pw.1, ← dB]; exact kd0, fun j hj => ?_, kd2, ?_, ?_⟩
              · rw [kd1 j hj, ← pw.2 (200 + j) (by omega), ← dB, drM_k hj]
              · rw [kd3, ← pw.2 105 (by omega), ← dB, show (105 : Nat) = 100 + 5 from rfl, drM_r (by omega)]
              · rw [kd4, ← pw.2 106 (by omega), ← dB, show (106 : Nat) = 100 + 6 from rfl, drM_r (by omega)]
            have y148 : σ141 88 12 = 0 := ((hGσ141 88 12 (show ¬ ((88 = 89 ∧ 12 < 100) ∨ (90 ≤ 88 ∧ 88 < 93)) from by omega))).trans (tw_eq1 eσ129)
            have y149 : σ141 88 17 = σ126 88 17 := ((hGσ141 88 17 (show ¬ ((88 = 89 ∧ 17 < 100) ∨ (90 ≤ 88 ∧ 88 < 93)) from by omega))).trans (tw_ne1 eσ129 (by omega))
            have y150 : σ141 88 17 = σ126 88 17 := ((hGσ141 88 17 (show ¬ ((88 = 89 ∧ 17 < 100) ∨ (90 ≤ 88 ∧ 88 < 93)) from by omega))).trans (tw_ne1 eσ129 (by omega))
            have y151 : σ141 88 17 = σ126 88 17 := ((hGσ141 88 17 (show ¬ ((88 = 89 ∧ 17 < 100) ∨ (90 ≤ 88 ∧ 88 < 93)) from by omega))).trans (tw_ne1 eσ129 (by omega))
            have y152 : σ141 88 17 = σ126 88 17 := ((hGσ141 88 17 (show ¬ ((88 = 89 ∧ 17 < 100) ∨ (90 ≤ 88 ∧ 88 < 93)) from by omega))).trans (tw_ne1 eσ129 (by omega))
            have y153 : σ141 88 17 = σ126 88 17 := ((hGσ141 88 17 (show ¬ ((88 = 89 ∧ 17 < 100) ∨ (90 ≤ 88 ∧ 88 < 93)) from by omega))).trans (tw_ne1 eσ129 (by omega))
            have y154 : σ141 88 17 = σ126 88 17 := ((hGσ141 88 17 (show ¬ ((88 = 89 ∧ 17 < 100) ∨ (90 ≤ 88 ∧ 88 < 93)) from by omega))).trans (tw_ne1 eσ129 (by omega))
            have y155 : σ141 88 17 = σ126 88 17 := ((hGσ141 88 17 (show ¬ ((88 = 89 ∧ 17 < 100) ∨ (90 ≤ 88 ∧ 88 < 93)) from by omega))).trans (tw_ne1 eσ129 (by omega))
            exact j_iret (pc := 92) ⟨rfl, rfl⟩ dX12_text_92 rfl ⟨_, rfl, ⟨by omega, by omega⟩, hIσ141, hFσ141, (by first | exact q142_0 | exact mI_kept i1 (fun j hj => rfl) (fun j => rfl) (rfl) hIτ), by omega, (by rw [← pm]; first | exact (mtxt_f (by omega)).symm | exact (mtxt_t (by omega)).symm | (rw [mtxt_f (by omega)]; omega) | (rw [mtxt_t (by omega)]; omega)), (by rw [← pm]; show _ = (aM _) 4; rw [aM_4]; omega), by omega, by omega, by omega, by omega, by omega, fin⟩
          · refine j_bipush (pc := 79) dX12_text_79 rfl ?_
            refine j_aload_n (pc := 81) dX12_text_81 rfl rfl ?_
            refine j_getI (pc := 82) fl_X12_97 dX12_text_82 (a_88 hM) rfl ?_
            refine j_topV (show σ129 88 18 = σ126 88 18 from (tw_ne1 eσ129 (by omega))) ?_
            have f156 : (0 : Int) ≤ σ126 88 18 ∧ σ126 88 18 ≤ 400 := hIσ126 88 18
            refine j_isub (pc := 85) dX12_text_85 ?_
            have fin : (σ129 88 17 = 0 ∧ wM σ129 = pwB (parse (fM σ)).1 ∧ (∀ j : Nat, j < 11 → σ129 89 (82 + j) = (parse (fM σ)).1 (200 + j)) ∧ (∀ j : Nat, j < 82 → σ129 89 j = 0) ∧ σ129 91 5 = (parse (fM σ)).1 105 ∧ σ129 91 6 = (parse (fM σ)).1 106) ∨ (¬ σ129 88 17 = 0 ∧ ∀ c j : Nat, 89 ≤ c → c < 93 → σ129 c j = σ c j) := Or.inr ⟨by omega, fun c j a b => (tw_ne1 eσ129 (by omega)).trans ((hGσ126 c j (show ¬ ((c = 88 ∧ (j = 17 ∨ j = 18))) from by omega)).trans (i11 c j a b))⟩
            have y157 : σ129 88 12 = 0 := (tw_eq1 eσ129)
            have y158 : σ129 88 17 = σ126 88 17 := (tw_ne1 eσ129 (by omega))
            have y159 : σ129 88 17 = σ126 88 17 := (tw_ne1 eσ129 (by omega))
            have y160 : σ129 90 0 = τ 90 0 := ((tw_ne1 eσ129 (by omega))).trans (hGσ126 90 0 (show ¬ ((90 = 88 ∧ (0 = 17 ∨ 0 = 18))) from by omega))
            have f161 : (0 : Int) ≤ τ 90 0 ∧ τ 90 0 ≤ 1 := hIτ 90 0
            have y162 : σ129 90 1 = τ 90 1 := ((tw_ne1 eσ129 (by omega))).trans (hGσ126 90 1 (show ¬ ((90 = 88 ∧ (1 = 17 ∨ 1 = 18))) from by omega))
            have f163 : (0 : Int) ≤ τ 90 1 ∧ τ 90 1 ≤ 1 := hIτ 90 1
            have y164 : σ129 88 17 = σ126 88 17 := (tw_ne1 eσ129 (by omega))
            have y165 : σ129 89 93 = τ 89 93 := ((tw_ne1 eσ129 (by omega))).trans (hGσ126 89 93 (show ¬ ((89 = 88 ∧ (93 = 17 ∨ 93 = 18))) from by omega))
            have f166 : (0 : Int) ≤ τ 89 93 ∧ τ 89 93 ≤ 999 := hIτ 89 93
            have y167 : σ129 88 17 = σ126 88 17 := (tw_ne1 eσ129 (by omega))
            have y168 : σ129 89 94 = τ 89 94 := ((tw_ne1 eσ129 (by omega))).trans (hGσ126 89 94 (show ¬ ((89 = 88 ∧ (94 = 17 ∨ 94 = 18))) from by omega))
            have f169 : (-2147483648 : Int) ≤ τ 89 94 ∧ τ 89 94 ≤ 2147483647 := hIτ 89 94
            have y170 : σ129 88 17 = σ126 88 17 := (tw_ne1 eσ129 (by omega))
            have y171 : σ129 89 95 = τ 89 95 := ((tw_ne1 eσ129 (by omega))).trans (hGσ126 89 95 (show ¬ ((89 = 88 ∧ (95 = 17 ∨ 95 = 18))) from by omega))
            have f172 : (0 : Int) ≤ τ 89 95 ∧ τ 89 95 ≤ 999 := hIτ 89 95
            have y173 : σ129 88 17 = σ126 88 17 := (tw_ne1 eσ129 (by omega))
            have y174 : σ129 89 96 = τ 89 96 := ((tw_ne1 eσ129 (by omega))).trans (hGσ126 89 96 (show ¬ ((89 = 88 ∧ (96 = 17 ∨ 96 = 18))) from by omega))
            have f175 : (-2147483648 : Int) ≤ τ 89 96 ∧ τ 89 96 ≤ 2147483647 := hIτ 89 96
            have y176 : σ129 88 17 = σ126 88 17 := (tw_ne1 eσ129 (by omega))
            have y177 : σ129 89 ((82 + j)) = τ 89 ((82 + j)) := ((tw_ne1 eσ129 (by omega))).trans (hGσ126 89 ((82 + j)) (show ¬ ((89 = 88 ∧ ((82 + j) = 17 ∨ (82 + j) = 18))) from by omega))
            have y178 : σ129 91 5 = τ 91 5 := ((tw_ne1 eσ129 (by omega))).trans (hGσ126 91 5 (show ¬ ((91 = 88 ∧ (5 = 17 ∨ 5 = 18))) from by omega))
            have f179 : (-2147483648 : Int) ≤ τ 91 5 ∧ τ 91 5 ≤ 2147483647 := hIτ 91 5
            have y180 : σ129 91 6 = τ 91 6 := ((tw_ne1 eσ129 (by omega))).trans (hGσ126 91 6 (show ¬ ((91 = 88 ∧ (6 = 17 ∨ 6 = 18))) from by omega))
            have f181 : (-2147483648 : Int) ≤ τ 91 6 ∧ τ 91 6 ≤ 2147483647 := hIτ 91 6
            exact j_iret (pc := 86) ⟨rfl, rfl⟩ dX12_text_86 rfl ⟨_, rfl, ⟨by omega, by omega⟩, hIσ129, hFσ129, (by first | exact q127_0 | exact mI_kept i1 (fun j hj => ((tw_ne1 eσ129 (by omega))).trans (hGσ126 89 j (show ¬ ((89 = 88 ∧ (j = 17 ∨ j = 18))) from by omega))) (fun j => ((tw_ne1 eσ129 (by omega))).trans (hGσ126 90 j (show ¬ ((90 = 88 ∧ (j = 17 ∨ j = 18))) from by omega))) (((tw_ne1 eσ129 (by omega))).trans (hGσ126 91 0 (show ¬ ((91 = 88 ∧ (0 = 17 ∨ 0 = 18))) from by omega))) hIτ), by omega, (by rw [← pm]; first | exact (mtxt_f (by omega)).symm | exact (mtxt_t (by omega)).symm | (rw [mtxt_f (by omega)]; omega) | (rw [mtxt_t (by omega)]; omega)), (by rw [← pm]; show _ = (aM _) 4; rw [aM_4]; omega), by omega, by omega, by omega, by omega, by omega, fin⟩
        · refine j_iconst (pc := 58) dX12_text_58 ?_
          refine j_goto (pc := 59) (tgt := 63) dX12_text_59 rfl ?_
          refine j_iconst (pc := 63) dX12_text_63 ?_
          refine j_callV (pc := 64) (As := [vI 1, vI 5]) (st := []) (c_X12_needs hM 1 ⟨by omega, by omega⟩ 5 ⟨by omega, by omega⟩ τ hIτ) mv_X12_129 rfl rfl rfl (a_88 hM) dX12_text_64 ⟨Nat.le_of_ble_eq_true rfl, Nat.le_of_ble_eq_true rfl⟩ ⟨Nat.le_refl _, Nat.le_refl _⟩ rfl (Nat.le_of_ble_eq_true rfl) rfl (fun z182 σ183 hz182 => ?_)
          obtain ⟨rfl, hIσ183, hGσ183, q184_0, q184_1, q184_2⟩ := hz182
          replace q184_0 : (¬ (1 : Int) = 0 ∧ σ183 88 17 = τ 88 17) ∨ ((1 : Int) = 0 ∧ τ 88 17 = 0 ∧ σ183 88 17 = (5 : Int)) ∨ ((1 : Int) = 0 ∧ ¬ τ 88 17 = 0 ∧ σ183 88 17 = τ 88 17) := q184_0
          replace q184_1 : (¬ (1 : Int) = 0 ∧ σ183 88 17 = τ 88 17 ∧ σ183 88 18 = τ 88 18) ∨ ((1 : Int) = 0 ∧ τ 88 17 = 0 ∧ σ183 88 17 = (5 : Int) ∧ σ183 88 18 = τ 88 14) ∨ ((1 : Int) = 0 ∧ ¬ τ 88 17 = 0 ∧ σ183 88 17 = τ 88 17 ∧ σ183 88 18 = τ 88 18) := q184_1
          replace q184_2 : aM σ183 = need (decide (¬ (1 : Int) = 0)) (5 : Int) (aM τ) := q184_2
          have hFσ183 : tw_F (fun c j => (c = 88 ∧ (j = 9 ∨ j = 10 ∨ j = 12 ∨ j = 13 ∨ j = 14 ∨ j = 15 ∨ j = 16 ∨ j = 17 ∨ j = 18)) ∨ (c = 89 ∧ j < 100) ∨ (90 ≤ c ∧ c < 98)) σ σ183 := tw_F_tr hFτ hGσ183 (fun c j q => (show (c = 88 ∧ (j = 9 ∨ j = 10 ∨ j = 12 ∨ j = 13 ∨ j = 14 ∨ j = 15 ∨ j = 16 ∨ j = 17 ∨ j = 18)) ∨ (c = 89 ∧ j < 100) ∨ (90 ≤ c ∧ c < 98) from by replace q : (c = 88 ∧ (j = 17 ∨ j = 18)) := q; omega))
          refine j_st (st' := []) rfl ?_
          have pm := parse_M i4 (by omega) ((q184_2).trans (need_cg (g' := decide (τ 88 10 ≤ τ 93 0)) (fun _ => by first | exact (decide_eq_true (by omega)).trans (decide_eq_true (by omega)).symm | exact (decide_eq_false (by omega)).trans (decide_eq_false (by omega)).symm)))
          refine j_aload_n (pc := 67) dX12_text_67 rfl rfl ?_
          refine j_iconst (pc := 68) dX12_text_68 ?_
          refine j_putI (pc := 69) fl_X12_86 fp_X12_12 dX12_text_69 (a_88 hM) rfl (j_nm (fun σ186 (eσ186 : σ186 = tw_up σ183 88 12 0) => ?_))
          have hIσ186 : tw_I σ186 := tw_I_up hIσ183 eσ186 (show (0 : Int) ≤ 0 ∧ 0 ≤ 400 from ⟨by omega, by omega⟩)
          have hFσ186 : tw_F (fun c j => (c = 88 ∧ (j = 9 ∨ j = 10 ∨ j = 12 ∨ j = 13 ∨ j = 14 ∨ j = 15 ∨ j = 16 ∨ j = 17 ∨ j = 18)) ∨ (c = 89 ∧ j < 100) ∨ (90 ≤ c ∧ c < 98)) σ σ186 := tw_F_up hFσ183 eσ186 (show (88 = 88 ∧ (12 = 9 ∨ 12 = 10 ∨ 12 = 12 ∨ 12 = 13 ∨ 12 = 14 ∨ 12 = 15 ∨ 12 = 16 ∨ 12 = 17 ∨ 12 = 18)) ∨ (88 = 89 ∧ 12 < 100) ∨ (90 ≤ 88 ∧ 88 < 98) from by omega)
          refine j_aload_n (pc := 72) dX12_text_72 rfl rfl ?_
          refine j_getI (pc := 73) fl_X12_91 dX12_text_73 (a_88 hM) rfl ?_
          refine j_topV (show σ186 88 17 = σ183 88 17 from (tw_ne1 eσ186 (by omega))) ?_
          have f187 : (0 : Int) ≤ σ183 88 17 ∧ σ183 88 17 ≤ 5 := hIσ183 88 17
          refine j_ifR_le (pc := 76) (tgt := 87) ⟨by omega, by omega⟩ dX12_text_76 rfl (fun h188 => ?_) (fun h188 => ?_)
          · have z9 : σ186 88 17 = 0 := ((tw_ne1 eσ186 (by omega))).trans (by omega)
            have dB : drM σ186 = drM σ183 := drM_F (tw_ne1 eσ186 (by decide)) (tw_ne1 eσ186 (by decide)) (fun c j h => tw_ne1 eσ186 (by omega))
            have f17 : σ183 88 17 = 0 := by omega
            have pw := pwB_M pm f17
            refine j_aload_n (pc := 87) dX12_text_87 rfl rfl ?_
            have y189 : σ186 89 193 = τ 89 193 := ((tw_ne1 eσ186 (by omega))).trans (hGσ183 89 193 (show ¬ ((89 = 88 ∧ (193 = 17 ∨ 193 = 18))) from by omega))
            have f190 : (0 : Int) ≤ τ 89 193 ∧ τ 89 193 ≤ 999 := hIτ 89 193
            have y191 : σ186 89 195 = τ 89 195 := ((tw_ne1 eσ186 (by omega))).trans (hGσ183 89 195 (show ¬ ((89 = 88 ∧ (195 = 17 ∨ 195 = 18))) from by omega))
            have f192 : (0 : Int) ≤ τ 89 195 ∧ τ 89 195 ≤ 999 := hIτ 89 195
            have y193 : σ186 89 293 = τ 89 293 := ((tw_ne1 eσ186 (by omega))).trans (hGσ183 89 293 (show ¬ ((89 = 88 ∧ (293 = 17 ∨ 293 = 18))) from by omega))
            have f194 : (0 : Int) ≤ τ 89 293 ∧ τ 89 293 ≤ 999 := hIτ 89 293
            have y195 : σ186 89 295 = τ 89 295 := ((tw_ne1 eσ186 (by omega))).trans (hGσ183 89 295 (show ¬ ((89 = 88 ∧ (295 = 17 ∨ 295 = 18))) from by omega))
            have f196 : (0 : Int) ≤ τ 89 295 ∧ τ 89 295 ≤ 999 := hIτ 89 295
            refine j_callV (pc := 88) (As := []) (st := []) (c_X12_keepDraft hM σ186 hIσ186 (DQ_dr (DQ_F i0 (fun j => ((tw_ne1 eσ186 (by omega))).trans (hGσ183 93 j (show ¬ ((93 = 88 ∧ (j = 17 ∨ j = 18))) from by omega))) (fun j => ((tw_ne1 eσ186 (by omega))).trans (hGσ183 94 j (show ¬ ((94 = 88 ∧ (j = 17 ∨ j = 18))) from by omega))) (by omega)) (by omega)) (by omega) (by omega)) mv_X12_68 rfl rfl rfl (a_88 hM) dX12_text_88 ⟨Nat.le_of_ble_eq_true rfl, Nat.le_of_ble_eq_true rfl⟩ ⟨Nat.le_refl _, Nat.le_refl _⟩ rfl (Nat.le_of_ble_eq_true rfl) rfl (fun z197 σ198 hz197 => ?_)
            obtain ⟨rfl, hIσ198, hGσ198, q199_0, q199_1, q199_2, q199_3, q199_4, q199_5, q199_6, q199_7, q199_8, q199_9, q199_10, q199_11⟩ := hz197
            replace q199_0 : mI σ198 := q199_0
            replace q199_1 : σ198 90 0 = 0 := q199_1
            replace q199_2 : σ198 90 1 = 0 := q199_2
            replace q199_3 : σ198 89 93 = 0 := q199_3
            replace q199_4 : σ198 89 94 = 0 := q199_4
            replace q199_5 : σ198 89 95 = 0 := q199_5
            replace q199_6 : σ198 89 96 = 0 := q199_6
            replace q199_7 : wM σ198 = pwB (drM σ186) := q199_7
            replace q199_8 : ∀ j : Nat, j < 11 → σ198 89 (82 + j) = σ186 95 j := q199_8
            replace q199_9 : ∀ j : Nat, j < 82 → σ198 89 j = 0 := q199_9
            replace q199_10 : σ198 91 5 = σ186 93 5 := q199_10
            have y201 : σ186 93 5 = τ 93 5 := ((tw_ne1 eσ186 (by omega))).trans (hGσ183 93 5 (show ¬ ((93 = 88 ∧ (5 = 17 ∨ 5 = 18))) from by omega))
            have f202 : (-2147483648 : Int) ≤ τ 93 5 ∧ τ 93 5 ≤ 2147483647 := hIτ 93 5
            replace q199_11 : σ198 91 6 = σ186 93 6 := q199_11
            have y203 : σ186 93 6 = τ 93 6 := ((tw_ne1 eσ186 (by omega))).trans (hGσ183 93 6 (show ¬ ((93 = 88 ∧ (6 = 17 ∨ 6 = 18))) from by omega))
            have f204 : (-2147483648 : Int) ≤ τ 93 6 ∧ τ 93 6 ≤ 2147483647 := hIτ 93 6
            have hFσ198 : tw_F (fun c j => (c = 88 ∧ (j = 9 ∨ j = 10 ∨ j = 12 ∨ j = 13 ∨ j = 14 ∨ j = 15 ∨ j = 16 ∨ j = 17 ∨ j = 18)) ∨ (c = 89 ∧ j < 100) ∨ (90 ≤ c ∧ c < 98)) σ σ198 := tw_F_tr hFσ186 hGσ198 (fun c j q => (show (c = 88 ∧ (j = 9 ∨ j = 10 ∨ j = 12 ∨ j = 13 ∨ j = 14 ∨ j = 15 ∨ j = 16 ∨ j = 17 ∨ j = 18)) ∨ (c = 89 ∧ j < 100) ∨ (90 ≤ c ∧ c < 98) from by replace q : (c = 89 ∧ j < 100) ∨ (90 ≤ c ∧ c < 93) := q; omega))
            refine j_st (st' := []) rfl ?_
            have kd0 := q199_7
            have kd1 := q199_8
            have kd2 := q199_9
            have kd3 := q199_10
            have kd4 := q199_11
            refine j_iload_n (pc := 91) dX12_text_91 rfl rfl ?_
            have fin : (σ198 88 17 = 0 ∧ wM σ198 = pwB (parse (fM σ)).1 ∧ (∀ j : Nat, j < 11 → σ198 89 (82 + j) = (parse (fM σ)).1 (200 + j)) ∧ (∀ j : Nat, j < 82 → σ198 89 j = 0) ∧ σ198 91 5 = (parse (fM σ)).1 105 ∧ σ198 91 6 = (parse (fM σ)).1 106) ∨ (¬ σ198 88 17 = 0 ∧ ∀ c j : Nat, 89 ≤ c → c < 93 → σ198 c j = σ c j) := by
              refine Or.inl ⟨by omega, by rw [← pw.1, ← dB]; exact kd0, fun j hj => ?_, kd2, ?_, ?_⟩
              · rw [kd1 j hj, ← pw.2 (200 + j) (by omega), ← dB, drM_k hj]
              · rw [kd3, ← pw.2 105 (by omega), ← dB, show (105 : Nat) = 100 + 5 from rfl, drM_r (by omega)]
              · rw [kd4, ← pw.2 106 (by omega), ← dB, show (106 : Nat) = 100 + 6 from rfl, drM_r (by omega)]
            have y205 : σ198 88 12 = 0 := ((hGσ198 88 12 (show ¬ ((88 = 89 ∧ 12 < 100) ∨ (90 ≤ 88 ∧ 88 < 93)) from by omega))).trans (tw_eq1 eσ186)
            have y206 : σ198 88 17 = σ183 88 17 := ((hGσ198 88 17 (show ¬ ((88 = 89 ∧ 17 < 100) ∨ (90 ≤ 88 ∧ 88 < 93)) from by omega))).trans (tw_ne1 eσ186 (by omega))
            have y207 : σ198 88 17 = σ183 88 17 := ((hGσ198 88 17 (show ¬ ((88 = 89 ∧ 17 < 100) ∨ (90 ≤ 88 ∧ 88 < 93)) from by omega))).trans (tw_ne1 eσ186 (by omega))
            have y208 : σ198 88 17 = σ183 88 17 := ((hGσ198 88 17 (show ¬ ((88 = 89 ∧ 17 < 100) ∨ (90 ≤ 88 ∧ 88 < 93)) from by omega))).trans (tw_ne1 eσ186 (by omega))
            have y209 : σ198 88 17 = σ183 88 17 := ((hGσ198 88 17 (show ¬ ((88 = 89 ∧ 17 < 100) ∨ (90 ≤ 88 ∧ 88 < 93)) from by omega))).trans (tw_ne1 eσ186 (by omega))
            have y210 : σ198 88 17 = σ183 88 17 := ((hGσ198 88 17 (show ¬ ((88 = 89 ∧ 17 < 100) ∨ (90 ≤ 88 ∧ 88 < 93)) from by omega))).trans (tw_ne1 eσ186 (by omega))
            have y211 : σ198 88 17 = σ183 88 17 := ((hGσ198 88 17 (show ¬ ((88 = 89 ∧ 17 < 100) ∨ (90 ≤ 88 ∧ 88 < 93)) from by omega))).trans (tw_ne1 eσ186 (by omega))
            have y212 : σ198 88 17 = σ183 88 17 := ((hGσ198 88 17 (show ¬ ((88 = 89 ∧ 17 < 100) ∨ (90 ≤ 88 ∧ 88 < 93)) from by omega))).trans (tw_ne1 eσ186 (by omega))
            exact j_iret (pc := 92) ⟨rfl, rfl⟩ dX12_text_92 rfl ⟨_, rfl, ⟨by omega, by omega⟩, hIσ198, hFσ198, (by first | exact q199_0 | exact mI_kept i1 (fun j hj => rfl) (fun j => rfl) (rfl) hIτ), by omega, (by rw [← pm]; first | exact (mtxt_f (by omega)).symm | exact (mtxt_t (by omega)).symm | (rw [mtxt_f (by omega)]; omega) | (rw [mtxt_t (by omega)]; omega)), (by rw [← pm]; show _ = (aM _) 4; rw [aM_4]; omega), by omega, by omega, by omega, by omega, by omega, fin⟩
          · refine j_bipush (pc := 79) dX12_text_79 rfl ?_
            refine j_aload_n (pc := 81) dX12_text_81 rfl rfl ?_
            refine j_getI (pc := 82) fl_X12_97 dX12_text_82 (a_88 hM) rfl ?_
            refine j_topV (show σ186 88 18 = σ183 88 18 from (tw_ne1 eσ186 (by omega))) ?_
            have f213 : (0 : Int) ≤ σ183 88 18 ∧ σ183 88 18 ≤ 400 := hIσ183 88 18
            refine j_isub (pc := 85) dX12_text_85 ?_
            have fin : (σ186 88 17 = 0 ∧ wM σ186 = pwB (parse (fM σ)).1 ∧ (∀ j : Nat, j < 11 → σ186 89 (82 + j) = (parse (fM σ)).1 (200 + j)) ∧ (∀ j : Nat, j < 82 → σ186 89 j = 0) ∧ σ186 91 5 = (parse (fM σ)).1 105 ∧ σ186 91 6 = (parse (fM σ)).1 106) ∨ (¬ σ186 88 17 = 0 ∧ ∀ c j : Nat, 89 ≤ c → c < 93 → σ186 c j = σ c j) := Or.inr ⟨by omega, fun c j a b => (tw_ne1 eσ186 (by omega)).trans ((hGσ183 c j (show ¬ ((c = 88 ∧ (j = 17 ∨ j = 18))) from by omega)).trans (i11 c j a b))⟩
            have y214 : σ186 88 12 = 0 := (tw_eq1 eσ186)
            have y215 : σ186 88 17 = σ183 88 17 := (tw_ne1 eσ186 (by omega))
            have y216 : σ186 88 17 = σ183 88 17 := (tw_ne1 eσ186 (by omega))
            have y217 : σ186 90 0 = τ 90 0 := ((tw_ne1 eσ186 (by omega))).trans (hGσ183 90 0 (show ¬ ((90 = 88 ∧ (0 = 17 ∨ 0 = 18))) from by omega))
            have f218 : (0 : Int) ≤ τ 90 0 ∧ τ 90 0 ≤ 1 := hIτ 90 0
            have y219 : σ186 90 1 = τ 90 1 := ((tw_ne1 eσ186 (by omega))).trans (hGσ183 90 1 (show ¬ ((90 = 88 ∧ (1 = 17 ∨ 1 = 18))) from by omega))
            have f220 : (0 : Int) ≤ τ 90 1 ∧ τ 90 1 ≤ 1 := hIτ 90 1
            have y221 : σ186 88 17 = σ183 88 17 := (tw_ne1 eσ186 (by omega))
            have y222 : σ186 89 93 = τ 89 93 := ((tw_ne1 eσ186 (by omega))).trans (hGσ183 89 93 (show ¬ ((89 = 88 ∧ (93 = 17 ∨ 93 = 18))) from by omega))
            have f223 : (0 : Int) ≤ τ 89 93 ∧ τ 89 93 ≤ 999 := hIτ 89 93
            have y224 : σ186 88 17 = σ183 88 17 := (tw_ne1 eσ186 (by omega))
            have y225 : σ186 89 94 = τ 89 94 := ((tw_ne1 eσ186 (by omega))).trans (hGσ183 89 94 (show ¬ ((89 = 88 ∧ (94 = 17 ∨ 94 = 18))) from by omega))
            have f226 : (-2147483648 : Int) ≤ τ 89 94 ∧ τ 89 94 ≤ 2147483647 := hIτ 89 94
            have y227 : σ186 88 17 = σ183 88 17 := (tw_ne1 eσ186 (by omega))
            have y228 : σ186 89 95 = τ 89 95 := ((tw_ne1 eσ186 (by omega))).trans (hGσ183 89 95 (show ¬ ((89 = 88 ∧ (95 = 17 ∨ 95 = 18))) from by omega))
            have f229 : (0 : Int) ≤ τ 89 95 ∧ τ 89 95 ≤ 999 := hIτ 89 95
            have y230 : σ186 88 17 = σ183 88 17 := (tw_ne1 eσ186 (by omega))
            have y231 : σ186 89 96 = τ 89 96 := ((tw_ne1 eσ186 (by omega))).trans (hGσ183 89 96 (show ¬ ((89 = 88 ∧ (96 = 17 ∨ 96 = 18))) from by omega))
            have f232 : (-2147483648 : Int) ≤ τ 89 96 ∧ τ 89 96 ≤ 2147483647 := hIτ 89 96
            have y233 : σ186 88 17 = σ183 88 17 := (tw_ne1 eσ186 (by omega))
            have y234 : σ186 89 ((82 + j)) = τ 89 ((82 + j)) := ((tw_ne1 eσ186 (by omega))).trans (hGσ183 89 ((82 + j)) (show ¬ ((89 = 88 ∧ ((82 + j) = 17 ∨ (82 + j) = 18))) from by omega))
            have y235 : σ186 91 5 = τ 91 5 := ((tw_ne1 eσ186 (by omega))).trans (hGσ183 91 5 (show ¬ ((91 = 88 ∧ (5 = 17 ∨ 5 = 18))) from by omega))
            have f236 : (-2147483648 : Int) ≤ τ 91 5 ∧ τ 91 5 ≤ 2147483647 := hIτ 91 5
            have y237 : σ186 91 6 = τ 91 6 := ((tw_ne1 eσ186 (by omega))).trans (hGσ183 91 6 (show ¬ ((91 = 88 ∧ (6 = 17 ∨ 6 = 18))) from by omega))
            have f238 : (-2147483648 : Int) ≤ τ 91 6 ∧ τ 91 6 ≤ 2147483647 := hIτ 91 6
            exact j_iret (pc := 86) ⟨rfl, rfl⟩ dX12_text_86 rfl ⟨_, rfl, ⟨by omega, by omega⟩, hIσ186, hFσ186, (by first | exact q184_0 | exact mI_kept i1 (fun j hj => ((tw_ne1 eσ186 (by omega))).trans (hGσ183 89 j (show ¬ ((89 = 88 ∧ (j = 17 ∨ j = 18))) from by omega))) (fun j => ((tw_ne1 eσ186 (by omega))).trans (hGσ183 90 j (show ¬ ((90 = 88 ∧ (j = 17 ∨ j = 18))) from by omega))) (((tw_ne1 eσ186 (by omega))).trans (hGσ183 91 0 (show ¬ ((91 = 88 ∧ (0 = 17 ∨ 0 = 18))) from by omega))) hIτ), by omega, (by rw [← pm]; first | exact (mtxt_f (by omega)).symm | exact (mtxt_t (by omega)).symm | (rw [mtxt_f (by omega)]; omega) | (rw [mtxt_t (by omega)]; omega)), (by rw [← pm]; show _ = (aM _) 4; rw [aM_4]; omega), by omega, by omega, by omega, by omega, by omega, fin⟩
      · refine j_aload_n (pc := 34) dX12_text_34 rfl rfl ?_
        refine j_callV (pc := 35) (As := []) (st := []) (c_X12_readLine hM τ hIτ i0 (by omega) (by rw [fx]; exact hq1)) mv_X12_161 rfl rfl rfl (a_88 hM) dX12_text_35 ⟨Nat.le_of_ble_eq_true rfl, Nat.le_of_ble_eq_true rfl⟩ ⟨Nat.le_refl _, Nat.le_refl _⟩ rfl (Nat.le_of_ble_eq_true rfl) rfl (fun z239 σ240 hz239 => ?_)
        obtain ⟨rfl, hIσ240, hGσ240, q241_0, q241_1, q241_2, q241_3⟩ := hz239
        replace q241_0 : DQ σ240 := q241_0
        replace q241_1 : τ 88 13 ≤ σ240 88 13 := q241_1
        replace q241_2 : ¬ σ240 88 17 = 0 ∨ σ240 88 15 = 0 ∨ τ 88 13 < σ240 88 13 := q241_2
        replace q241_3 : aM σ240 = lineM (fM τ) (aM τ) := q241_3
        have hFσ240 : tw_F (fun c j => (c = 88 ∧ (j = 9 ∨ j = 10 ∨ j = 12 ∨ j = 13 ∨ j = 14 ∨ j = 15 ∨ j = 16 ∨ j = 17 ∨ j = 18)) ∨ (c = 89 ∧ j < 100) ∨ (90 ≤ c ∧ c < 98)) σ σ240 := tw_F_tr hFτ hGσ240 (fun c j q => (show (c = 88 ∧ (j = 9 ∨ j = 10 ∨ j = 12 ∨ j = 13 ∨ j = 14 ∨ j = 15 ∨ j = 16 ∨ j = 17 ∨ j = 18)) ∨ (c = 89 ∧ j < 100) ∨ (90 ≤ c ∧ c < 98) from by replace q : (c = 88 ∧ (j = 9 ∨ j = 10 ∨ j = 13 ∨ j = 14 ∨ j = 15 ∨ j = 16 ∨ j = 17 ∨ j = 18)) ∨ (93 ≤ c ∧ c < 98) := q; omega))
        refine j_st (st' := []) rfl ?_
        skip
        skip
        skip
        have y1 : σ240 88 17 = σ240 88 17 := by first | rfl | exact tw_ne1 _ (by omega)
        have y2 : σ240 88 15 = σ240 88 15 := by first | rfl | exact tw_ne1 _ (by omega)
        have y3 : σ240 88 13 = σ240 88 13 := by first | rfl | exact tw_ne1 _ (by omega)
        have y4 : (0 : Int) ≤ σ240 88 13 ∧ σ240 88 13 ≤ 400 := hIσ240 88 13
        have lt9 := mTx_lt (f := τ 88 17) (s := τ 88 15) (p := τ 88 13) (f2 := σ240 88 17) (s2 := σ240 88 15) (p2 := σ240 88 13) (by omega) (by omega) (by omega) (by omega) (by omega)
        have cl2 : aM σ240 = lineX (fM σ) (aM τ) := by (have q := q241_3); rw [fx] at q; exact q.trans (line_XM hq1).symm
        refine j_iinc (pc := 38) (i := 1) (n := 1) (ls' := [(0, vR 88), (1, vI (m + 1))]) [1, 0] dX12_text_38 rfl (Nat.le_of_ble_eq_true rfl) rfl rfl ?_
        refine j_goto (pc := 41) (tgt := 20) dX12_text_41 rfl ?_
        refine j_ls (ls' := [(0, vR 88), (1, vI (m + 1))]) [0, 1] rfl ?_
        have y243 : σ240 88 12 = τ 88 12 := (hGσ240 88 12 (show ¬ ((88 = 88 ∧ (12 = 9 ∨ 12 = 10 ∨ 12 = 13 ∨ 12 = 14 ∨ 12 = 15 ∨ 12 = 16 ∨ 12 = 17 ∨ 12 = 18)) ∨ (93 ≤ 88 ∧ 88 < 98)) from by omega))
        have f244 : (0 : Int) ≤ τ 88 12 ∧ τ 88 12 ≤ 400 := hIτ 88 12
        have y245 : σ240 90 0 = τ 90 0 := (hGσ240 90 0 (show ¬ ((90 = 88 ∧ (0 = 9 ∨ 0 = 10 ∨ 0 = 13 ∨ 0 = 14 ∨ 0 = 15 ∨ 0 = 16 ∨ 0 = 17 ∨ 0 = 18)) ∨ (93 ≤ 90 ∧ 90 < 98)) from by omega))
        have f246 : (0 : Int) ≤ τ 90 0 ∧ τ 90 0 ≤ 1 := hIτ 90 0
        have y247 : σ240 90 1 = τ 90 1 := (hGσ240 90 1 (show ¬ ((90 = 88 ∧ (1 = 9 ∨ 1 = 10 ∨ 1 = 13 ∨ 1 = 14 ∨ 1 = 15 ∨ 1 = 16 ∨ 1 = 17 ∨ 1 = 18)) ∨ (93 ≤ 90 ∧ 90 < 98)) from by omega))
        have f248 : (0 : Int) ≤ τ 90 1 ∧ τ 90 1 ≤ 1 := hIτ 90 1
        have y249 : σ240 89 93 = τ 89 93 := (hGσ240 89 93 (show ¬ ((89 = 88 ∧ (93 = 9 ∨ 93 = 10 ∨ 93 = 13 ∨ 93 = 14 ∨ 93 = 15 ∨ 93 = 16 ∨ 93 = 17 ∨ 93 = 18)) ∨ (93 ≤ 89 ∧ 89 < 98)) from by omega))
        have f250 : (0 : Int) ≤ τ 89 93 ∧ τ 89 93 ≤ 999 := hIτ 89 93
        have y251 : σ240 89 94 = τ 89 94 := (hGσ240 89 94 (show ¬ ((89 = 88 ∧ (94 = 9 ∨ 94 = 10 ∨ 94 = 13 ∨ 94 = 14 ∨ 94 = 15 ∨ 94 = 16 ∨ 94 = 17 ∨ 94 = 18)) ∨ (93 ≤ 89 ∧ 89 < 98)) from by omega))
        have f252 : (-2147483648 : Int) ≤ τ 89 94 ∧ τ 89 94 ≤ 2147483647 := hIτ 89 94
        have y253 : σ240 89 95 = τ 89 95 := (hGσ240 89 95 (show ¬ ((89 = 88 ∧ (95 = 9 ∨ 95 = 10 ∨ 95 = 13 ∨ 95 = 14 ∨ 95 = 15 ∨ 95 = 16 ∨ 95 = 17 ∨ 95 = 18)) ∨ (93 ≤ 89 ∧ 89 < 98)) from by omega))
        have f254 : (0 : Int) ≤ τ 89 95 ∧ τ 89 95 ≤ 999 := hIτ 89 95
        have y255 : σ240 89 96 = τ 89 96 := (hGσ240 89 96 (show ¬ ((89 = 88 ∧ (96 = 9 ∨ 96 = 10 ∨ 96 = 13 ∨ 96 = 14 ∨ 96 = 15 ∨ 96 = 16 ∨ 96 = 17 ∨ 96 = 18)) ∨ (93 ≤ 89 ∧ 89 < 98)) from by omega))
        have f256 : (-2147483648 : Int) ≤ τ 89 96 ∧ τ 89 96 ≤ 2147483647 := hIτ 89 96
        exact ih (m + 1) ⟨by omega, by omega⟩ σ240 hIσ240 hFσ240 (show DQ σ240 from q241_0) (show mI σ240 from mI_kept i1 (fun j hj => (hGσ240 89 j (show ¬ ((89 = 88 ∧ (j = 9 ∨ j = 10 ∨ j = 13 ∨ j = 14 ∨ j = 15 ∨ j = 16 ∨ j = 17 ∨ j = 18)) ∨ (93 ≤ 89 ∧ 89 < 98)) from by omega))) (fun j => (hGσ240 90 j (show ¬ ((90 = 88 ∧ (j = 9 ∨ j = 10 ∨ j = 13 ∨ j = 14 ∨ j = 15 ∨ j = 16 ∨ j = 17 ∨ j = 18)) ∨ (93 ≤ 90 ∧ 90 < 98)) from by omega))) ((hGσ240 91 0 (show ¬ ((91 = 88 ∧ (0 = 9 ∨ 0 = 10 ∨ 0 = 13 ∨ 0 = 14 ∨ 0 = 15 ∨ 0 = 16 ∨ 0 = 17 ∨ 0 = 18)) ∨ (93 ≤ 91 ∧ 91 < 98)) from by omega))) hIτ) (show (m + 1) ≤ σ240 88 13 ∨ ((¬ σ240 88 17 = 0 ∨ σ240 88 15 = 0) ∧ (m + 1) ≤ σ240 88 13 + 1) from by omega) (show σ240 88 12 = σ 88 12 from by omega) (show itK lstop (lstep (fM σ)) (500 - (m + 1)).toNat (aM σ240, (m + 1)) = lns (fM σ) from (mlns_s i4 ⟨by omega, by omega⟩ (by omega) (by omega) cl2 rfl)) (show σ240 90 0 = σ 90 0 from by omega) (show σ240 90 1 = σ 90 1 from by omega) (show σ240 89 93 = σ 89 93 from by omega) (show σ240 89 94 = σ 89 94 from by omega) (show σ240 89 95 = σ 89 95 from by omega) (show σ240 89 96 = σ 89 96 from by omega) (show ∀ c j : Nat, 89 ≤ c → c < 93 → σ240 c j = σ c j from (fun c j a b => (hGσ240 c j (show ¬ ((c = 88 ∧ (j = 9 ∨ j = 10 ∨ j = 13 ∨ j = 14 ∨ j = 15 ∨ j = 16 ∨ j = 17 ∨ j = 18)) ∨ (93 ≤ c ∧ c < 98)) from by omega)).trans (i11 c j a b))) (show (mTx (σ240 88 17) (σ240 88 15) (σ240 88 13)).toNat < N_ from by omega)
set_option maxHeartbeats 4000000 in
set_option maxRecDepth 100000 in
theorem c_X12_text {G : tw_G} (hM : tw_isM G) (σ : tw_M) (hI : tw_I σ) (hq0 : mI σ) (hq1 : FB (fM σ)) : tw_C G yX12_text cX12_text 2 (some .int) 5 [vR 88] σ (q_X12_text σ) := by
  refine tw_met [(0, vR 88)] (by decide +kernel) rfl (Nat.le_of_ble_eq_true rfl) ?_
  refine j_iconst (pc := 0) dX12_text_0 ?_
  refine j_istore_n (pc := 1) (i := 1) (ls' := [(0, vR 88), (1, vI 0)]) [1, 0] dX12_text_1 rfl (Nat.le_of_ble_eq_true rfl) rfl rfl ?_
  refine j_aload_n (pc := 2) dX12_text_2 rfl rfl ?_
  refine j_iconst (pc := 3) dX12_text_3 ?_
  refine j_putI (pc := 4) fl_X12_91 fp_X12_17 dX12_text_4 (a_88 hM) rfl (j_nm (fun σ257 (eσ257 : σ257 = tw_up σ 88 17 0) => ?_))
  have hIσ257 : tw_I σ257 := tw_I_up hI eσ257 (show (0 : Int) ≤ 0 ∧ 0 ≤ 5 from ⟨by omega, by omega⟩)
  have hFσ257 : tw_F (fun c j => (c = 88 ∧ (j = 9 ∨ j = 10 ∨ j = 12 ∨ j = 13 ∨ j = 14 ∨ j = 15 ∨ j = 16 ∨ j = 17 ∨ j = 18)) ∨ (c = 89 ∧ j < 100) ∨ (90 ≤ c ∧ c < 98)) σ σ257 := tw_F_up (tw_F_rf) eσ257 (show (88 = 88 ∧ (17 = 9 ∨ 17 = 10 ∨ 17 = 12 ∨ 17 = 13 ∨ 17 = 14 ∨ 17 = 15 ∨ 17 = 16 ∨ 17 = 17 ∨ 17 = 18)) ∨ (88 = 89 ∧ 17 < 100) ∨ (90 ≤ 88 ∧ 88 < 98) from by omega)
  refine j_aload_n (pc := 7) dX12_text_7 rfl rfl ?_
  refine j_iconst (pc := 8) dX12_text_8 ?_
  refine j_putI (pc := 9) fl_X12_100 fp_X12_13 dX12_text_9 (a_88 hM) rfl (j_nm (fun σ258 (eσ258 : σ258 = tw_up σ257 88 13 0) => ?_))
  have hIσ258 : tw_I σ258 := tw_I_up hIσ257 eσ258 (show (0 : Int) ≤ 0 ∧ 0 ≤ 400 from ⟨by omega, by omega⟩)
  have hFσ258 : tw_F (fun c j => (c = 88 ∧ (j = 9 ∨ j = 10 ∨ j = 12 ∨ j = 13 ∨ j = 14 ∨ j = 15 ∨ j = 16 ∨ j = 17 ∨ j = 18)) ∨ (c = 89 ∧ j < 100) ∨ (90 ≤ c ∧ c < 98)) σ σ258 := tw_F_up hFσ257 eσ258 (show (88 = 88 ∧ (13 = 9 ∨ 13 = 10 ∨ 13 = 12 ∨ 13 = 13 ∨ 13 = 14 ∨ 13 = 15 ∨ 13 = 16 ∨ 13 = 17 ∨ 13 = 18)) ∨ (88 = 89 ∧ 13 < 100) ∨ (90 ≤ 88 ∧ 88 < 98) from by omega)
  refine j_aload_n (pc := 12) dX12_text_12 rfl rfl ?_
  refine j_callV (pc := 13) (As := []) (st := []) (c_X12_firstDraft hM σ258 hIσ258) mv_X12_65 rfl rfl rfl (a_88 hM) dX12_text_13 ⟨Nat.le_of_ble_eq_true rfl, Nat.le_of_ble_eq_true rfl⟩ ⟨Nat.le_refl _, Nat.le_refl _⟩ rfl (Nat.le_of_ble_eq_true rfl) rfl (fun z259 σ260 hz259 => ?_)
  obtain ⟨rfl, hIσ260, hGσ260, q261_0, q261_1⟩ := hz259
  replace q261_0 : DR σ260 := q261_0
  replace q261_1 : drM σ260 = D0 := q261_1
  have hFσ260 : tw_F (fun c j => (c = 88 ∧ (j = 9 ∨ j = 10 ∨ j = 12 ∨ j = 13 ∨ j = 14 ∨ j = 15 ∨ j = 16 ∨ j = 17 ∨ j = 18)) ∨ (c = 89 ∧ j < 100) ∨ (90 ≤ c ∧ c < 98)) σ σ260 := tw_F_tr hFσ258 hGσ260 (fun c j q => (show (c = 88 ∧ (j = 9 ∨ j = 10 ∨ j = 12 ∨ j = 13 ∨ j = 14 ∨ j = 15 ∨ j = 16 ∨ j = 17 ∨ j = 18)) ∨ (c = 89 ∧ j < 100) ∨ (90 ≤ c ∧ c < 98) from by replace q : (c = 88 ∧ (j = 9 ∨ j = 10)) ∨ (93 ≤ c ∧ c < 98) := q; omega))
  refine j_st (st' := []) rfl ?_
  have y263 : σ260 88 13 = 0 := ((hGσ260 88 13 (show ¬ ((88 = 88 ∧ (13 = 9 ∨ 13 = 10)) ∨ (93 ≤ 88 ∧ 88 < 98)) from by omega))).trans (tw_eq1 eσ258)
  have y264 : σ260 88 17 = 0 := (((hGσ260 88 17 (show ¬ ((88 = 88 ∧ (17 = 9 ∨ 17 = 10)) ∨ (93 ≤ 88 ∧ 88 < 98)) from by omega))).trans (tw_ne1 eσ258 (by omega))).trans (tw_eq1 eσ257)
  have d0 := q261_1
  have fz : fM σ260 = fM σ := fM_F ((((hGσ260 88 12 (show ¬ ((88 = 88 ∧ (12 = 9 ∨ 12 = 10)) ∨ (93 ≤ 88 ∧ 88 < 98)) from by omega))).trans (tw_ne1 eσ258 (by omega))).trans (tw_ne1 eσ257 (by omega))) (fun j => (((hGσ260 98 j (show ¬ ((98 = 88 ∧ (j = 9 ∨ j = 10)) ∨ (93 ≤ 98 ∧ 98 < 98)) from by omega))).trans (tw_ne1 eσ258 (by omega))).trans (tw_ne1 eσ257 (by omega)))
  have a0 : aM σ260 = ok 0 (σ260 88 14) (σ260 88 15) (σ260 88 16) D0 := by rw [aM_ok (by omega), d0, show σ260 88 13 = 0 from by omega]
  refine j_aload_n (pc := 16) dX12_text_16 rfl rfl ?_
  refine j_callV (pc := 17) (As := []) (st := []) (c_X12_next hM σ260 hIσ260) mv_X12_137 rfl rfl rfl (a_88 hM) dX12_text_17 ⟨Nat.le_of_ble_eq_true rfl, Nat.le_of_ble_eq_true rfl⟩ ⟨Nat.le_refl _, Nat.le_refl _⟩ rfl (Nat.le_of_ble_eq_true rfl) rfl (fun z265 σ266 hz265 => ?_)
  obtain ⟨rfl, hIσ266, hGσ266, q267_0, q267_1, q267_2, q267_3⟩ := hz265
  replace q267_0 : ¬ σ266 88 17 = 0 ∨ σ260 88 17 = 0 := q267_0
  have y269 : σ260 88 17 = 0 := (((hGσ260 88 17 (show ¬ ((88 = 88 ∧ (17 = 9 ∨ 17 = 10)) ∨ (93 ≤ 88 ∧ 88 < 98)) from by omega))).trans (tw_ne1 eσ258 (by omega))).trans (tw_eq1 eσ257)
  replace q267_1 : σ260 88 13 ≤ σ266 88 13 := q267_1
  have y270 : σ260 88 13 = 0 := ((hGσ260 88 13 (show ¬ ((88 = 88 ∧ (13 = 9 ∨ 13 = 10)) ∨ (93 ≤ 88 ∧ 88 < 98)) from by omega))).trans (tw_eq1 eσ258)
  replace q267_2 : ¬ σ266 88 17 = 0 ∨ σ266 88 15 = 0 ∨ σ260 88 13 < σ266 88 13 := q267_2
  have y271 : σ260 88 13 = 0 := ((hGσ260 88 13 (show ¬ ((88 = 88 ∧ (13 = 9 ∨ 13 = 10)) ∨ (93 ≤ 88 ∧ 88 < 98)) from by omega))).trans (tw_eq1 eσ258)
  replace q267_3 : aM σ266 = tok (fM σ260) (aM σ260) := q267_3
  have hFσ266 : tw_F (fun c j => (c = 88 ∧ (j = 9 ∨ j = 10 ∨ j = 12 ∨ j = 13 ∨ j = 14 ∨ j = 15 ∨ j = 16 ∨ j = 17 ∨ j = 18)) ∨ (c = 89 ∧ j < 100) ∨ (90 ≤ c ∧ c < 98)) σ σ266 := tw_F_tr hFσ260 hGσ266 (fun c j q => (show (c = 88 ∧ (j = 9 ∨ j = 10 ∨ j = 12 ∨ j = 13 ∨ j = 14 ∨ j = 15 ∨ j = 16 ∨ j = 17 ∨ j = 18)) ∨ (c = 89 ∧ j < 100) ∨ (90 ≤ c ∧ c < 98) from by replace q : (c = 88 ∧ (j = 13 ∨ j = 14 ∨ j = 15 ∨ j = 16 ∨ j = 17 ∨ j = 18)) := q; omega))
  refine j_st (st' := []) rfl ?_
  refine j_ls (ls' := [(0, vR 88), (1, vI 0)]) [0, 1] rfl ?_
  have y272 : σ266 88 12 = σ 88 12 := ((((hGσ266 88 12 (show ¬ ((88 = 88 ∧ (12 = 13 ∨ 12 = 14 ∨ 12 = 15 ∨ 12 = 16 ∨ 12 = 17 ∨ 12 = 18))) from by omega))).trans (hGσ260 88 12 (show ¬ ((88 = 88 ∧ (12 = 9 ∨ 12 = 10)) ∨ (93 ≤ 88 ∧ 88 < 98)) from by omega))).trans (tw_ne1 eσ258 (by omega))).trans (tw_ne1 eσ257 (by omega))
  have f273 : (0 : Int) ≤ σ 88 12 ∧ σ 88 12 ≤ 400 := hI 88 12
  have y274 : σ266 90 0 = σ 90 0 := ((((hGσ266 90 0 (show ¬ ((90 = 88 ∧ (0 = 13 ∨ 0 = 14 ∨ 0 = 15 ∨ 0 = 16 ∨ 0 = 17 ∨ 0 = 18))) from by omega))).trans (hGσ260 90 0 (show ¬ ((90 = 88 ∧ (0 = 9 ∨ 0 = 10)) ∨ (93 ≤ 90 ∧ 90 < 98)) from by omega))).trans (tw_ne1 eσ258 (by omega))).trans (tw_ne1 eσ257 (by omega))
  have f275 : (0 : Int) ≤ σ 90 0 ∧ σ 90 0 ≤ 1 := hI 90 0
  have y276 : σ266 90 1 = σ 90 1 := ((((hGσ266 90 1 (show ¬ ((90 = 88 ∧ (1 = 13 ∨ 1 = 14 ∨ 1 = 15 ∨ 1 = 16 ∨ 1 = 17 ∨ 1 = 18))) from by omega))).trans (hGσ260 90 1 (show ¬ ((90 = 88 ∧ (1 = 9 ∨ 1 = 10)) ∨ (93 ≤ 90 ∧ 90 < 98)) from by omega))).trans (tw_ne1 eσ258 (by omega))).trans (tw_ne1 eσ257 (by omega))
  have f277 : (0 : Int) ≤ σ 90 1 ∧ σ 90 1 ≤ 1 := hI 90 1
  have y278 : σ266 89 93 = σ 89 93 := ((((hGσ266 89 93 (show ¬ ((89 = 88 ∧ (93 = 13 ∨ 93 = 14 ∨ 93 = 15 ∨ 93 = 16 ∨ 93 = 17 ∨ 93 = 18))) from by omega))).trans (hGσ260 89 93 (show ¬ ((89 = 88 ∧ (93 = 9 ∨ 93 = 10)) ∨ (93 ≤ 89 ∧ 89 < 98)) from by omega))).trans (tw_ne1 eσ258 (by omega))).trans (tw_ne1 eσ257 (by omega))
  have f279 : (0 : Int) ≤ σ 89 93 ∧ σ 89 93 ≤ 999 := hI 89 93
  have y280 : σ266 89 94 = σ 89 94 := ((((hGσ266 89 94 (show ¬ ((89 = 88 ∧ (94 = 13 ∨ 94 = 14 ∨ 94 = 15 ∨ 94 = 16 ∨ 94 = 17 ∨ 94 = 18))) from by omega))).trans (hGσ260 89 94 (show ¬ ((89 = 88 ∧ (94 = 9 ∨ 94 = 10)) ∨ (93 ≤ 89 ∧ 89 < 98)) from by omega))).trans (tw_ne1 eσ258 (by omega))).trans (tw_ne1 eσ257 (by omega))
  have f281 : (-2147483648 : Int) ≤ σ 89 94 ∧ σ 89 94 ≤ 2147483647 := hI 89 94
  have y282 : σ266 89 95 = σ 89 95 := ((((hGσ266 89 95 (show ¬ ((89 = 88 ∧ (95 = 13 ∨ 95 = 14 ∨ 95 = 15 ∨ 95 = 16 ∨ 95 = 17 ∨ 95 = 18))) from by omega))).trans (hGσ260 89 95 (show ¬ ((89 = 88 ∧ (95 = 9 ∨ 95 = 10)) ∨ (93 ≤ 89 ∧ 89 < 98)) from by omega))).trans (tw_ne1 eσ258 (by omega))).trans (tw_ne1 eσ257 (by omega))
  have f283 : (0 : Int) ≤ σ 89 95 ∧ σ 89 95 ≤ 999 := hI 89 95
  have y284 : σ266 89 96 = σ 89 96 := ((((hGσ266 89 96 (show ¬ ((89 = 88 ∧ (96 = 13 ∨ 96 = 14 ∨ 96 = 15 ∨ 96 = 16 ∨ 96 = 17 ∨ 96 = 18))) from by omega))).trans (hGσ260 89 96 (show ¬ ((89 = 88 ∧ (96 = 9 ∨ 96 = 10)) ∨ (93 ≤ 89 ∧ 89 < 98)) from by omega))).trans (tw_ne1 eσ258 (by omega))).trans (tw_ne1 eσ257 (by omega))
  have f285 : (-2147483648 : Int) ≤ σ 89 96 ∧ σ 89 96 ≤ 2147483647 := hI 89 96
  exact (l_X12_text hM σ hI hq0 hq1 (((mTx (σ266 88 17) (σ266 88 15) (σ266 88 13)).toNat) + 1)) 0 ⟨by omega, by omega⟩ σ266 hIσ266 hFσ266 (show DQ σ266 from (Or.inr (DR_F q261_0 (fun j => hGσ266 93 j (show ¬ ((93 = 88 ∧ (j = 13 ∨ j = 14 ∨ j = 15 ∨ j = 16 ∨ j = 17 ∨ j = 18))) from by omega)) (fun j => hGσ266 94 j (show ¬ ((94 = 88 ∧ (j = 13 ∨ j = 14 ∨ j = 15 ∨ j = 16 ∨ j = 17 ∨ j = 18))) from by omega))))) (show mI σ266 from mI_kept hq0 (fun j hj => ((((hGσ266 89 j (show ¬ ((89 = 88 ∧ (j = 13 ∨ j = 14 ∨ j = 15 ∨ j = 16 ∨ j = 17 ∨ j = 18))) from by omega))).trans (hGσ260 89 j (show ¬ ((89 = 88 ∧ (j = 9 ∨ j = 10)) ∨ (93 ≤ 89 ∧ 89 < 98)) from by omega))).trans (tw_ne1 eσ258 (by omega))).trans (tw_ne1 eσ257 (by omega))) (fun j => ((((hGσ266 90 j (show ¬ ((90 = 88 ∧ (j = 13 ∨ j = 14 ∨ j = 15 ∨ j = 16 ∨ j = 17 ∨ j = 18))) from by omega))).trans (hGσ260 90 j (show ¬ ((90 = 88 ∧ (j = 9 ∨ j = 10)) ∨ (93 ≤ 90 ∧ 90 < 98)) from by omega))).trans (tw_ne1 eσ258 (by omega))).trans (tw_ne1 eσ257 (by omega))) (((((hGσ266 91 0 (show ¬ ((91 = 88 ∧ (0 = 13 ∨ 0 = 14 ∨ 0 = 15 ∨ 0 = 16 ∨ 0 = 17 ∨ 0 = 18))) from by omega))).trans (hGσ260 91 0 (show ¬ ((91 = 88 ∧ (0 = 9 ∨ 0 = 10)) ∨ (93 ≤ 91 ∧ 91 < 98)) from by omega))).trans (tw_ne1 eσ258 (by omega))).trans (tw_ne1 eσ257 (by omega))) hI) (show (0 : Int) ≤ σ266 88 13 ∨ ((¬ σ266 88 17 = 0 ∨ σ266 88 15 = 0) ∧ (0 : Int) ≤ σ266 88 13 + 1) from by omega) (show σ266 88 12 = σ 88 12 from by omega) (show itK lstop (lstep (fM σ)) (500 - (0 : Int)).toNat (aM σ266, (0 : Int)) = lns (fM σ) from (by (have cb := q267_3); rw [fz, a0] at cb; exact lns_0 cb rfl)) (show σ266 90 0 = σ 90 0 from by omega) (show σ266 90 1 = σ 90 1 from by omega) (show σ266 89 93 = σ 89 93 from by omega) (show σ266 89 94 = σ 89 94 from by omega) (show σ266 89 95 = σ 89 95 from by omega) (show σ266 89 96 = σ 89 96 from by omega) (show ∀ c j : Nat, 89 ≤ c → c < 93 → σ266 c j = σ c j from (fun c j a b => (hGσ266 c j (show ¬ ((c = 88 ∧ (j = 13 ∨ j = 14 ∨ j = 15 ∨ j = 16 ∨ j = 17 ∨ j = 18))) from by omega)).trans ((hGσ260 c j (show ¬ ((c = 88 ∧ (j = 9 ∨ j = 10)) ∨ (93 ≤ c ∧ c < 98)) from by omega)).trans ((tw_ne1 eσ258 (by omega)).trans (tw_ne1 eσ257 (by omega)))))) (Nat.lt_succ_self _)
