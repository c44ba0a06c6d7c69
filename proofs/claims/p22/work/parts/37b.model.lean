/-! 37b.model -/
theorem dX12_text_0 : decode cX12_text 0 = .ok (.iconst 0, 1) := by decide +kernel
theorem dX12_text_1 : decode cX12_text 1 = .ok (.istore_n 1, 1) := by decide +kernel
theorem dX12_text_2 : decode cX12_text 2 = .ok (.aload_n 0, 1) := by decide +kernel
theorem dX12_text_3 : decode cX12_text 3 = .ok (.iconst 0, 1) := by decide +kernel
theorem dX12_text_4 : decode cX12_text 4 = .ok (.putfield 91, 3) := by decide +kernel
theorem dX12_text_7 : decode cX12_text 7 = .ok (.aload_n 0, 1) := by decide +kernel
theorem dX12_text_8 : decode cX12_text 8 = .ok (.iconst 0, 1) := by decide +kernel
theorem dX12_text_9 : decode cX12_text 9 = .ok (.putfield 100, 3) := by decide +kernel
theorem dX12_text_12 : decode cX12_text 12 = .ok (.aload_n 0, 1) := by decide +kernel
theorem dX12_text_13 : decode cX12_text 13 = .ok (.invokevirtual 65, 3) := by decide +kernel
theorem dX12_text_16 : decode cX12_text 16 = .ok (.aload_n 0, 1) := by decide +kernel
theorem dX12_text_17 : decode cX12_text 17 = .ok (.invokevirtual 137, 3) := by decide +kernel
theorem dX12_text_20 : decode cX12_text 20 = .ok (.aload_n 0, 1) := by decide +kernel
theorem dX12_text_21 : decode cX12_text 21 = .ok (.getfield 91, 3) := by decide +kernel
theorem dX12_text_24 : decode cX12_text 24 = .ok (.ifCond .ne 20, 3) := by decide +kernel
theorem dX12_text_27 : decode cX12_text 27 = .ok (.aload_n 0, 1) := by decide +kernel
theorem dX12_text_28 : decode cX12_text 28 = .ok (.getfield 115, 3) := by decide +kernel
theorem dX12_text_31 : decode cX12_text 31 = .ok (.ifCond .eq 13, 3) := by decide +kernel
theorem dX12_text_34 : decode cX12_text 34 = .ok (.aload_n 0, 1) := by decide +kernel
theorem dX12_text_35 : decode cX12_text 35 = .ok (.invokevirtual 161, 3) := by decide +kernel
theorem dX12_text_38 : decode cX12_text 38 = .ok (.iinc 1 1, 3) := by decide +kernel
theorem dX12_text_41 : decode cX12_text 41 = .ok (.goto (-21), 3) := by decide +kernel
theorem dX12_text_44 : decode cX12_text 44 = .ok (.aload_n 0, 1) := by decide +kernel
theorem dX12_text_45 : decode cX12_text 45 = .ok (.aload_n 0, 1) := by decide +kernel
theorem dX12_text_46 : decode cX12_text 46 = .ok (.getfield 75, 3) := by decide +kernel
theorem dX12_text_49 : decode cX12_text 49 = .ok (.aload_n 0, 1) := by decide +kernel
theorem dX12_text_50 : decode cX12_text 50 = .ok (.getfield 23, 3) := by decide +kernel
theorem dX12_text_53 : decode cX12_text 53 = .ok (.iconst 0, 1) := by decide +kernel
theorem dX12_text_54 : decode cX12_text 54 = .ok (.iaload, 1) := by decide +kernel
theorem dX12_text_55 : decode cX12_text 55 = .ok (.if_icmp .gt 7, 3) := by decide +kernel
theorem dX12_text_58 : decode cX12_text 58 = .ok (.iconst 1, 1) := by decide +kernel
theorem dX12_text_59 : decode cX12_text 59 = .ok (.goto 4, 3) := by decide +kernel
theorem dX12_text_62 : decode cX12_text 62 = .ok (.iconst 0, 1) := by decide +kernel
theorem dX12_text_63 : decode cX12_text 63 = .ok (.iconst 5, 1) := by decide +kernel
theorem dX12_text_64 : decode cX12_text 64 = .ok (.invokevirtual 129, 3) := by decide +kernel
theorem dX12_text_67 : decode cX12_text 67 = .ok (.aload_n 0, 1) := by decide +kernel
theorem dX12_text_68 : decode cX12_text 68 = .ok (.iconst 0, 1) := by decide +kernel
theorem dX12_text_69 : decode cX12_text 69 = .ok (.putfield 86, 3) := by decide +kernel
theorem dX12_text_72 : decode cX12_text 72 = .ok (.aload_n 0, 1) := by decide +kernel
theorem dX12_text_73 : decode cX12_text 73 = .ok (.getfield 91, 3) := by decide +kernel
theorem dX12_text_76 : decode cX12_text 76 = .ok (.ifCond .le 11, 3) := by decide +kernel
theorem dX12_text_79 : decode cX12_text 79 = .ok (.bipush (-10), 2) := by decide +kernel
theorem dX12_text_81 : decode cX12_text 81 = .ok (.aload_n 0, 1) := by decide +kernel
theorem dX12_text_82 : decode cX12_text 82 = .ok (.getfield 97, 3) := by decide +kernel
theorem dX12_text_85 : decode cX12_text 85 = .ok (.isub, 1) := by decide +kernel
theorem dX12_text_86 : decode cX12_text 86 = .ok (.ireturn, 1) := by decide +kernel
theorem dX12_text_87 : decode cX12_text 87 = .ok (.aload_n 0, 1) := by decide +kernel
theorem dX12_text_88 : decode cX12_text 88 = .ok (.invokevirtual 68, 3) := by decide +kernel
theorem dX12_text_91 : decode cX12_text 91 = .ok (.iload_n 1, 1) := by decide +kernel
theorem dX12_text_92 : decode cX12_text 92 = .ok (.ireturn, 1) := by decide +kernel
abbrev q_X12_text  (σ : tw_M) : Option tw_V → tw_M → Prop := fun z τ => ∃ r : Int, z = some (vI r) ∧ (-2147483648 ≤ r ∧ r ≤ 2147483647) ∧ tw_I τ ∧ tw_F (fun c j => (c = 88 ∧ (j = 9 ∨ j = 10 ∨ j = 12 ∨ j = 13 ∨ j = 14 ∨ j = 15 ∨ j = 16 ∨ j = 17 ∨ j = 18)) ∨ (c = 89 ∧ j < 100) ∨ (90 ≤ c ∧ c < 98)) σ τ ∧ (mI τ) ∧ (τ 88 12 = 0) ∧ (r = txt (parse (fM σ))) ∧ (τ 88 17 = (parse (fM σ)).1 4) ∧ ((τ 88 17 = 0 ∧ τ 90 0 = 0 ∧ τ 90 1 = 0) ∨ (¬ τ 88 17 = 0 ∧ τ 90 0 = σ 90 0 ∧ τ 90 1 = σ 90 1)) ∧ ((τ 88 17 = 0 ∧ τ 89 93 = 0) ∨ (¬ τ 88 17 = 0 ∧ τ 89 93 = σ 89 93)) ∧ ((τ 88 17 = 0 ∧ τ 89 94 = 0) ∨ (¬ τ 88 17 = 0 ∧ τ 89 94 = σ 89 94)) ∧ ((τ 88 17 = 0 ∧ τ 89 95 = 0) ∨ (¬ τ 88 17 = 0 ∧ τ 89 95 = σ 89 95)) ∧ ((τ 88 17 = 0 ∧ τ 89 96 = 0) ∨ (¬ τ 88 17 = 0 ∧ τ 89 96 = σ 89 96)) ∧ ((τ 88 17 = 0 ∧ wM τ = pwB (parse (fM σ)).1 ∧ (∀ j : Nat, j < 11 → τ 89 (82 + j) = (parse (fM σ)).1 (200 + j)) ∧ (∀ j : Nat, j < 82 → τ 89 j = 0) ∧ τ 91 5 = (parse (fM σ)).1 105 ∧ τ 91 6 = (parse (fM σ)).1 106) ∨ (¬ τ 88 17 = 0 ∧ ∀ c j : Nat, 89 ≤ c → c < 93 → τ c j = σ c j))
set_option maxHeartbeats 4000000 in
set_option maxRecDepth 100000 in
theorem l_X12_text {G : tw_G} (hM : tw_isM G) (σ : tw_M) (hI : tw_I σ) (hq0 : mI σ) (hq1 : FB (fM σ)) : ∀ N_ : Nat, (∀ (m : Int) (hm : 0 ≤ m ∧ m ≤ 401) (τ : tw_M) (hIτ : tw_I τ) (hFτ : tw_F (fun c j => (c = 88 ∧ (j = 9 ∨ j = 10 ∨ j = 12 ∨ j = 13 ∨ j = 14 ∨ j = 15 ∨ j = 16 ∨ j = 17 ∨ j = 18)) ∨ (c = 89 ∧ j < 100) ∨ (90 ≤ c ∧ c < 98)) σ τ) (i0 : DQ τ) (i1 : mI τ) (i2 : m ≤ τ 88 13 ∨ ((¬ τ 88 17 = 0 ∨ τ 88 15 = 0) ∧ m ≤ τ 88 13 + 1)) (i3 : τ 88 12 = σ 88 12) (i4 : itK lstop (lstep (fM σ)) (500 - m).toNat (aM τ, m) = lns (fM σ)) (i5 : τ 90 0 = σ 90 0) (i6 : τ 90 1 = σ 90 1) (i7 : τ 89 93 = σ 89 93) (i8 : τ 89 94 = σ 89 94) (i9 : τ 89 95 = σ 89 95) (i10 : τ 89 96 = σ 89 96) (i11 : ∀ c j : Nat, 89 ≤ c → c < 93 → τ c j = σ c j) (hm : (mTx (τ 88 17) (τ 88 15) (τ 88 13)).toNat < N_), tw_J G (tw_mt RX12 cX12_text 2 (some .int) 5) (tw_E G (q_X12_text σ)) 20 [(0, vR 88), (1, vI m)] [] τ) := by
  intro N_
  induction N_ with
  | zero => exact fun m hm τ hIτ hFτ i0 i1 i2 i3 i4 i5 i6 i7 i8 i9 i10 i11 hm => absurd hm (Nat.not_lt_zero _)
  | succ N_ ih =>
    intro m hm τ hIτ hFτ i0 i1 i2 i3 i4 i5 i6 i7 i8 i9 i10 i11 hm
    have m9 := i1.2.2.2.2
    have fx : fM τ = fM σ := fM_F i3 (fun j => hFτ 98 j (show ¬ ((98 = 88 ∧ (j = 9 ∨ j = 10 ∨ j = 12 ∨ j = 13 ∨ j = 14 ∨ j = 15 ∨ j = 16 ∨ j = 17 ∨ j = 18)) ∨ (98 = 89 ∧ j < 100) ∨ (90 ≤ 98 ∧ 98 < 98)) from fun h => h.elim (fun h => absurd h.1 (by decide)) (fun h => h.elim (fun h => absurd h.1 (by decide)) (fun h => absurd h (by decide)))))
    refine j_aload_n (pc := 20) dX12_text_20 rfl rfl ?_
    refine j_getI (pc := 21) fl_X12_91 dX12_text_21 (a_88 hM) rfl ?_
    have f1 : (0 : Int) ≤ τ 88 17 ∧ τ 88 17 ≤ 5 := hIτ 88 17
    refine j_ifR_ne (pc := 24) (tgt := 44) ⟨by omega, by omega⟩ dX12_text_24 rfl (fun h2 => ?_) (fun h2 => ?_)
    · refine j_aload_n (pc := 44) dX12_text_44 rfl rfl ?_
      refine j_aload_n (pc := 45) dX12_text_45 rfl rfl ?_
      refine j_getI (pc := 46) fl_X12_75 dX12_text_46 (a_88 hM) rfl ?_
      have f3 : (0 : Int) ≤ τ 88 10 ∧ τ 88 10 ≤ 40 := hIτ 88 10
      refine j_aload_n (pc := 49) dX12_text_49 rfl rfl ?_
      refine j_getR (pc := 50) (r := 93) fl_X12_23 dX12_text_50 (a_88 hM) rfl ?_
      refine j_iconst (pc := 53) dX12_text_53 ?_
      refine j_iald (pc := 54) dX12_text_54 (a_93 hM) (by omega) (by omega) (by decide) ?_
      refine j_topV (show τ 93 (Int.toNat 0) = τ 93 0 from rfl) ?_
      have f4 : (-2147483648 : Int) ≤ τ 93 0 ∧ τ 93 0 ≤ 2147483647 := hIτ 93 0
      refine j_icmpR_gt (pc := 55) (tgt := 62) ⟨by omega, by omega⟩ ⟨by omega, by omega⟩ dX12_text_55 rfl (fun h5 => ?_) (fun h5 => ?_)
      · refine j_iconst (pc := 62) dX12_text_62 ?_
        refine j_iconst (pc := 63) dX12_text_63 ?_
        refine j_callV (pc := 64) (As := [vI 0, vI 5]) (st := []) (c_X12_needs hM 0 (by (first | decide | exact ⟨by omega, by omega⟩)) 5 (by (first | decide | exact ⟨by omega, by omega⟩)) τ hIτ) mv_X12_129 rfl rfl rfl (a_88 hM) dX12_text_64 ⟨Nat.le_of_ble_eq_true rfl, Nat.le_of_ble_eq_true rfl⟩ ⟨Nat.le_refl _, Nat.le_refl _⟩ rfl (Nat.le_of_ble_eq_true rfl) rfl (fun z6 σ7 hz6 => ?_)
        obtain ⟨rfl, hIσ7, hGσ7, q8_0, q8_1, q8_2⟩ := hz6
        replace q8_0 : (¬ (0 : Int) = 0 ∧ σ7 88 17 = τ 88 17) ∨ ((0 : Int) = 0 ∧ τ 88 17 = 0 ∧ σ7 88 17 = (5 : Int)) ∨ ((0 : Int) = 0 ∧ ¬ τ 88 17 = 0 ∧ σ7 88 17 = τ 88 17) := q8_0
        replace q8_1 : (¬ (0 : Int) = 0 ∧ σ7 88 17 = τ 88 17 ∧ σ7 88 18 = τ 88 18) ∨ ((0 : Int) = 0 ∧ τ 88 17 = 0 ∧ σ7 88 17 = (5 : Int) ∧ σ7 88 18 = τ 88 14) ∨ ((0 : Int) = 0 ∧ ¬ τ 88 17 = 0 ∧ σ7 88 17 = τ 88 17 ∧ σ7 88 18 = τ 88 18) := q8_1
        replace q8_2 : aM σ7 = need (decide (¬ (0 : Int) = 0)) (5 : Int) (aM τ) := q8_2
        have hFσ7 : tw_F (fun c j => (c = 88 ∧ (j = 9 ∨ j = 10 ∨ j = 12 ∨ j = 13 ∨ j = 14 ∨ j = 15 ∨ j = 16 ∨ j = 17 ∨ j = 18)) ∨ (c = 89 ∧ j < 100) ∨ (90 ≤ c ∧ c < 98)) σ σ7 := tw_F_tr hFτ hGσ7 (fun c j q => (show (c = 88 ∧ (j = 9 ∨ j = 10 ∨ j = 12 ∨ j = 13 ∨ j = 14 ∨ j = 15 ∨ j = 16 ∨ j = 17 ∨ j = 18)) ∨ (c = 89 ∧ j < 100) ∨ (90 ≤ c ∧ c < 98) from by replace q : (c = 88 ∧ (j = 17 ∨ j = 18)) := q; exact (Or.inl ⟨q.1, (q.2.elim (fun z => (Or.inr (Or.inr (Or.inr (Or.inr (Or.inr (Or.inr (Or.inr (Or.inl z))))))))) (fun z => (Or.inr (Or.inr (Or.inr (Or.inr (Or.inr (Or.inr (Or.inr (Or.inr z))))))))))⟩)))
        refine j_st (st' := []) rfl ?_
        have pm := parse_M i4 (by omega) ((q8_2).trans (need_cg (g' := decide (τ 88 10 ≤ τ 93 0)) (fun _ => by first | exact (decide_eq_true (by omega)).trans (decide_eq_true (by omega)).symm | exact (decide_eq_false (by omega)).trans (decide_eq_false (by omega)).symm)))
        refine j_aload_n (pc := 67) dX12_text_67 rfl rfl ?_
        refine j_iconst (pc := 68) dX12_text_68 ?_
        refine j_putI (pc := 69) fl_X12_86 fp_X12_12 dX12_text_69 (a_88 hM) rfl (j_nm (fun σ10 (eσ10 : σ10 = tw_up σ7 88 12 0) => ?_))
        have hIσ10 : tw_I σ10 := tw_I_up hIσ7 eσ10 (show (0 : Int) ≤ 0 ∧ 0 ≤ 400 from by decide)
        have hFσ10 : tw_F (fun c j => (c = 88 ∧ (j = 9 ∨ j = 10 ∨ j = 12 ∨ j = 13 ∨ j = 14 ∨ j = 15 ∨ j = 16 ∨ j = 17 ∨ j = 18)) ∨ (c = 89 ∧ j < 100) ∨ (90 ≤ c ∧ c < 98)) σ σ10 := tw_F_up hFσ7 eσ10 (show (88 = 88 ∧ (12 = 9 ∨ 12 = 10 ∨ 12 = 12 ∨ 12 = 13 ∨ 12 = 14 ∨ 12 = 15 ∨ 12 = 16 ∨ 12 = 17 ∨ 12 = 18)) ∨ (88 = 89 ∧ 12 < 100) ∨ (90 ≤ 88 ∧ 88 < 98) from (Or.inl ⟨rfl, (Or.inr (Or.inr (Or.inl rfl)))⟩))
        refine j_aload_n (pc := 72) dX12_text_72 rfl rfl ?_
        refine j_getI (pc := 73) fl_X12_91 dX12_text_73 (a_88 hM) rfl ?_
        refine j_topV (show σ10 88 17 = σ7 88 17 from (tw_ne1 eσ10 (by (first | decide | omega)))) ?_
        have f11 : (0 : Int) ≤ σ7 88 17 ∧ σ7 88 17 ≤ 5 := hIσ7 88 17
        refine j_ifR_le (pc := 76) (tgt := 87) ⟨by omega, by omega⟩ dX12_text_76 rfl (fun h12 => ?_) (fun h12 => ?_)
        · have z9 : σ10 88 17 = 0 := ((tw_ne1 eσ10 (by (first | decide | omega)))).trans (by omega)
          have dB : drM σ10 = drM σ7 := drM_F (tw_ne1 eσ10 (by decide)) (tw_ne1 eσ10 (by decide)) (fun c j h => tw_ne1 eσ10 (by (first | decide | omega)))
          have f17 : σ7 88 17 = 0 := by omega
          have pw := pwB_M pm f17
          refine j_aload_n (pc := 87) dX12_text_87 rfl rfl ?_
          have y13 : σ10 89 193 = τ 89 193 := ((tw_ne1 eσ10 (by (first | decide | omega)))).trans (hGσ7 89 193 (show ¬ ((89 = 88 ∧ (193 = 17 ∨ 193 = 18))) from by decide))
          have f14 : (0 : Int) ≤ τ 89 193 ∧ τ 89 193 ≤ 999 := hIτ 89 193
          have y15 : σ10 89 195 = τ 89 195 := ((tw_ne1 eσ10 (by (first | decide | omega)))).trans (hGσ7 89 195 (show ¬ ((89 = 88 ∧ (195 = 17 ∨ 195 = 18))) from by decide))
          have f16 : (0 : Int) ≤ τ 89 195 ∧ τ 89 195 ≤ 999 := hIτ 89 195
          have y17 : σ10 89 293 = τ 89 293 := ((tw_ne1 eσ10 (by (first | decide | omega)))).trans (hGσ7 89 293 (show ¬ ((89 = 88 ∧ (293 = 17 ∨ 293 = 18))) from by decide))
          have f18 : (0 : Int) ≤ τ 89 293 ∧ τ 89 293 ≤ 999 := hIτ 89 293
          have y19 : σ10 89 295 = τ 89 295 := ((tw_ne1 eσ10 (by (first | decide | omega)))).trans (hGσ7 89 295 (show ¬ ((89 = 88 ∧ (295 = 17 ∨ 295 = 18))) from by decide))
          have f20 : (0 : Int) ≤ τ 89 295 ∧ τ 89 295 ≤ 999 := hIτ 89 295
          refine j_callV (pc := 88) (As := []) (st := []) (c_X12_keepDraft hM σ10 hIσ10 (DQ_dr (DQ_F i0 (fun j => ((tw_ne1 eσ10 (by (first | decide | omega)))).trans (hGσ7 93 j (show ¬ ((93 = 88 ∧ (j = 17 ∨ j = 18))) from fun h => absurd h.1 (by decide)))) (fun j => ((tw_ne1 eσ10 (by (first | decide | omega)))).trans (hGσ7 94 j (show ¬ ((94 = 88 ∧ (j = 17 ∨ j = 18))) from fun h => absurd h.1 (by decide)))) (by omega)) (by omega)) (by omega) (by omega)) mv_X12_68 rfl rfl rfl (a_88 hM) dX12_text_88 ⟨Nat.le_of_ble_eq_true rfl, Nat.le_of_ble_eq_true rfl⟩ ⟨Nat.le_refl _, Nat.le_refl _⟩ rfl (Nat.le_of_ble_eq_true rfl) rfl (fun z21 σ22 hz21 => ?_)
          obtain ⟨rfl, hIσ22, hGσ22, q23_0, q23_1, q23_2, q23_3, q23_4, q23_5, q23_6, q23_7, q23_8, q23_9, q23_10, q23_11⟩ := hz21
          replace q23_0 : mI σ22 := q23_0
          replace q23_1 : σ22 90 0 = 0 := q23_1
          replace q23_2 : σ22 90 1 = 0 := q23_2
          replace q23_3 : σ22 89 93 = 0 := q23_3
          replace q23_4 : σ22 89 94 = 0 := q23_4
          replace q23_5 : σ22 89 95 = 0 := q23_5
          replace q23_6 : σ22 89 96 = 0 := q23_6
          replace q23_7 : wM σ22 = pwB (drM σ10) := q23_7
          replace q23_8 : ∀ j : Nat, j < 11 → σ22 89 (82 + j) = σ10 95 j := q23_8
          replace q23_9 : ∀ j : Nat, j < 82 → σ22 89 j = 0 := q23_9
          replace q23_10 : σ22 91 5 = σ10 93 5 := q23_10
          have y25 : σ10 93 5 = τ 93 5 := ((tw_ne1 eσ10 (by (first | decide | omega)))).trans (hGσ7 93 5 (show ¬ ((93 = 88 ∧ (5 = 17 ∨ 5 = 18))) from by decide))
          have f26 : (-2147483648 : Int) ≤ τ 93 5 ∧ τ 93 5 ≤ 2147483647 := hIτ 93 5
          replace q23_11 : σ22 91 6 = σ10 93 6 := q23_11
          have y27 : σ10 93 6 = τ 93 6 := ((tw_ne1 eσ10 (by (first | decide | omega)))).trans (hGσ7 93 6 (show ¬ ((93 = 88 ∧ (6 = 17 ∨ 6 = 18))) from by decide))
          have f28 : (-2147483648 : Int) ≤ τ 93 6 ∧ τ 93 6 ≤ 2147483647 := hIτ 93 6
          have hFσ22 : tw_F (fun c j => (c = 88 ∧ (j = 9 ∨ j = 10 ∨ j = 12 ∨ j = 13 ∨ j = 14 ∨ j = 15 ∨ j = 16 ∨ j = 17 ∨ j = 18)) ∨ (c = 89 ∧ j < 100) ∨ (90 ≤ c ∧ c < 98)) σ σ22 := tw_F_tr hFσ10 hGσ22 (fun c j q => (show (c = 88 ∧ (j = 9 ∨ j = 10 ∨ j = 12 ∨ j = 13 ∨ j = 14 ∨ j = 15 ∨ j = 16 ∨ j = 17 ∨ j = 18)) ∨ (c = 89 ∧ j < 100) ∨ (90 ≤ c ∧ c < 98) from by replace q : (c = 89 ∧ j < 100) ∨ (90 ≤ c ∧ c < 93) := q; exact (q.elim (fun q => (Or.inr (Or.inl q))) (fun q => (Or.inr (Or.inr ⟨Nat.le_trans (by decide) q.1, Nat.lt_of_lt_of_le q.2 (by decide)⟩))))))
          refine j_st (st' := []) rfl ?_
          have kd0 := q23_7
          have kd1 := q23_8
          have kd2 := q23_9
          have kd3 := q23_10
          have kd4 := q23_11
          refine j_iload_n (pc := 91) dX12_text_91 rfl rfl ?_
          have fin : (σ22 88 17 = 0 ∧ wM σ22 = pwB (parse (fM σ)).1 ∧ (∀ j : Nat, j < 11 → σ22 89 (82 + j) = (parse (fM σ)).1 (200 + j)) ∧ (∀ j : Nat, j < 82 → σ22 89 j = 0) ∧ σ22 91 5 = (parse (fM σ)).1 105 ∧ σ22 91 6 = (parse (fM σ)).1 106) ∨ (¬ σ22 88 17 = 0 ∧ ∀ c j : Nat, 89 ≤ c → c < 93 → σ22 c j = σ c j) := by
            refine Or.inl ⟨((((hGσ22 88 17 (show ¬ ((88 = 89 ∧ 17 < 100) ∨ (90 ≤ 88 ∧ 88 < 93)) from by decide))).trans (tw_ne1 eσ10 (by (first | decide | omega))))).trans f17, by rw [← pw.1, ← dB]; exact kd0, fun j hj => ?_, kd2, ?_, ?_⟩
            · rw [kd1 j hj, ← pw.2 (200 + j) (by omega), ← dB, drM_k hj]
            · rw [kd3, ← pw.2 105 (by omega), ← dB, show (105 : Nat) = 100 + 5 from rfl, drM_r (by omega)]
            · rw [kd4, ← pw.2 106 (by omega), ← dB, show (106 : Nat) = 100 + 6 from rfl, drM_r (by omega)]
          have y29 : σ22 88 12 = 0 := ((hGσ22 88 12 (show ¬ ((88 = 89 ∧ 12 < 100) ∨ (90 ≤ 88 ∧ 88 < 93)) from by decide))).trans (tw_eq1 eσ10)
          have y30 : σ22 88 17 = σ7 88 17 := ((hGσ22 88 17 (show ¬ ((88 = 89 ∧ 17 < 100) ∨ (90 ≤ 88 ∧ 88 < 93)) from by decide))).trans (tw_ne1 eσ10 (by (first | decide | omega)))
          have y31 : σ22 88 17 = σ7 88 17 := ((hGσ22 88 17 (show ¬ ((88 = 89 ∧ 17 < 100) ∨ (90 ≤ 88 ∧ 88 < 93)) from by decide))).trans (tw_ne1 eσ10 (by (first | decide | omega)))
          have y32 : σ22 88 17 = σ7 88 17 := ((hGσ22 88 17 (show ¬ ((88 = 89 ∧ 17 < 100) ∨ (90 ≤ 88 ∧ 88 < 93)) from by decide))).trans (tw_ne1 eσ10 (by (first | decide | omega)))
          have y33 : σ22 88 17 = σ7 88 17 := ((hGσ22 88 17 (show ¬ ((88 = 89 ∧ 17 < 100) ∨ (90 ≤ 88 ∧ 88 < 93)) from by decide))).trans (tw_ne1 eσ10 (by (first | decide | omega)))
          have y34 : σ22 88 17 = σ7 88 17 := ((hGσ22 88 17 (show ¬ ((88 = 89 ∧ 17 < 100) ∨ (90 ≤ 88 ∧ 88 < 93)) from by decide))).trans (tw_ne1 eσ10 (by (first | decide | omega)))
          have y35 : σ22 88 17 = σ7 88 17 := ((hGσ22 88 17 (show ¬ ((88 = 89 ∧ 17 < 100) ∨ (90 ≤ 88 ∧ 88 < 93)) from by decide))).trans (tw_ne1 eσ10 (by (first | decide | omega)))
          have y36 : σ22 88 17 = σ7 88 17 := ((hGσ22 88 17 (show ¬ ((88 = 89 ∧ 17 < 100) ∨ (90 ≤ 88 ∧ 88 < 93)) from by decide))).trans (tw_ne1 eσ10 (by (first | decide | omega)))
          exact j_iret (pc := 92) ⟨rfl, rfl⟩ dX12_text_92 rfl ⟨_, rfl, ⟨by omega, by omega⟩, hIσ22, hFσ22, (by first | exact q23_0 | exact mI_kept i1 (fun j hj => rfl) (fun j => rfl) (rfl) hIτ), by omega, (by rw [← pm]; first | exact (mtxt_f (by omega)).symm | exact (mtxt_t (by omega)).symm | (rw [mtxt_f (by omega)]; omega) | (rw [mtxt_t (by omega)]; omega)), (by rw [← pm]; show _ = (aM _) 4; rw [aM_4]; omega), by omega, by omega, by omega, by omega, by omega, fin⟩
        · refine j_bipush (pc := 79) dX12_text_79 rfl ?_
          refine j_aload_n (pc := 81) dX12_text_81 rfl rfl ?_
          refine j_getI (pc := 82) fl_X12_97 dX12_text_82 (a_88 hM) rfl ?_
          refine j_topV (show σ10 88 18 = σ7 88 18 from (tw_ne1 eσ10 (by (first | decide | omega)))) ?_
          have f37 : (0 : Int) ≤ σ7 88 18 ∧ σ7 88 18 ≤ 400 := hIσ7 88 18
          refine j_isub (pc := 85) dX12_text_85 ?_
          have fin : (σ10 88 17 = 0 ∧ wM σ10 = pwB (parse (fM σ)).1 ∧ (∀ j : Nat, j < 11 → σ10 89 (82 + j) = (parse (fM σ)).1 (200 + j)) ∧ (∀ j : Nat, j < 82 → σ10 89 j = 0) ∧ σ10 91 5 = (parse (fM σ)).1 105 ∧ σ10 91 6 = (parse (fM σ)).1 106) ∨ (¬ σ10 88 17 = 0 ∧ ∀ c j : Nat, 89 ≤ c → c < 93 → σ10 c j = σ c j) := Or.inr ⟨fun z => absurd ((((tw_ne1 eσ10 (by (first | decide | omega))))).symm.trans z) (by omega), fun c j a b => (tw_ne1 eσ10 (by (first | decide | omega))).trans ((hGσ7 c j (show ¬ ((c = 88 ∧ (j = 17 ∨ j = 18))) from by omega)).trans (i11 c j a b))⟩
          have y38 : σ10 88 12 = 0 := (tw_eq1 eσ10)
          have y39 : σ10 88 17 = σ7 88 17 := (tw_ne1 eσ10 (by (first | decide | omega)))
          have y40 : σ10 88 17 = σ7 88 17 := (tw_ne1 eσ10 (by (first | decide | omega)))
          have y41 : σ10 90 0 = τ 90 0 := ((tw_ne1 eσ10 (by (first | decide | omega)))).trans (hGσ7 90 0 (show ¬ ((90 = 88 ∧ (0 = 17 ∨ 0 = 18))) from by decide))
          have f42 : (0 : Int) ≤ τ 90 0 ∧ τ 90 0 ≤ 1 := hIτ 90 0
          have y43 : σ10 90 1 = τ 90 1 := ((tw_ne1 eσ10 (by (first | decide | omega)))).trans (hGσ7 90 1 (show ¬ ((90 = 88 ∧ (1 = 17 ∨ 1 = 18))) from by decide))
          have f44 : (0 : Int) ≤ τ 90 1 ∧ τ 90 1 ≤ 1 := hIτ 90 1
          have y45 : σ10 88 17 = σ7 88 17 := (tw_ne1 eσ10 (by (first | decide | omega)))
          have y46 : σ10 89 93 = τ 89 93 := ((tw_ne1 eσ10 (by (first | decide | omega)))).trans (hGσ7 89 93 (show ¬ ((89 = 88 ∧ (93 = 17 ∨ 93 = 18))) from by decide))
          have f47 : (0 : Int) ≤ τ 89 93 ∧ τ 89 93 ≤ 999 := hIτ 89 93
          have y48 : σ10 88 17 = σ7 88 17 := (tw_ne1 eσ10 (by (first | decide | omega)))
          have y49 : σ10 89 94 = τ 89 94 := ((tw_ne1 eσ10 (by (first | decide | omega)))).trans (hGσ7 89 94 (show ¬ ((89 = 88 ∧ (94 = 17 ∨ 94 = 18))) from by decide))
          have f50 : (-2147483648 : Int) ≤ τ 89 94 ∧ τ 89 94 ≤ 2147483647 := hIτ 89 94
          have y51 : σ10 88 17 = σ7 88 17 := (tw_ne1 eσ10 (by (first | decide | omega)))
          have y52 : σ10 89 95 = τ 89 95 := ((tw_ne1 eσ10 (by (first | decide | omega)))).trans (hGσ7 89 95 (show ¬ ((89 = 88 ∧ (95 = 17 ∨ 95 = 18))) from by decide))
          have f53 : (0 : Int) ≤ τ 89 95 ∧ τ 89 95 ≤ 999 := hIτ 89 95
          have y54 : σ10 88 17 = σ7 88 17 := (tw_ne1 eσ10 (by (first | decide | omega)))
          have y55 : σ10 89 96 = τ 89 96 := ((tw_ne1 eσ10 (by (first | decide | omega)))).trans (hGσ7 89 96 (show ¬ ((89 = 88 ∧ (96 = 17 ∨ 96 = 18))) from by decide))
          have f56 : (-2147483648 : Int) ≤ τ 89 96 ∧ τ 89 96 ≤ 2147483647 := hIτ 89 96
          have y57 : σ10 88 17 = σ7 88 17 := (tw_ne1 eσ10 (by (first | decide | omega)))
          have y58 : σ10 91 5 = τ 91 5 := ((tw_ne1 eσ10 (by (first | decide | omega)))).trans (hGσ7 91 5 (show ¬ ((91 = 88 ∧ (5 = 17 ∨ 5 = 18))) from by decide))
          have f59 : (-2147483648 : Int) ≤ τ 91 5 ∧ τ 91 5 ≤ 2147483647 := hIτ 91 5
          have y60 : σ10 91 6 = τ 91 6 := ((tw_ne1 eσ10 (by (first | decide | omega)))).trans (hGσ7 91 6 (show ¬ ((91 = 88 ∧ (6 = 17 ∨ 6 = 18))) from by decide))
          have f61 : (-2147483648 : Int) ≤ τ 91 6 ∧ τ 91 6 ≤ 2147483647 := hIτ 91 6
          exact j_iret (pc := 86) ⟨rfl, rfl⟩ dX12_text_86 rfl ⟨_, rfl, ⟨by omega, by omega⟩, hIσ10, hFσ10, (by first | exact q8_0 | exact mI_kept i1 (fun j hj => ((tw_ne1 eσ10 (by (first | decide | omega)))).trans (hGσ7 89 j (show ¬ ((89 = 88 ∧ (j = 17 ∨ j = 18))) from fun h => absurd h.1 (by decide)))) (fun j => ((tw_ne1 eσ10 (by (first | decide | omega)))).trans (hGσ7 90 j (show ¬ ((90 = 88 ∧ (j = 17 ∨ j = 18))) from fun h => absurd h.1 (by decide)))) (((tw_ne1 eσ10 (by (first | decide | omega)))).trans (hGσ7 91 0 (show ¬ ((91 = 88 ∧ (0 = 17 ∨ 0 = 18))) from by decide))) hIτ), by omega, (by rw [← pm]; first | exact (mtxt_f (by omega)).symm | exact (mtxt_t (by omega)).symm | (rw [mtxt_f (by omega)]; omega) | (rw [mtxt_t (by omega)]; omega)), (by rw [← pm]; show _ = (aM _) 4; rw [aM_4]; omega), by omega, by omega, by omega, by omega, by omega, fin⟩
      · refine j_iconst (pc := 58) dX12_text_58 ?_
        refine j_goto (pc := 59) (tgt := 63) dX12_text_59 rfl ?_
        refine j_iconst (pc := 63) dX12_text_63 ?_
        refine j_callV (pc := 64) (As := [vI 1, vI 5]) (st := []) (c_X12_needs hM 1 (by (first | decide | exact ⟨by omega, by omega⟩)) 5 (by (first | decide | exact ⟨by omega, by omega⟩)) τ hIτ) mv_X12_129 rfl rfl rfl (a_88 hM) dX12_text_64 ⟨Nat.le_of_ble_eq_true rfl, Nat.le_of_ble_eq_true rfl⟩ ⟨Nat.le_refl _, Nat.le_refl _⟩ rfl (Nat.le_of_ble_eq_true rfl) rfl (fun z62 σ63 hz62 => ?_)
        obtain ⟨rfl, hIσ63, hGσ63, q64_0, q64_1, q64_2⟩ := hz62
        replace q64_0 : (¬ (1 : Int) = 0 ∧ σ63 88 17 = τ 88 17) ∨ ((1 : Int) = 0 ∧ τ 88 17 = 0 ∧ σ63 88 17 = (5 : Int)) ∨ ((1 : Int) = 0 ∧ ¬ τ 88 17 = 0 ∧ σ63 88 17 = τ 88 17) := q64_0
        replace q64_1 : (¬ (1 : Int) = 0 ∧ σ63 88 17 = τ 88 17 ∧ σ63 88 18 = τ 88 18) ∨ ((1 : Int) = 0 ∧ τ 88 17 = 0 ∧ σ63 88 17 = (5 : Int) ∧ σ63 88 18 = τ 88 14) ∨ ((1 : Int) = 0 ∧ ¬ τ 88 17 = 0 ∧ σ63 88 17 = τ 88 17 ∧ σ63 88 18 = τ 88 18) := q64_1
        replace q64_2 : aM σ63 = need (decide (¬ (1 : Int) = 0)) (5 : Int) (aM τ) := q64_2
        have hFσ63 : tw_F (fun c j => (c = 88 ∧ (j = 9 ∨ j = 10 ∨ j = 12 ∨ j = 13 ∨ j = 14 ∨ j = 15 ∨ j = 16 ∨ j = 17 ∨ j = 18)) ∨ (c = 89 ∧ j < 100) ∨ (90 ≤ c ∧ c < 98)) σ σ63 := tw_F_tr hFτ hGσ63 (fun c j q => (show (c = 88 ∧ (j = 9 ∨ j = 10 ∨ j = 12 ∨ j = 13 ∨ j = 14 ∨ j = 15 ∨ j = 16 ∨ j = 17 ∨ j = 18)) ∨ (c = 89 ∧ j < 100) ∨ (90 ≤ c ∧ c < 98) from by replace q : (c = 88 ∧ (j = 17 ∨ j = 18)) := q; exact (Or.inl ⟨q.1, (q.2.elim (fun z => (Or.inr (Or.inr (Or.inr (Or.inr (Or.inr (Or.inr (Or.inr (Or.inl z))))))))) (fun z => (Or.inr (Or.inr (Or.inr (Or.inr (Or.inr (Or.inr (Or.inr (Or.inr z))))))))))⟩)))
        refine j_st (st' := []) rfl ?_
        have pm := parse_M i4 (by omega) ((q64_2).trans (need_cg (g' := decide (τ 88 10 ≤ τ 93 0)) (fun _ => by first | exact (decide_eq_true (by omega)).trans (decide_eq_true (by omega)).symm | exact (decide_eq_false (by omega)).trans (decide_eq_false (by omega)).symm)))
        refine j_aload_n (pc := 67) dX12_text_67 rfl rfl ?_
        refine j_iconst (pc := 68) dX12_text_68 ?_
        refine j_putI (pc := 69) fl_X12_86 fp_X12_12 dX12_text_69 (a_88 hM) rfl (j_nm (fun σ66 (eσ66 : σ66 = tw_up σ63 88 12 0) => ?_))
        have hIσ66 : tw_I σ66 := tw_I_up hIσ63 eσ66 (show (0 : Int) ≤ 0 ∧ 0 ≤ 400 from by decide)
        have hFσ66 : tw_F (fun c j => (c = 88 ∧ (j = 9 ∨ j = 10 ∨ j = 12 ∨ j = 13 ∨ j = 14 ∨ j = 15 ∨ j = 16 ∨ j = 17 ∨ j = 18)) ∨ (c = 89 ∧ j < 100) ∨ (90 ≤ c ∧ c < 98)) σ σ66 := tw_F_up hFσ63 eσ66 (show (88 = 88 ∧ (12 = 9 ∨ 12 = 10 ∨ 12 = 12 ∨ 12 = 13 ∨ 12 = 14 ∨ 12 = 15 ∨ 12 = 16 ∨ 12 = 17 ∨ 12 = 18)) ∨ (88 = 89 ∧ 12 < 100) ∨ (90 ≤ 88 ∧ 88 < 98) from (Or.inl ⟨rfl, (Or.inr (Or.inr (Or.inl rfl)))⟩))
        refine j_aload_n (pc := 72) dX12_text_72 rfl rfl ?_
        refine j_getI (pc := 73) fl_X12_91 dX12_text_73 (a_88 hM) rfl ?_
        refine j_topV (show σ66 88 17 = σ63 88 17 from (tw_ne1 eσ66 (by (first | decide | omega)))) ?_
        have f67 : (0 : Int) ≤ σ63 88 17 ∧ σ63 88 17 ≤ 5 := hIσ63 88 17
        refine j_ifR_le (pc := 76) (tgt := 87) ⟨by omega, by omega⟩ dX12_text_76 rfl (fun h68 => ?_) (fun h68 => ?_)
        · have z9 : σ66 88 17 = 0 := ((tw_ne1 eσ66 (by (first | decide | omega)))).trans (by omega)
          have dB : drM σ66 = drM σ63 := drM_F (tw_ne1 eσ66 (by decide)) (tw_ne1 eσ66 (by decide)) (fun c j h => tw_ne1 eσ66 (by (first | decide | omega)))
          have f17 : σ63 88 17 = 0 := by omega
          have pw := pwB_M pm f17
          refine j_aload_n (pc := 87) dX12_text_87 rfl rfl ?_
          have y69 : σ66 89 193 = τ 89 193 := ((tw_ne1 eσ66 (by (first | decide | omega)))).trans (hGσ63 89 193 (show ¬ ((89 = 88 ∧ (193 = 17 ∨ 193 = 18))) from by decide))
          have f70 : (0 : Int) ≤ τ 89 193 ∧ τ 89 193 ≤ 999 := hIτ 89 193
          have y71 : σ66 89 195 = τ 89 195 := ((tw_ne1 eσ66 (by (first | decide | omega)))).trans (hGσ63 89 195 (show ¬ ((89 = 88 ∧ (195 = 17 ∨ 195 = 18))) from by decide))
          have f72 : (0 : Int) ≤ τ 89 195 ∧ τ 89 195 ≤ 999 := hIτ 89 195
          have y73 : σ66 89 293 = τ 89 293 := ((tw_ne1 eσ66 (by (first | decide | omega)))).trans (hGσ63 89 293 (show ¬ ((89 = 88 ∧ (293 = 17 ∨ 293 = 18))) from by decide))
          have f74 : (0 : Int) ≤ τ 89 293 ∧ τ 89 293 ≤ 999 := hIτ 89 293
          have y75 : σ66 89 295 = τ 89 295 := ((tw_ne1 eσ66 (by (first | decide | omega)))).trans (hGσ63 89 295 (show ¬ ((89 = 88 ∧ (295 = 17 ∨ 295 = 18))) from by decide))
          have f76 : (0 : Int) ≤ τ 89 295 ∧ τ 89 295 ≤ 999 := hIτ 89 295
          refine j_callV (pc := 88) (As := []) (st := []) (c_X12_keepDraft hM σ66 hIσ66 (DQ_dr (DQ_F i0 (fun j => ((tw_ne1 eσ66 (by (first | decide | omega)))).trans (hGσ63 93 j (show ¬ ((93 = 88 ∧ (j = 17 ∨ j = 18))) from fun h => absurd h.1 (by decide)))) (fun j => ((tw_ne1 eσ66 (by (first | decide | omega)))).trans (hGσ63 94 j (show ¬ ((94 = 88 ∧ (j = 17 ∨ j = 18))) from fun h => absurd h.1 (by decide)))) (by omega)) (by omega)) (by omega) (by omega)) mv_X12_68 rfl rfl rfl (a_88 hM) dX12_text_88 ⟨Nat.le_of_ble_eq_true rfl, Nat.le_of_ble_eq_true rfl⟩ ⟨Nat.le_refl _, Nat.le_refl _⟩ rfl (Nat.le_of_ble_eq_true rfl) rfl (fun z77 σ78 hz77 => ?_)
          obtain ⟨rfl, hIσ78, hGσ78, q79_0, q79_1, q79_2, q79_3, q79_4, q79_5, q79_6, q79_7, q79_8, q79_9, q79_10, q79_11⟩ := hz77
          replace q79_0 : mI σ78 := q79_0
          replace q79_1 : σ78 90 0 = 0 := q79_1
          replace q79_2 : σ78 90 1 = 0 := q79_2
          replace q79_3 : σ78 89 93 = 0 := q79_3
          replace q79_4 : σ78 89 94 = 0 := q79_4
          replace q79_5 : σ78 89 95 = 0 := q79_5
          replace q79_6 : σ78 89 96 = 0 := q79_6
          replace q79_7 : wM σ78 = pwB (drM σ66) := q79_7
          replace q79_8 : ∀ j : Nat, j < 11 → σ78 89 (82 + j) = σ66 95 j := q79_8
          replace q79_9 : ∀ j : Nat, j < 82 → σ78 89 j = 0 := q79_9
          replace q79_10 : σ78 91 5 = σ66 93 5 := q79_10
          have y81 : σ66 93 5 = τ 93 5 := ((tw_ne1 eσ66 (by (first | decide | omega)))).trans (hGσ63 93 5 (show ¬ ((93 = 88 ∧ (5 = 17 ∨ 5 = 18))) from by decide))
          have f82 : (-2147483648 : Int) ≤ τ 93 5 ∧ τ 93 5 ≤ 2147483647 := hIτ 93 5
          replace q79_11 : σ78 91 6 = σ66 93 6 := q79_11
          have y83 : σ66 93 6 = τ 93 6 := ((tw_ne1 eσ66 (by (first | decide | omega)))).trans (hGσ63 93 6 (show ¬ ((93 = 88 ∧ (6 = 17 ∨ 6 = 18))) from by decide))
          have f84 : (-2147483648 : Int) ≤ τ 93 6 ∧ τ 93 6 ≤ 2147483647 := hIτ 93 6
          have hFσ78 : tw_F (fun c j => (c = 88 ∧ (j = 9 ∨ j = 10 ∨ j = 12 ∨ j = 13 ∨ j = 14 ∨ j = 15 ∨ j = 16 ∨ j = 17 ∨ j = 18)) ∨ (c = 89 ∧ j < 100) ∨ (90 ≤ c ∧ c < 98)) σ σ78 := tw_F_tr hFσ66 hGσ78 (fun c j q => (show (c = 88 ∧ (j = 9 ∨ j = 10 ∨ j = 12 ∨ j = 13 ∨ j = 14 ∨ j = 15 ∨ j = 16 ∨ j = 17 ∨ j = 18)) ∨ (c = 89 ∧ j < 100) ∨ (90 ≤ c ∧ c < 98) from by replace q : (c = 89 ∧ j < 100) ∨ (90 ≤ c ∧ c < 93) := q; exact (q.elim (fun q => (Or.inr (Or.inl q))) (fun q => (Or.inr (Or.inr ⟨Nat.le_trans (by decide) q.1, Nat.lt_of_lt_of_le q.2 (by decide)⟩))))))
          refine j_st (st' := []) rfl ?_
          have kd0 := q79_7
          have kd1 := q79_8
          have kd2 := q79_9
          have kd3 := q79_10
          have kd4 := q79_11
          refine j_iload_n (pc := 91) dX12_text_91 rfl rfl ?_
          have fin : (σ78 88 17 = 0 ∧ wM σ78 = pwB (parse (fM σ)).1 ∧ (∀ j : Nat, j < 11 → σ78 89 (82 + j) = (parse (fM σ)).1 (200 + j)) ∧ (∀ j : Nat, j < 82 → σ78 89 j = 0) ∧ σ78 91 5 = (parse (fM σ)).1 105 ∧ σ78 91 6 = (parse (fM σ)).1 106) ∨ (¬ σ78 88 17 = 0 ∧ ∀ c j : Nat, 89 ≤ c → c < 93 → σ78 c j = σ c j) := by
            refine Or.inl ⟨((((hGσ78 88 17 (show ¬ ((88 = 89 ∧ 17 < 100) ∨ (90 ≤ 88 ∧ 88 < 93)) from by decide))).trans (tw_ne1 eσ66 (by (first | decide | omega))))).trans f17, by rw [← pw.1, ← dB]; exact kd0, fun j hj => ?_, kd2, ?_, ?_⟩
            · rw [kd1 j hj, ← pw.2 (200 + j) (by omega), ← dB, drM_k hj]
            · rw [kd3, ← pw.2 105 (by omega), ← dB, show (105 : Nat) = 100 + 5 from rfl, drM_r (by omega)]
            · rw [kd4, ← pw.2 106 (by omega), ← dB, show (106 : Nat) = 100 + 6 from rfl, drM_r (by omega)]
          have y85 : σ78 88 12 = 0 := ((hGσ78 88 12 (show ¬ ((88 = 89 ∧ 12 < 100) ∨ (90 ≤ 88 ∧ 88 < 93)) from by decide))).trans (tw_eq1 eσ66)
          have y86 : σ78 88 17 = σ63 88 17 := ((hGσ78 88 17 (show ¬ ((88 = 89 ∧ 17 < 100) ∨ (90 ≤ 88 ∧ 88 < 93)) from by decide))).trans (tw_ne1 eσ66 (by (first | decide | omega)))
          have y87 : σ78 88 17 = σ63 88 17 := ((hGσ78 88 17 (show ¬ ((88 = 89 ∧ 17 < 100) ∨ (90 ≤ 88 ∧ 88 < 93)) from by decide))).trans (tw_ne1 eσ66 (by (first | decide | omega)))
          have y88 : σ78 88 17 = σ63 88 17 := ((hGσ78 88 17 (show ¬ ((88 = 89 ∧ 17 < 100) ∨ (90 ≤ 88 ∧ 88 < 93)) from by decide))).trans (tw_ne1 eσ66 (by (first | decide | omega)))
          have y89 : σ78 88 17 = σ63 88 17 := ((hGσ78 88 17 (show ¬ ((88 = 89 ∧ 17 < 100) ∨ (90 ≤ 88 ∧ 88 < 93)) from by decide))).trans (tw_ne1 eσ66 (by (first | decide | omega)))
          have y90 : σ78 88 17 = σ63 88 17 := ((hGσ78 88 17 (show ¬ ((88 = 89 ∧ 17 < 100) ∨ (90 ≤ 88 ∧ 88 < 93)) from by decide))).trans (tw_ne1 eσ66 (by (first | decide | omega)))
          have y91 : σ78 88 17 = σ63 88 17 := ((hGσ78 88 17 (show ¬ ((88 = 89 ∧ 17 < 100) ∨ (90 ≤ 88 ∧ 88 < 93)) from by decide))).trans (tw_ne1 eσ66 (by (first | decide | omega)))
          have y92 : σ78 88 17 = σ63 88 17 := ((hGσ78 88 17 (show ¬ ((88 = 89 ∧ 17 < 100) ∨ (90 ≤ 88 ∧ 88 < 93)) from by decide))).trans (tw_ne1 eσ66 (by (first | decide | omega)))
          exact j_iret (pc := 92) ⟨rfl, rfl⟩ dX12_text_92 rfl ⟨_, rfl, ⟨by omega, by omega⟩, hIσ78, hFσ78, (by first | exact q79_0 | exact mI_kept i1 (fun j hj => rfl) (fun j => rfl) (rfl) hIτ), by omega, (by rw [← pm]; first | exact (mtxt_f (by omega)).symm | exact (mtxt_t (by omega)).symm | (rw [mtxt_f (by omega)]; omega) | (rw [mtxt_t (by omega)]; omega)), (by rw [← pm]; show _ = (aM _) 4; rw [aM_4]; omega), by omega, by omega, by omega, by omega, by omega, fin⟩
        · refine j_bipush (pc := 79) dX12_text_79 rfl ?_
          refine j_aload_n (pc := 81) dX12_text_81 rfl rfl ?_
          refine j_getI (pc := 82) fl_X12_97 dX12_text_82 (a_88 hM) rfl ?_
          refine j_topV (show σ66 88 18 = σ63 88 18 from (tw_ne1 eσ66 (by (first | decide | omega)))) ?_
          have f93 : (0 : Int) ≤ σ63 88 18 ∧ σ63 88 18 ≤ 400 := hIσ63 88 18
          refine j_isub (pc := 85) dX12_text_85 ?_
          have fin : (σ66 88 17 = 0 ∧ wM σ66 = pwB (parse (fM σ)).1 ∧ (∀ j : Nat, j < 11 → σ66 89 (82 + j) = (parse (fM σ)).1 (200 + j)) ∧ (∀ j : Nat, j < 82 → σ66 89 j = 0) ∧ σ66 91 5 = (parse (fM σ)).1 105 ∧ σ66 91 6 = (parse (fM σ)).1 106) ∨ (¬ σ66 88 17 = 0 ∧ ∀ c j : Nat, 89 ≤ c → c < 93 → σ66 c j = σ c j) := Or.inr ⟨fun z => absurd ((((tw_ne1 eσ66 (by (first | decide | omega))))).symm.trans z) (by omega), fun c j a b => (tw_ne1 eσ66 (by (first | decide | omega))).trans ((hGσ63 c j (show ¬ ((c = 88 ∧ (j = 17 ∨ j = 18))) from by omega)).trans (i11 c j a b))⟩
          have y94 : σ66 88 12 = 0 := (tw_eq1 eσ66)
          have y95 : σ66 88 17 = σ63 88 17 := (tw_ne1 eσ66 (by (first | decide | omega)))
          have y96 : σ66 88 17 = σ63 88 17 := (tw_ne1 eσ66 (by (first | decide | omega)))
          have y97 : σ66 90 0 = τ 90 0 := ((tw_ne1 eσ66 (by (first | decide | omega)))).trans (hGσ63 90 0 (show ¬ ((90 = 88 ∧ (0 = 17 ∨ 0 = 18))) from by decide))
          have f98 : (0 : Int) ≤ τ 90 0 ∧ τ 90 0 ≤ 1 := hIτ 90 0
          have y99 : σ66 90 1 = τ 90 1 := ((tw_ne1 eσ66 (by (first | decide | omega)))).trans (hGσ63 90 1 (show ¬ ((90 = 88 ∧ (1 = 17 ∨ 1 = 18))) from by decide))
          have f100 : (0 : Int) ≤ τ 90 1 ∧ τ 90 1 ≤ 1 := hIτ 90 1
          have y101 : σ66 88 17 = σ63 88 17 := (tw_ne1 eσ66 (by (first | decide | omega)))
          have y102 : σ66 89 93 = τ 89 93 := ((tw_ne1 eσ66 (by (first | decide | omega)))).trans (hGσ63 89 93 (show ¬ ((89 = 88 ∧ (93 = 17 ∨ 93 = 18))) from by decide))
          have f103 : (0 : Int) ≤ τ 89 93 ∧ τ 89 93 ≤ 999 := hIτ 89 93
          have y104 : σ66 88 17 = σ63 88 17 := (tw_ne1 eσ66 (by (first | decide | omega)))
          have y105 : σ66 89 94 = τ 89 94 := ((tw_ne1 eσ66 (by (first | decide | omega)))).trans (hGσ63 89 94 (show ¬ ((89 = 88 ∧ (94 = 17 ∨ 94 = 18))) from by decide))
          have f106 : (-2147483648 : Int) ≤ τ 89 94 ∧ τ 89 94 ≤ 2147483647 := hIτ 89 94
          have y107 : σ66 88 17 = σ63 88 17 := (tw_ne1 eσ66 (by (first | decide | omega)))
          have y108 : σ66 89 95 = τ 89 95 := ((tw_ne1 eσ66 (by (first | decide | omega)))).trans (hGσ63 89 95 (show ¬ ((89 = 88 ∧ (95 = 17 ∨ 95 = 18))) from by decide))
          have f109 : (0 : Int) ≤ τ 89 95 ∧ τ 89 95 ≤ 999 := hIτ 89 95
          have y110 : σ66 88 17 = σ63 88 17 := (tw_ne1 eσ66 (by (first | decide | omega)))
          have y111 : σ66 89 96 = τ 89 96 := ((tw_ne1 eσ66 (by (first | decide | omega)))).trans (hGσ63 89 96 (show ¬ ((89 = 88 ∧ (96 = 17 ∨ 96 = 18))) from by decide))
          have f112 : (-2147483648 : Int) ≤ τ 89 96 ∧ τ 89 96 ≤ 2147483647 := hIτ 89 96
          have y113 : σ66 88 17 = σ63 88 17 := (tw_ne1 eσ66 (by (first | decide | omega)))
          have y114 : σ66 91 5 = τ 91 5 := ((tw_ne1 eσ66 (by (first | decide | omega)))).trans (hGσ63 91 5 (show ¬ ((91 = 88 ∧ (5 = 17 ∨ 5 = 18))) from by decide))
          have f115 : (-2147483648 : Int) ≤ τ 91 5 ∧ τ 91 5 ≤ 2147483647 := hIτ 91 5
          have y116 : σ66 91 6 = τ 91 6 := ((tw_ne1 eσ66 (by (first | decide | omega)))).trans (hGσ63 91 6 (show ¬ ((91 = 88 ∧ (6 = 17 ∨ 6 = 18))) from by decide))
          have f117 : (-2147483648 : Int) ≤ τ 91 6 ∧ τ 91 6 ≤ 2147483647 := hIτ 91 6
          exact j_iret (pc := 86) ⟨rfl, rfl⟩ dX12_text_86 rfl ⟨_, rfl, ⟨by omega, by omega⟩, hIσ66, hFσ66, (by first | exact q64_0 | exact mI_kept i1 (fun j hj => ((tw_ne1 eσ66 (by (first | decide | omega)))).trans (hGσ63 89 j (show ¬ ((89 = 88 ∧ (j = 17 ∨ j = 18))) from fun h => absurd h.1 (by decide)))) (fun j => ((tw_ne1 eσ66 (by (first | decide | omega)))).trans (hGσ63 90 j (show ¬ ((90 = 88 ∧ (j = 17 ∨ j = 18))) from fun h => absurd h.1 (by decide)))) (((tw_ne1 eσ66 (by (first | decide | omega)))).trans (hGσ63 91 0 (show ¬ ((91 = 88 ∧ (0 = 17 ∨ 0 = 18))) from by decide))) hIτ), by omega, (by rw [← pm]; first | exact (mtxt_f (by omega)).symm | exact (mtxt_t (by omega)).symm | (rw [mtxt_f (by omega)]; omega) | (rw [mtxt_t (by omega)]; omega)), (by rw [← pm]; show _ = (aM _) 4; rw [aM_4]; omega), by omega, by omega, by omega, by omega, by omega, fin⟩
    · refine j_aload_n (pc := 27) dX12_text_27 rfl rfl ?_
      refine j_getI (pc := 28) fl_X12_115 dX12_text_28 (a_88 hM) rfl ?_
      have f118 : (-2147483648 : Int) ≤ τ 88 15 ∧ τ 88 15 ≤ 2147483647 := hIτ 88 15
      refine j_ifR_eq (pc := 31) (tgt := 44) ⟨by omega, by omega⟩ dX12_text_31 rfl (fun h119 => ?_) (fun h119 => ?_)
      · refine j_aload_n (pc := 44) dX12_text_44 rfl rfl ?_
        refine j_aload_n (pc := 45) dX12_text_45 rfl rfl ?_
        refine j_getI (pc := 46) fl_X12_75 dX12_text_46 (a_88 hM) rfl ?_
        have f120 : (0 : Int) ≤ τ 88 10 ∧ τ 88 10 ≤ 40 := hIτ 88 10
        refine j_aload_n (pc := 49) dX12_text_49 rfl rfl ?_
        refine j_getR (pc := 50) (r := 93) fl_X12_23 dX12_text_50 (a_88 hM) rfl ?_
        refine j_iconst (pc := 53) dX12_text_53 ?_
        refine j_iald (pc := 54) dX12_text_54 (a_93 hM) (by omega) (by omega) (by decide) ?_
        refine j_topV (show τ 93 (Int.toNat 0) = τ 93 0 from rfl) ?_
        have f121 : (-2147483648 : Int) ≤ τ 93 0 ∧ τ 93 0 ≤ 2147483647 := hIτ 93 0
        refine j_icmpR_gt (pc := 55) (tgt := 62) ⟨by omega, by omega⟩ ⟨by omega, by omega⟩ dX12_text_55 rfl (fun h122 => ?_) (fun h122 => ?_)
        · refine j_iconst (pc := 62) dX12_text_62 ?_
          refine j_iconst (pc := 63) dX12_text_63 ?_
          refine j_callV (pc := 64) (As := [vI 0, vI 5]) (st := []) (c_X12_needs hM 0 (by (first | decide | exact ⟨by omega, by omega⟩)) 5 (by (first | decide | exact ⟨by omega, by omega⟩)) τ hIτ) mv_X12_129 rfl rfl rfl (a_88 hM) dX12_text_64 ⟨Nat.le_of_ble_eq_true rfl, Nat.le_of_ble_eq_true rfl⟩ ⟨Nat.le_refl _, Nat.le_refl _⟩ rfl (Nat.le_of_ble_eq_true rfl) rfl (fun z123 σ124 hz123 => ?_)
          obtain ⟨rfl, hIσ124, hGσ124, q125_0, q125_1, q125_2⟩ := hz123
          replace q125_0 : (¬ (0 : Int) = 0 ∧ σ124 88 17 = τ 88 17) ∨ ((0 : Int) = 0 ∧ τ 88 17 = 0 ∧ σ124 88 17 = (5 : Int)) ∨ ((0 : Int) = 0 ∧ ¬ τ 88 17 = 0 ∧ σ124 88 17 = τ 88 17) := q125_0
          replace q125_1 : (¬ (0 : Int) = 0 ∧ σ124 88 17 = τ 88 17 ∧ σ124 88 18 = τ 88 18) ∨ ((0 : Int) = 0 ∧ τ 88 17 = 0 ∧ σ124 88 17 = (5 : Int) ∧ σ124 88 18 = τ 88 14) ∨ ((0 : Int) = 0 ∧ ¬ τ 88 17 = 0 ∧ σ124 88 17 = τ 88 17 ∧ σ124 88 18 = τ 88 18) := q125_1
          replace q125_2 : aM σ124 = need (decide (¬ (0 : Int) = 0)) (5 : Int) (aM τ) := q125_2
          have hFσ124 : tw_F (fun c j => (c = 88 ∧ (j = 9 ∨ j = 10 ∨ j = 12 ∨ j = 13 ∨ j = 14 ∨ j = 15 ∨ j = 16 ∨ j = 17 ∨ j = 18)) ∨ (c = 89 ∧ j < 100) ∨ (90 ≤ c ∧ c < 98)) σ σ124 := tw_F_tr hFτ hGσ124 (fun c j q => (show (c = 88 ∧ (j = 9 ∨ j = 10 ∨ j = 12 ∨ j = 13 ∨ j = 14 ∨ j = 15 ∨ j = 16 ∨ j = 17 ∨ j = 18)) ∨ (c = 89 ∧ j < 100) ∨ (90 ≤ c ∧ c < 98) from by replace q : (c = 88 ∧ (j = 17 ∨ j = 18)) := q; exact (Or.inl ⟨q.1, (q.2.elim (fun z => (Or.inr (Or.inr (Or.inr (Or.inr (Or.inr (Or.inr (Or.inr (Or.inl z))))))))) (fun z => (Or.inr (Or.inr (Or.inr (Or.inr (Or.inr (Or.inr (Or.inr (Or.inr z))))))))))⟩)))
          refine j_st (st' := []) rfl ?_
          have pm := parse_M i4 (by omega) ((q125_2).trans (need_cg (g' := decide (τ 88 10 ≤ τ 93 0)) (fun _ => by first | exact (decide_eq_true (by omega)).trans (decide_eq_true (by omega)).symm | exact (decide_eq_false (by omega)).trans (decide_eq_false (by omega)).symm)))
          refine j_aload_n (pc := 67) dX12_text_67 rfl rfl ?_
          refine j_iconst (pc := 68) dX12_text_68 ?_
          refine j_putI (pc := 69) fl_X12_86 fp_X12_12 dX12_text_69 (a_88 hM) rfl (j_nm (fun σ127 (eσ127 : σ127 = tw_up σ124 88 12 0) => ?_))
          have hIσ127 : tw_I σ127 := tw_I_up hIσ124 eσ127 (show (0 : Int) ≤ 0 ∧ 0 ≤ 400 from by decide)
          have hFσ127 : tw_F (fun c j => (c = 88 ∧ (j = 9 ∨ j = 10 ∨ j = 12 ∨ j = 13 ∨ j = 14 ∨ j = 15 ∨ j = 16 ∨ j = 17 ∨ j = 18)) ∨ (c = 89 ∧ j < 100) ∨ (90 ≤ c ∧ c < 98)) σ σ127 := tw_F_up hFσ124 eσ127 (show (88 = 88 ∧ (12 = 9 ∨ 12 = 10 ∨ 12 = 12 ∨ 12 = 13 ∨ 12 = 14 ∨ 12 = 15 ∨ 12 = 16 ∨ 12 = 17 ∨ 12 = 18)) ∨ (88 = 89 ∧ 12 < 100) ∨ (90 ≤ 88 ∧ 88 < 98) from (Or.inl ⟨rfl, (Or.inr (Or.inr (Or.inl rfl)))⟩))
          refine j_aload_n (pc := 72) dX12_text_72 rfl rfl ?_
          refine j_getI (pc := 73) fl_X12_91 dX12_text_73 (a_88 hM) rfl ?_
          refine j_topV (show σ127 88 17 = σ124 88 17 from (tw_ne1 eσ127 (by (first | decide | omega)))) ?_
          have f128 : (0 : Int) ≤ σ124 88 17 ∧ σ124 88 17 ≤ 5 := hIσ124 88 17
          refine j_ifR_le (pc := 76) (tgt := 87) ⟨by omega, by omega⟩ dX12_text_76 rfl (fun h129 => ?_) (fun h129 => ?_)
          · have z9 : σ127 88 17 = 0 := ((tw_ne1 eσ127 (by (first | decide | omega)))).trans (by omega)
            have dB : drM σ127 = drM σ124 := drM_F (tw_ne1 eσ127 (by decide)) (tw_ne1 eσ127 (by decide)) (fun c j h => tw_ne1 eσ127 (by (first | decide | omega)))
            have f17 : σ124 88 17 = 0 := by omega
            have pw := pwB_M pm f17
            refine j_aload_n (pc := 87) dX12_text_87 rfl rfl ?_
            have y130 : σ127 89 193 = τ 89 193 := ((tw_ne1 eσ127 (by (first | decide | omega)))).trans (hGσ124 89 193 (show ¬ ((89 = 88 ∧ (193 = 17 ∨ 193 = 18))) from by decide))
            have f131 : (0 : Int) ≤ τ 89 193 ∧ τ 89 193 ≤ 999 := hIτ 89 193
            have y132 : σ127 89 195 = τ 89 195 := ((tw_ne1 eσ127 (by (first | decide | omega)))).trans (hGσ124 89 195 (show ¬ ((89 = 88 ∧ (195 = 17 ∨ 195 = 18))) from by decide))
            have f133 : (0 : Int) ≤ τ 89 195 ∧ τ 89 195 ≤ 999 := hIτ 89 195
            have y134 : σ127 89 293 = τ 89 293 := ((tw_ne1 eσ127 (by (first | decide | omega)))).trans (hGσ124 89 293 (show ¬ ((89 = 88 ∧ (293 = 17 ∨ 293 = 18))) from by decide))
            have f135 : (0 : Int) ≤ τ 89 293 ∧ τ 89 293 ≤ 999 := hIτ 89 293
            have y136 : σ127 89 295 = τ 89 295 := ((tw_ne1 eσ127 (by (first | decide | omega)))).trans (hGσ124 89 295 (show ¬ ((89 = 88 ∧ (295 = 17 ∨ 295 = 18))) from by decide))
            have f137 : (0 : Int) ≤ τ 89 295 ∧ τ 89 295 ≤ 999 := hIτ 89 295
            refine j_callV (pc := 88) (As := []) (st := []) (c_X12_keepDraft hM σ127 hIσ127 (DQ_dr (DQ_F i0 (fun j => ((tw_ne1 eσ127 (by (first | decide | omega)))).trans (hGσ124 93 j (show ¬ ((93 = 88 ∧ (j = 17 ∨ j = 18))) from fun h => absurd h.1 (by decide)))) (fun j => ((tw_ne1 eσ127 (by (first | decide | omega)))).trans (hGσ124 94 j (show ¬ ((94 = 88 ∧ (j = 17 ∨ j = 18))) from fun h => absurd h.1 (by decide)))) (by omega)) (by omega)) (by omega) (by omega)) mv_X12_68 rfl rfl rfl (a_88 hM) dX12_text_88 ⟨Nat.le_of_ble_eq_true rfl, Nat.le_of_ble_eq_true rfl⟩ ⟨Nat.le_refl _, Nat.le_refl _⟩ rfl (Nat.le_of_ble_eq_true rfl) rfl (fun z138 σ139 hz138 => ?_)
            obtain ⟨rfl, hIσ139, hGσ139, q140_0, q140_1, q140_2, q140_3, q140_4, q140_5, q140_6, q140_7, q140_8, q140_9, q140_10, q140_11⟩ := hz138
            replace q140_0 : mI σ139 := q140_0
            replace q140_1 : σ139 90 0 = 0 := q140_1
            replace q140_2 : σ139 90 1 = 0 := q140_2
            replace q140_3 : σ139 89 93 = 0 := q140_3
            replace q140_4 : σ139 89 94 = 0 := q140_4
            replace q140_5 : σ139 89 95 = 0 := q140_5
            replace q140_6 : σ139 89 96 = 0 := q140_6
            replace q140_7 : wM σ139 = pwB (drM σ127) := q140_7
            replace q140_8 : ∀ j : Nat, j < 11 → σ139 89 (82 + j) = σ127 95 j := q140_8
            replace q140_9 : ∀ j : Nat, j < 82 → σ139 89 j = 0 := q140_9
            replace q140_10 : σ139 91 5 = σ127 93 5 := q140_10
            have y142 : σ127 93 5 = τ 93 5 := ((tw_ne1 eσ127 (by (first | decide | omega)))).trans (hGσ124 93 5 (show ¬ ((93 = 88 ∧ (5 = 17 ∨ 5 = 18))) from by decide))
            have f143 : (-2147483648 : Int) ≤ τ 93 5 ∧ τ 93 5 ≤ 2147483647 := hIτ 93 5
            replace q140_11 : σ139 91 6 = σ127 93 6 := q140_11
            have y144 : σ127 93 6 = τ 93 6 := ((tw_ne1 eσ127 (by (first | decide | omega)))).trans (hGσ124 93 6 (show ¬ ((93 = 88 ∧ (6 = 17 ∨ 6 = 18))) from by decide))
            have f145 : (-2147483648 : Int) ≤ τ 93 6 ∧ τ 93 6 ≤ 2147483647 := hIτ 93 6
            have hFσ139 : tw_F (fun c j => (c = 88 ∧ (j = 9 ∨ j = 10 ∨ j = 12 ∨ j = 13 ∨ j = 14 ∨ j = 15 ∨ j = 16 ∨ j = 17 ∨ j = 18)) ∨ (c = 89 ∧ j < 100) ∨ (90 ≤ c ∧ c < 98)) σ σ139 := tw_F_tr hFσ127 hGσ139 (fun c j q => (show (c = 88 ∧ (j = 9 ∨ j = 10 ∨ j = 12 ∨ j = 13 ∨ j = 14 ∨ j = 15 ∨ j = 16 ∨ j = 17 ∨ j = 18)) ∨ (c = 89 ∧ j < 100) ∨ (90 ≤ c ∧ c < 98) from by replace q : (c = 89 ∧ j < 100) ∨ (90 ≤ c ∧ c < 93) := q; exact (q.elim (fun q => (Or.inr (Or.inl q))) (fun q => (Or.inr (Or.inr ⟨Nat.le_trans (by decide) q.1, Nat.lt_of_lt_of_le q.2 (by decide)⟩))))))
            refine j_st (st' := []) rfl ?_
            have kd0 := q140_7
            have kd1 := q140_8
            have kd2 := q140_9
            have kd3 := q140_10
            have kd4 := q140_11
            refine j_iload_n (pc := 91) dX12_text_91 rfl rfl ?_
            have fin : (σ139 88 17 = 0 ∧ wM σ139 = pwB (parse (fM σ)).1 ∧ (∀ j : Nat, j < 11 → σ139 89 (82 + j) = (parse (fM σ)).1 (200 + j)) ∧ (∀ j : Nat, j < 82 → σ139 89 j = 0) ∧ σ139 91 5 = (parse (fM σ)).1 105 ∧ σ139 91 6 = (parse (fM σ)).1 106) ∨ (¬ σ139 88 17 = 0 ∧ ∀ c j : Nat, 89 ≤ c → c < 93 → σ139 c j = σ c j) := by
              refine Or.inl ⟨((((hGσ139 88 17 (show ¬ ((88 = 89 ∧ 17 < 100) ∨ (90 ≤ 88 ∧ 88 < 93)) from by decide))).trans (tw_ne1 eσ127 (by (first | decide | omega))))).trans f17, by rw [← pw.1, ← dB]; exact kd0, fun j hj => ?_, kd2, ?_, ?_⟩
              · rw [kd1 j hj, ← pw.2 (200 + j) (by omega), ← dB, drM_k hj]
              · rw [kd3, ← pw.2 105 (by omega), ← dB, show (105 : Nat) = 100 + 5 from rfl, drM_r (by omega)]
              · rw [kd4, ← pw.2 106 (by omega), ← dB, show (106 : Nat) = 100 + 6 from rfl, drM_r (by omega)]
            have y146 : σ139 88 12 = 0 := ((hGσ139 88 12 (show ¬ ((88 = 89 ∧ 12 < 100) ∨ (90 ≤ 88 ∧ 88 < 93)) from by decide))).trans (tw_eq1 eσ127)
            have y147 : σ139 88 17 = σ124 88 17 := ((hGσ139 88 17 (show ¬ ((88 = 89 ∧ 17 < 100) ∨ (90 ≤ 88 ∧ 88 < 93)) from by decide))).trans (tw_ne1 eσ127 (by (first | decide | omega)))
            have y148 : σ139 88 17 = σ124 88 17 := ((hGσ139 88 17 (show ¬ ((88 = 89 ∧ 17 < 100) ∨ (90 ≤ 88 ∧ 88 < 93)) from by decide))).trans (tw_ne1 eσ127 (by (first | decide | omega)))
            have y149 : σ139 88 17 = σ124 88 17 := ((hGσ139 88 17 (show ¬ ((88 = 89 ∧ 17 < 100) ∨ (90 ≤ 88 ∧ 88 < 93)) from by decide))).trans (tw_ne1 eσ127 (by (first | decide | omega)))
            have y150 : σ139 88 17 = σ124 88 17 := ((hGσ139 88 17 (show ¬ ((88 = 89 ∧ 17 < 100) ∨ (90 ≤ 88 ∧ 88 < 93)) from by decide))).trans (tw_ne1 eσ127 (by (first | decide | omega)))
            have y151 : σ139 88 17 = σ124 88 17 := ((hGσ139 88 17 (show ¬ ((88 = 89 ∧ 17 < 100) ∨ (90 ≤ 88 ∧ 88 < 93)) from by decide))).trans (tw_ne1 eσ127 (by (first | decide | omega)))
            have y152 : σ139 88 17 = σ124 88 17 := ((hGσ139 88 17 (show ¬ ((88 = 89 ∧ 17 < 100) ∨ (90 ≤ 88 ∧ 88 < 93)) from by decide))).trans (tw_ne1 eσ127 (by (first | decide | omega)))
            have y153 : σ139 88 17 = σ124 88 17 := ((hGσ139 88 17 (show ¬ ((88 = 89 ∧ 17 < 100) ∨ (90 ≤ 88 ∧ 88 < 93)) from by decide))).trans (tw_ne1 eσ127 (by (first | decide | omega)))
            exact j_iret (pc := 92) ⟨rfl, rfl⟩ dX12_text_92 rfl ⟨_, rfl, ⟨by omega, by omega⟩, hIσ139, hFσ139, (by first | exact q140_0 | exact mI_kept i1 (fun j hj => rfl) (fun j => rfl) (rfl) hIτ), by omega, (by rw [← pm]; first | exact (mtxt_f (by omega)).symm | exact (mtxt_t (by omega)).symm | (rw [mtxt_f (by omega)]; omega) | (rw [mtxt_t (by omega)]; omega)), (by rw [← pm]; show _ = (aM _) 4; rw [aM_4]; omega), by omega, by omega, by omega, by omega, by omega, fin⟩
          · refine j_bipush (pc := 79) dX12_text_79 rfl ?_
            refine j_aload_n (pc := 81) dX12_text_81 rfl rfl ?_
            refine j_getI (pc := 82) fl_X12_97 dX12_text_82 (a_88 hM) rfl ?_
            refine j_topV (show σ127 88 18 = σ124 88 18 from (tw_ne1 eσ127 (by (first | decide | omega)))) ?_
            have f154 : (0 : Int) ≤ σ124 88 18 ∧ σ124 88 18 ≤ 400 := hIσ124 88 18
            refine j_isub (pc := 85) dX12_text_85 ?_
            have fin : (σ127 88 17 = 0 ∧ wM σ127 = pwB (parse (fM σ)).1 ∧ (∀ j : Nat, j < 11 → σ127 89 (82 + j) = (parse (fM σ)).1 (200 + j)) ∧ (∀ j : Nat, j < 82 → σ127 89 j = 0) ∧ σ127 91 5 = (parse (fM σ)).1 105 ∧ σ127 91 6 = (parse (fM σ)).1 106) ∨ (¬ σ127 88 17 = 0 ∧ ∀ c j : Nat, 89 ≤ c → c < 93 → σ127 c j = σ c j) := Or.inr ⟨fun z => absurd ((((tw_ne1 eσ127 (by (first | decide | omega))))).symm.trans z) (by omega), fun c j a b => (tw_ne1 eσ127 (by (first | decide | omega))).trans ((hGσ124 c j (show ¬ ((c = 88 ∧ (j = 17 ∨ j = 18))) from by omega)).trans (i11 c j a b))⟩
            have y155 : σ127 88 12 = 0 := (tw_eq1 eσ127)
            have y156 : σ127 88 17 = σ124 88 17 := (tw_ne1 eσ127 (by (first | decide | omega)))
            have y157 : σ127 88 17 = σ124 88 17 := (tw_ne1 eσ127 (by (first | decide | omega)))
            have y158 : σ127 90 0 = τ 90 0 := ((tw_ne1 eσ127 (by (first | decide | omega)))).trans (hGσ124 90 0 (show ¬ ((90 = 88 ∧ (0 = 17 ∨ 0 = 18))) from by decide))
            have f159 : (0 : Int) ≤ τ 90 0 ∧ τ 90 0 ≤ 1 := hIτ 90 0
            have y160 : σ127 90 1 = τ 90 1 := ((tw_ne1 eσ127 (by (first | decide | omega)))).trans (hGσ124 90 1 (show ¬ ((90 = 88 ∧ (1 = 17 ∨ 1 = 18))) from by decide))
            have f161 : (0 : Int) ≤ τ 90 1 ∧ τ 90 1 ≤ 1 := hIτ 90 1
            have y162 : σ127 88 17 = σ124 88 17 := (tw_ne1 eσ127 (by (first | decide | omega)))
            have y163 : σ127 89 93 = τ 89 93 := ((tw_ne1 eσ127 (by (first | decide | omega)))).trans (hGσ124 89 93 (show ¬ ((89 = 88 ∧ (93 = 17 ∨ 93 = 18))) from by decide))
            have f164 : (0 : Int) ≤ τ 89 93 ∧ τ 89 93 ≤ 999 := hIτ 89 93
            have y165 : σ127 88 17 = σ124 88 17 := (tw_ne1 eσ127 (by (first | decide | omega)))
            have y166 : σ127 89 94 = τ 89 94 := ((tw_ne1 eσ127 (by (first | decide | omega)))).trans (hGσ124 89 94 (show ¬ ((89 = 88 ∧ (94 = 17 ∨ 94 = 18))) from by decide))
            have f167 : (-2147483648 : Int) ≤ τ 89 94 ∧ τ 89 94 ≤ 2147483647 := hIτ 89 94
            have y168 : σ127 88 17 = σ124 88 17 := (tw_ne1 eσ127 (by (first | decide | omega)))
            have y169 : σ127 89 95 = τ 89 95 := ((tw_ne1 eσ127 (by (first | decide | omega)))).trans (hGσ124 89 95 (show ¬ ((89 = 88 ∧ (95 = 17 ∨ 95 = 18))) from by decide))
            have f170 : (0 : Int) ≤ τ 89 95 ∧ τ 89 95 ≤ 999 := hIτ 89 95
            have y171 : σ127 88 17 = σ124 88 17 := (tw_ne1 eσ127 (by (first | decide | omega)))
            have y172 : σ127 89 96 = τ 89 96 := ((tw_ne1 eσ127 (by (first | decide | omega)))).trans (hGσ124 89 96 (show ¬ ((89 = 88 ∧ (96 = 17 ∨ 96 = 18))) from by decide))
            have f173 : (-2147483648 : Int) ≤ τ 89 96 ∧ τ 89 96 ≤ 2147483647 := hIτ 89 96
            have y174 : σ127 88 17 = σ124 88 17 := (tw_ne1 eσ127 (by (first | decide | omega)))
            have y175 : σ127 91 5 = τ 91 5 := ((tw_ne1 eσ127 (by (first | decide | omega)))).trans (hGσ124 91 5 (show ¬ ((91 = 88 ∧ (5 = 17 ∨ 5 = 18))) from by decide))
            have f176 : (-2147483648 : Int) ≤ τ 91 5 ∧ τ 91 5 ≤ 2147483647 := hIτ 91 5
            have y177 : σ127 91 6 = τ 91 6 := ((tw_ne1 eσ127 (by (first | decide | omega)))).trans (hGσ124 91 6 (show ¬ ((91 = 88 ∧ (6 = 17 ∨ 6 = 18))) from by decide))
            have f178 : (-2147483648 : Int) ≤ τ 91 6 ∧ τ 91 6 ≤ 2147483647 := hIτ 91 6
            exact j_iret (pc := 86) ⟨rfl, rfl⟩ dX12_text_86 rfl ⟨_, rfl, ⟨by omega, by omega⟩, hIσ127, hFσ127, (by first | exact q125_0 | exact mI_kept i1 (fun j hj => ((tw_ne1 eσ127 (by (first | decide | omega)))).trans (hGσ124 89 j (show ¬ ((89 = 88 ∧ (j = 17 ∨ j = 18))) from fun h => absurd h.1 (by decide)))) (fun j => ((tw_ne1 eσ127 (by (first | decide | omega)))).trans (hGσ124 90 j (show ¬ ((90 = 88 ∧ (j = 17 ∨ j = 18))) from fun h => absurd h.1 (by decide)))) (((tw_ne1 eσ127 (by (first | decide | omega)))).trans (hGσ124 91 0 (show ¬ ((91 = 88 ∧ (0 = 17 ∨ 0 = 18))) from by decide))) hIτ), by omega, (by rw [← pm]; first | exact (mtxt_f (by omega)).symm | exact (mtxt_t (by omega)).symm | (rw [mtxt_f (by omega)]; omega) | (rw [mtxt_t (by omega)]; omega)), (by rw [← pm]; show _ = (aM _) 4; rw [aM_4]; omega), by omega, by omega, by omega, by omega, by omega, fin⟩
        · refine j_iconst (pc := 58) dX12_text_58 ?_
          refine j_goto (pc := 59) (tgt := 63) dX12_text_59 rfl ?_
          refine j_iconst (pc := 63) dX12_text_63 ?_
          refine j_callV (pc := 64) (As := [vI 1, vI 5]) (st := []) (c_X12_needs hM 1 (by (first | decide | exact ⟨by omega, by omega⟩)) 5 (by (first | decide | exact ⟨by omega, by omega⟩)) τ hIτ) mv_X12_129 rfl rfl rfl (a_88 hM) dX12_text_64 ⟨Nat.le_of_ble_eq_true rfl, Nat.le_of_ble_eq_true rfl⟩ ⟨Nat.le_refl _, Nat.le_refl _⟩ rfl (Nat.le_of_ble_eq_true rfl) rfl (fun z179 σ180 hz179 => ?_)
          obtain ⟨rfl, hIσ180, hGσ180, q181_0, q181_1, q181_2⟩ := hz179
          replace q181_0 : (¬ (1 : Int) = 0 ∧ σ180 88 17 = τ 88 17) ∨ ((1 : Int) = 0 ∧ τ 88 17 = 0 ∧ σ180 88 17 = (5 : Int)) ∨ ((1 : Int) = 0 ∧ ¬ τ 88 17 = 0 ∧ σ180 88 17 = τ 88 17) := q181_0
          replace q181_1 : (¬ (1 : Int) = 0 ∧ σ180 88 17 = τ 88 17 ∧ σ180 88 18 = τ 88 18) ∨ ((1 : Int) = 0 ∧ τ 88 17 = 0 ∧ σ180 88 17 = (5 : Int) ∧ σ180 88 18 = τ 88 14) ∨ ((1 : Int) = 0 ∧ ¬ τ 88 17 = 0 ∧ σ180 88 17 = τ 88 17 ∧ σ180 88 18 = τ 88 18) := q181_1
          replace q181_2 : aM σ180 = need (decide (¬ (1 : Int) = 0)) (5 : Int) (aM τ) := q181_2
          have hFσ180 : tw_F (fun c j => (c = 88 ∧ (j = 9 ∨ j = 10 ∨ j = 12 ∨ j = 13 ∨ j = 14 ∨ j = 15 ∨ j = 16 ∨ j = 17 ∨ j = 18)) ∨ (c = 89 ∧ j < 100) ∨ (90 ≤ c ∧ c < 98)) σ σ180 := tw_F_tr hFτ hGσ180 (fun c j q => (show (c = 88 ∧ (j = 9 ∨ j = 10 ∨ j = 12 ∨ j = 13 ∨ j = 14 ∨ j = 15 ∨ j = 16 ∨ j = 17 ∨ j = 18)) ∨ (c = 89 ∧ j < 100) ∨ (90 ≤ c ∧ c < 98) from by replace q : (c = 88 ∧ (j = 17 ∨ j = 18)) := q; exact (Or.inl ⟨q.1, (q.2.elim (fun z => (Or.inr (Or.inr (Or.inr (Or.inr (Or.inr (Or.inr (Or.inr (Or.inl z))))))))) (fun z => (Or.inr (Or.inr (Or.inr (Or.inr (Or.inr (Or.inr (Or.inr (Or.inr z))))))))))⟩)))
          refine j_st (st' := []) rfl ?_
          have pm := parse_M i4 (by omega) ((q181_2).trans (need_cg (g' := decide (τ 88 10 ≤ τ 93 0)) (fun _ => by first | exact (decide_eq_true (by omega)).trans (decide_eq_true (by omega)).symm | exact (decide_eq_false (by omega)).trans (decide_eq_false (by omega)).symm)))
          refine j_aload_n (pc := 67) dX12_text_67 rfl rfl ?_
          refine j_iconst (pc := 68) dX12_text_68 ?_
          refine j_putI (pc := 69) fl_X12_86 fp_X12_12 dX12_text_69 (a_88 hM) rfl (j_nm (fun σ183 (eσ183 : σ183 = tw_up σ180 88 12 0) => ?_))
          have hIσ183 : tw_I σ183 := tw_I_up hIσ180 eσ183 (show (0 : Int) ≤ 0 ∧ 0 ≤ 400 from by decide)
          have hFσ183 : tw_F (fun c j => (c = 88 ∧ (j = 9 ∨ j = 10 ∨ j = 12 ∨ j = 13 ∨ j = 14 ∨ j = 15 ∨ j = 16 ∨ j = 17 ∨ j = 18)) ∨ (c = 89 ∧ j < 100) ∨ (90 ≤ c ∧ c < 98)) σ σ183 := tw_F_up hFσ180 eσ183 (show (88 = 88 ∧ (12 = 9 ∨ 12 = 10 ∨ 12 = 12 ∨ 12 = 13 ∨ 12 = 14 ∨ 12 = 15 ∨ 12 = 16 ∨ 12 = 17 ∨ 12 = 18)) ∨ (88 = 89 ∧ 12 < 100) ∨ (90 ≤ 88 ∧ 88 < 98) from (Or.inl ⟨rfl, (Or.inr (Or.inr (Or.inl rfl)))⟩))
          refine j_aload_n (pc := 72) dX12_text_72 rfl rfl ?_
          refine j_getI (pc := 73) fl_X12_91 dX12_text_73 (a_88 hM) rfl ?_
          refine j_topV (show σ183 88 17 = σ180 88 17 from (tw_ne1 eσ183 (by (first | decide | omega)))) ?_
          have f184 : (0 : Int) ≤ σ180 88 17 ∧ σ180 88 17 ≤ 5 := hIσ180 88 17
          refine j_ifR_le (pc := 76) (tgt := 87) ⟨by omega, by omega⟩ dX12_text_76 rfl (fun h185 => ?_) (fun h185 => ?_)
          · have z9 : σ183 88 17 = 0 := ((tw_ne1 eσ183 (by (first | decide | omega)))).trans (by omega)
            have dB : drM σ183 = drM σ180 := drM_F (tw_ne1 eσ183 (by decide)) (tw_ne1 eσ183 (by decide)) (fun c j h => tw_ne1 eσ183 (by (first | decide | omega)))
            have f17 : σ180 88 17 = 0 := by omega
            have pw := pwB_M pm f17
            refine j_aload_n (pc := 87) dX12_text_87 rfl rfl ?_
            have y186 : σ183 89 193 = τ 89 193 := ((tw_ne1 eσ183 (by (first | decide | omega)))).trans (hGσ180 89 193 (show ¬ ((89 = 88 ∧ (193 = 17 ∨ 193 = 18))) from by decide))
            have f187 : (0 : Int) ≤ τ 89 193 ∧ τ 89 193 ≤ 999 := hIτ 89 193
            have y188 : σ183 89 195 = τ 89 195 := ((tw_ne1 eσ183 (by (first | decide | omega)))).trans (hGσ180 89 195 (show ¬ ((89 = 88 ∧ (195 = 17 ∨ 195 = 18))) from by decide))
            have f189 : (0 : Int) ≤ τ 89 195 ∧ τ 89 195 ≤ 999 := hIτ 89 195
            have y190 : σ183 89 293 = τ 89 293 := ((tw_ne1 eσ183 (by (first | decide | omega)))).trans (hGσ180 89 293 (show ¬ ((89 = 88 ∧ (293 = 17 ∨ 293 = 18))) from by decide))
            have f191 : (0 : Int) ≤ τ 89 293 ∧ τ 89 293 ≤ 999 := hIτ 89 293
            have y192 : σ183 89 295 = τ 89 295 := ((tw_ne1 eσ183 (by (first | decide | omega)))).trans (hGσ180 89 295 (show ¬ ((89 = 88 ∧ (295 = 17 ∨ 295 = 18))) from by decide))
            have f193 : (0 : Int) ≤ τ 89 295 ∧ τ 89 295 ≤ 999 := hIτ 89 295
            refine j_callV (pc := 88) (As := []) (st := []) (c_X12_keepDraft hM σ183 hIσ183 (DQ_dr (DQ_F i0 (fun j => ((tw_ne1 eσ183 (by (first | decide | omega)))).trans (hGσ180 93 j (show ¬ ((93 = 88 ∧ (j = 17 ∨ j = 18))) from fun h => absurd h.1 (by decide)))) (fun j => ((tw_ne1 eσ183 (by (first | decide | omega)))).trans (hGσ180 94 j (show ¬ ((94 = 88 ∧ (j = 17 ∨ j = 18))) from fun h => absurd h.1 (by decide)))) (by omega)) (by omega)) (by omega) (by omega)) mv_X12_68 rfl rfl rfl (a_88 hM) dX12_text_88 ⟨Nat.le_of_ble_eq_true rfl, Nat.le_of_ble_eq_true rfl⟩ ⟨Nat.le_refl _, Nat.le_refl _⟩ rfl (Nat.le_of_ble_eq_true rfl) rfl (fun z194 σ195 hz194 => ?_)
            obtain ⟨rfl, hIσ195, hGσ195, q196_0, q196_1, q196_2, q196_3, q196_4, q196_5, q196_6, q196_7, q196_8, q196_9, q196_10, q196_11⟩ := hz194
            replace q196_0 : mI σ195 := q196_0
            replace q196_1 : σ195 90 0 = 0 := q196_1
            replace q196_2 : σ195 90 1 = 0 := q196_2
            replace q196_3 : σ195 89 93 = 0 := q196_3
            replace q196_4 : σ195 89 94 = 0 := q196_4
            replace q196_5 : σ195 89 95 = 0 := q196_5
            replace q196_6 : σ195 89 96 = 0 := q196_6
            replace q196_7 : wM σ195 = pwB (drM σ183) := q196_7
            replace q196_8 : ∀ j : Nat, j < 11 → σ195 89 (82 + j) = σ183 95 j := q196_8
            replace q196_9 : ∀ j : Nat, j < 82 → σ195 89 j = 0 := q196_9
            replace q196_10 : σ195 91 5 = σ183 93 5 := q196_10
            have y198 : σ183 93 5 = τ 93 5 := ((tw_ne1 eσ183 (by (first | decide | omega)))).trans (hGσ180 93 5 (show ¬ ((93 = 88 ∧ (5 = 17 ∨ 5 = 18))) from by decide))
            have f199 : (-2147483648 : Int) ≤ τ 93 5 ∧ τ 93 5 ≤ 2147483647 := hIτ 93 5
            replace q196_11 : σ195 91 6 = σ183 93 6 := q196_11
            have y200 : σ183 93 6 = τ 93 6 := ((tw_ne1 eσ183 (by (first | decide | omega)))).trans (hGσ180 93 6 (show ¬ ((93 = 88 ∧ (6 = 17 ∨ 6 = 18))) from by decide))
            have f201 : (-2147483648 : Int) ≤ τ 93 6 ∧ τ 93 6 ≤ 2147483647 := hIτ 93 6
            have hFσ195 : tw_F (fun c j => (c = 88 ∧ (j = 9 ∨ j = 10 ∨ j = 12 ∨ j = 13 ∨ j = 14 ∨ j = 15 ∨ j = 16 ∨ j = 17 ∨ j = 18)) ∨ (c = 89 ∧ j < 100) ∨ (90 ≤ c ∧ c < 98)) σ σ195 := tw_F_tr hFσ183 hGσ195 (fun c j q => (show (c = 88 ∧ (j = 9 ∨ j = 10 ∨ j = 12 ∨ j = 13 ∨ j = 14 ∨ j = 15 ∨ j = 16 ∨ j = 17 ∨ j = 18)) ∨ (c = 89 ∧ j < 100) ∨ (90 ≤ c ∧ c < 98) from by replace q : (c = 89 ∧ j < 100) ∨ (90 ≤ c ∧ c < 93) := q; exact (q.elim (fun q => (Or.inr (Or.inl q))) (fun q => (Or.inr (Or.inr ⟨Nat.le_trans (by decide) q.1, Nat.lt_of_lt_of_le q.2 (by decide)⟩))))))
            refine j_st (st' := []) rfl ?_
            have kd0 := q196_7
            have kd1 := q196_8
            have kd2 := q196_9
            have kd3 := q196_10
            have kd4 := q196_11
            refine j_iload_n (pc := 91) dX12_text_91 rfl rfl ?_
            have fin : (σ195 88 17 = 0 ∧ wM σ195 = pwB (parse (fM σ)).1 ∧ (∀ j : Nat, j < 11 → σ195 89 (82 + j) = (parse (fM σ)).1 (200 + j)) ∧ (∀ j : Nat, j < 82 → σ195 89 j = 0) ∧ σ195 91 5 = (parse (fM σ)).1 105 ∧ σ195 91 6 = (parse (fM σ)).1 106) ∨ (¬ σ195 88 17 = 0 ∧ ∀ c j : Nat, 89 ≤ c → c < 93 → σ195 c j = σ c j) := by
              refine Or.inl ⟨((((hGσ195 88 17 (show ¬ ((88 = 89 ∧ 17 < 100) ∨ (90 ≤ 88 ∧ 88 < 93)) from by decide))).trans (tw_ne1 eσ183 (by (first | decide | omega))))).trans f17, by rw [← pw.1, ← dB]; exact kd0, fun j hj => ?_, kd2, ?_, ?_⟩
              · rw [kd1 j hj, ← pw.2 (200 + j) (by omega), ← dB, drM_k hj]
              · rw [kd3, ← pw.2 105 (by omega), ← dB, show (105 : Nat) = 100 + 5 from rfl, drM_r (by omega)]
              · rw [kd4, ← pw.2 106 (by omega), ← dB, show (106 : Nat) = 100 + 6 from rfl, drM_r (by omega)]
            have y202 : σ195 88 12 = 0 := ((hGσ195 88 12 (show ¬ ((88 = 89 ∧ 12 < 100) ∨ (90 ≤ 88 ∧ 88 < 93)) from by decide))).trans (tw_eq1 eσ183)
            have y203 : σ195 88 17 = σ180 88 17 := ((hGσ195 88 17 (show ¬ ((88 = 89 ∧ 17 < 100) ∨ (90 ≤ 88 ∧ 88 < 93)) from by decide))).trans (tw_ne1 eσ183 (by (first | decide | omega)))
            have y204 : σ195 88 17 = σ180 88 17 := ((hGσ195 88 17 (show ¬ ((88 = 89 ∧ 17 < 100) ∨ (90 ≤ 88 ∧ 88 < 93)) from by decide))).trans (tw_ne1 eσ183 (by (first | decide | omega)))
            have y205 : σ195 88 17 = σ180 88 17 := ((hGσ195 88 17 (show ¬ ((88 = 89 ∧ 17 < 100) ∨ (90 ≤ 88 ∧ 88 < 93)) from by decide))).trans (tw_ne1 eσ183 (by (first | decide | omega)))
            have y206 : σ195 88 17 = σ180 88 17 := ((hGσ195 88 17 (show ¬ ((88 = 89 ∧ 17 < 100) ∨ (90 ≤ 88 ∧ 88 < 93)) from by decide))).trans (tw_ne1 eσ183 (by (first | decide | omega)))
            have y207 : σ195 88 17 = σ180 88 17 := ((hGσ195 88 17 (show ¬ ((88 = 89 ∧ 17 < 100) ∨ (90 ≤ 88 ∧ 88 < 93)) from by decide))).trans (tw_ne1 eσ183 (by (first | decide | omega)))
            have y208 : σ195 88 17 = σ180 88 17 := ((hGσ195 88 17 (show ¬ ((88 = 89 ∧ 17 < 100) ∨ (90 ≤ 88 ∧ 88 < 93)) from by decide))).trans (tw_ne1 eσ183 (by (first | decide | omega)))
            have y209 : σ195 88 17 = σ180 88 17 := ((hGσ195 88 17 (show ¬ ((88 = 89 ∧ 17 < 100) ∨ (90 ≤ 88 ∧ 88 < 93)) from by decide))).trans (tw_ne1 eσ183 (by (first | decide | omega)))
            exact j_iret (pc := 92) ⟨rfl, rfl⟩ dX12_text_92 rfl ⟨_, rfl, ⟨by omega, by omega⟩, hIσ195, hFσ195, (by first | exact q196_0 | exact mI_kept i1 (fun j hj => rfl) (fun j => rfl) (rfl) hIτ), by omega, (by rw [← pm]; first | exact (mtxt_f (by omega)).symm | exact (mtxt_t (by omega)).symm | (rw [mtxt_f (by omega)]; omega) | (rw [mtxt_t (by omega)]; omega)), (by rw [← pm]; show _ = (aM _) 4; rw [aM_4]; omega), by omega, by omega, by omega, by omega, by omega, fin⟩
          · refine j_bipush (pc := 79) dX12_text_79 rfl ?_
            refine j_aload_n (pc := 81) dX12_text_81 rfl rfl ?_
            refine j_getI (pc := 82) fl_X12_97 dX12_text_82 (a_88 hM) rfl ?_
            refine j_topV (show σ183 88 18 = σ180 88 18 from (tw_ne1 eσ183 (by (first | decide | omega)))) ?_
            have f210 : (0 : Int) ≤ σ180 88 18 ∧ σ180 88 18 ≤ 400 := hIσ180 88 18
            refine j_isub (pc := 85) dX12_text_85 ?_
            have fin : (σ183 88 17 = 0 ∧ wM σ183 = pwB (parse (fM σ)).1 ∧ (∀ j : Nat, j < 11 → σ183 89 (82 + j) = (parse (fM σ)).1 (200 + j)) ∧ (∀ j : Nat, j < 82 → σ183 89 j = 0) ∧ σ183 91 5 = (parse (fM σ)).1 105 ∧ σ183 91 6 = (parse (fM σ)).1 106) ∨ (¬ σ183 88 17 = 0 ∧ ∀ c j : Nat, 89 ≤ c → c < 93 → σ183 c j = σ c j) := Or.inr ⟨fun z => absurd ((((tw_ne1 eσ183 (by (first | decide | omega))))).symm.trans z) (by omega), fun c j a b => (tw_ne1 eσ183 (by (first | decide | omega))).trans ((hGσ180 c j (show ¬ ((c = 88 ∧ (j = 17 ∨ j = 18))) from by omega)).trans (i11 c j a b))⟩
            have y211 : σ183 88 12 = 0 := (tw_eq1 eσ183)
            have y212 : σ183 88 17 = σ180 88 17 := (tw_ne1 eσ183 (by (first | decide | omega)))
            have y213 : σ183 88 17 = σ180 88 17 := (tw_ne1 eσ183 (by (first | decide | omega)))
            have y214 : σ183 90 0 = τ 90 0 := ((tw_ne1 eσ183 (by (first | decide | omega)))).trans (hGσ180 90 0 (show ¬ ((90 = 88 ∧ (0 = 17 ∨ 0 = 18))) from by decide))
            have f215 : (0 : Int) ≤ τ 90 0 ∧ τ 90 0 ≤ 1 := hIτ 90 0
            have y216 : σ183 90 1 = τ 90 1 := ((tw_ne1 eσ183 (by (first | decide | omega)))).trans (hGσ180 90 1 (show ¬ ((90 = 88 ∧ (1 = 17 ∨ 1 = 18))) from by decide))
            have f217 : (0 : Int) ≤ τ 90 1 ∧ τ 90 1 ≤ 1 := hIτ 90 1
            have y218 : σ183 88 17 = σ180 88 17 := (tw_ne1 eσ183 (by (first | decide | omega)))
            have y219 : σ183 89 93 = τ 89 93 := ((tw_ne1 eσ183 (by (first | decide | omega)))).trans (hGσ180 89 93 (show ¬ ((89 = 88 ∧ (93 = 17 ∨ 93 = 18))) from by decide))
            have f220 : (0 : Int) ≤ τ 89 93 ∧ τ 89 93 ≤ 999 := hIτ 89 93
            have y221 : σ183 88 17 = σ180 88 17 := (tw_ne1 eσ183 (by (first | decide | omega)))
            have y222 : σ183 89 94 = τ 89 94 := ((tw_ne1 eσ183 (by (first | decide | omega)))).trans (hGσ180 89 94 (show ¬ ((89 = 88 ∧ (94 = 17 ∨ 94 = 18))) from by decide))
            have f223 : (-2147483648 : Int) ≤ τ 89 94 ∧ τ 89 94 ≤ 2147483647 := hIτ 89 94
            have y224 : σ183 88 17 = σ180 88 17 := (tw_ne1 eσ183 (by (first | decide | omega)))
            have y225 : σ183 89 95 = τ 89 95 := ((tw_ne1 eσ183 (by (first | decide | omega)))).trans (hGσ180 89 95 (show ¬ ((89 = 88 ∧ (95 = 17 ∨ 95 = 18))) from by decide))
            have f226 : (0 : Int) ≤ τ 89 95 ∧ τ 89 95 ≤ 999 := hIτ 89 95
            have y227 : σ183 88 17 = σ180 88 17 := (tw_ne1 eσ183 (by (first | decide | omega)))
            have y228 : σ183 89 96 = τ 89 96 := ((tw_ne1 eσ183 (by (first | decide | omega)))).trans (hGσ180 89 96 (show ¬ ((89 = 88 ∧ (96 = 17 ∨ 96 = 18))) from by decide))
            have f229 : (-2147483648 : Int) ≤ τ 89 96 ∧ τ 89 96 ≤ 2147483647 := hIτ 89 96
            have y230 : σ183 88 17 = σ180 88 17 := (tw_ne1 eσ183 (by (first | decide | omega)))
            have y231 : σ183 91 5 = τ 91 5 := ((tw_ne1 eσ183 (by (first | decide | omega)))).trans (hGσ180 91 5 (show ¬ ((91 = 88 ∧ (5 = 17 ∨ 5 = 18))) from by decide))
            have f232 : (-2147483648 : Int) ≤ τ 91 5 ∧ τ 91 5 ≤ 2147483647 := hIτ 91 5
            have y233 : σ183 91 6 = τ 91 6 := ((tw_ne1 eσ183 (by (first | decide | omega)))).trans (hGσ180 91 6 (show ¬ ((91 = 88 ∧ (6 = 17 ∨ 6 = 18))) from by decide))
            have f234 : (-2147483648 : Int) ≤ τ 91 6 ∧ τ 91 6 ≤ 2147483647 := hIτ 91 6
            exact j_iret (pc := 86) ⟨rfl, rfl⟩ dX12_text_86 rfl ⟨_, rfl, ⟨by omega, by omega⟩, hIσ183, hFσ183, (by first | exact q181_0 | exact mI_kept i1 (fun j hj => ((tw_ne1 eσ183 (by (first | decide | omega)))).trans (hGσ180 89 j (show ¬ ((89 = 88 ∧ (j = 17 ∨ j = 18))) from fun h => absurd h.1 (by decide)))) (fun j => ((tw_ne1 eσ183 (by (first | decide | omega)))).trans (hGσ180 90 j (show ¬ ((90 = 88 ∧ (j = 17 ∨ j = 18))) from fun h => absurd h.1 (by decide)))) (((tw_ne1 eσ183 (by (first | decide | omega)))).trans (hGσ180 91 0 (show ¬ ((91 = 88 ∧ (0 = 17 ∨ 0 = 18))) from by decide))) hIτ), by omega, (by rw [← pm]; first | exact (mtxt_f (by omega)).symm | exact (mtxt_t (by omega)).symm | (rw [mtxt_f (by omega)]; omega) | (rw [mtxt_t (by omega)]; omega)), (by rw [← pm]; show _ = (aM _) 4; rw [aM_4]; omega), by omega, by omega, by omega, by omega, by omega, fin⟩
      · refine j_aload_n (pc := 34) dX12_text_34 rfl rfl ?_
        refine j_callV (pc := 35) (As := []) (st := []) (c_X12_readLine hM τ hIτ i0 (by omega) (by rw [fx]; exact hq1)) mv_X12_161 rfl rfl rfl (a_88 hM) dX12_text_35 ⟨Nat.le_of_ble_eq_true rfl, Nat.le_of_ble_eq_true rfl⟩ ⟨Nat.le_refl _, Nat.le_refl _⟩ rfl (Nat.le_of_ble_eq_true rfl) rfl (fun z235 σ236 hz235 => ?_)
        obtain ⟨rfl, hIσ236, hGσ236, q237_0, q237_1, q237_2, q237_3⟩ := hz235
        replace q237_0 : DQ σ236 := q237_0
        replace q237_1 : τ 88 13 ≤ σ236 88 13 := q237_1
        replace q237_2 : ¬ σ236 88 17 = 0 ∨ σ236 88 15 = 0 ∨ τ 88 13 < σ236 88 13 := q237_2
        replace q237_3 : aM σ236 = lineM (fM τ) (aM τ) := q237_3
        have hFσ236 : tw_F (fun c j => (c = 88 ∧ (j = 9 ∨ j = 10 ∨ j = 12 ∨ j = 13 ∨ j = 14 ∨ j = 15 ∨ j = 16 ∨ j = 17 ∨ j = 18)) ∨ (c = 89 ∧ j < 100) ∨ (90 ≤ c ∧ c < 98)) σ σ236 := tw_F_tr hFτ hGσ236 (fun c j q => (show (c = 88 ∧ (j = 9 ∨ j = 10 ∨ j = 12 ∨ j = 13 ∨ j = 14 ∨ j = 15 ∨ j = 16 ∨ j = 17 ∨ j = 18)) ∨ (c = 89 ∧ j < 100) ∨ (90 ≤ c ∧ c < 98) from by replace q : (c = 88 ∧ (j = 9 ∨ j = 10 ∨ j = 13 ∨ j = 14 ∨ j = 15 ∨ j = 16 ∨ j = 17 ∨ j = 18)) ∨ (93 ≤ c ∧ c < 98) := q; exact (q.elim (fun q => (Or.inl ⟨q.1, (q.2.elim (fun z => (Or.inl z)) (fun z => (z.elim (fun z => (Or.inr (Or.inl z))) (fun z => (z.elim (fun z => (Or.inr (Or.inr (Or.inr (Or.inl z))))) (fun z => (z.elim (fun z => (Or.inr (Or.inr (Or.inr (Or.inr (Or.inl z)))))) (fun z => (z.elim (fun z => (Or.inr (Or.inr (Or.inr (Or.inr (Or.inr (Or.inl z))))))) (fun z => (z.elim (fun z => (Or.inr (Or.inr (Or.inr (Or.inr (Or.inr (Or.inr (Or.inl z)))))))) (fun z => (z.elim (fun z => (Or.inr (Or.inr (Or.inr (Or.inr (Or.inr (Or.inr (Or.inr (Or.inl z))))))))) (fun z => (Or.inr (Or.inr (Or.inr (Or.inr (Or.inr (Or.inr (Or.inr (Or.inr z))))))))))))))))))))))⟩)) (fun q => (Or.inr (Or.inr ⟨Nat.le_trans (by decide) q.1, Nat.lt_of_lt_of_le q.2 (by decide)⟩))))))
        refine j_st (st' := []) rfl ?_
        skip
        skip
        skip
        have y1 : σ236 88 17 = σ236 88 17 := by first | rfl | exact tw_ne1 _ (by omega)
        have y2 : σ236 88 15 = σ236 88 15 := by first | rfl | exact tw_ne1 _ (by omega)
        have y3 : σ236 88 13 = σ236 88 13 := by first | rfl | exact tw_ne1 _ (by omega)
        have y4 : (0 : Int) ≤ σ236 88 13 ∧ σ236 88 13 ≤ 400 := hIσ236 88 13
        have lt9 := mTx_lt (f := τ 88 17) (s := τ 88 15) (p := τ 88 13) (f2 := σ236 88 17) (s2 := σ236 88 15) (p2 := σ236 88 13) (by omega) (by omega) (by omega) (by omega) (by omega)
        have cl2 : aM σ236 = lineX (fM σ) (aM τ) := by (have q := q237_3); rw [fx] at q; exact q.trans (line_XM hq1).symm
        refine j_iinc (pc := 38) (i := 1) (n := 1) (ls' := [(0, vR 88), (1, vI (m + 1))]) [1, 0] dX12_text_38 rfl (Nat.le_of_ble_eq_true rfl) rfl rfl ?_
        refine j_goto (pc := 41) (tgt := 20) dX12_text_41 rfl ?_
        refine j_ls (ls' := [(0, vR 88), (1, vI (m + 1))]) [0, 1] rfl ?_
        have y239 : σ236 88 12 = τ 88 12 := (hGσ236 88 12 (show ¬ ((88 = 88 ∧ (12 = 9 ∨ 12 = 10 ∨ 12 = 13 ∨ 12 = 14 ∨ 12 = 15 ∨ 12 = 16 ∨ 12 = 17 ∨ 12 = 18)) ∨ (93 ≤ 88 ∧ 88 < 98)) from by decide))
        have f240 : (0 : Int) ≤ τ 88 12 ∧ τ 88 12 ≤ 400 := hIτ 88 12
        have y241 : σ236 90 0 = τ 90 0 := (hGσ236 90 0 (show ¬ ((90 = 88 ∧ (0 = 9 ∨ 0 = 10 ∨ 0 = 13 ∨ 0 = 14 ∨ 0 = 15 ∨ 0 = 16 ∨ 0 = 17 ∨ 0 = 18)) ∨ (93 ≤ 90 ∧ 90 < 98)) from by decide))
        have f242 : (0 : Int) ≤ τ 90 0 ∧ τ 90 0 ≤ 1 := hIτ 90 0
        have y243 : σ236 90 1 = τ 90 1 := (hGσ236 90 1 (show ¬ ((90 = 88 ∧ (1 = 9 ∨ 1 = 10 ∨ 1 = 13 ∨ 1 = 14 ∨ 1 = 15 ∨ 1 = 16 ∨ 1 = 17 ∨ 1 = 18)) ∨ (93 ≤ 90 ∧ 90 < 98)) from by decide))
        have f244 : (0 : Int) ≤ τ 90 1 ∧ τ 90 1 ≤ 1 := hIτ 90 1
        have y245 : σ236 89 93 = τ 89 93 := (hGσ236 89 93 (show ¬ ((89 = 88 ∧ (93 = 9 ∨ 93 = 10 ∨ 93 = 13 ∨ 93 = 14 ∨ 93 = 15 ∨ 93 = 16 ∨ 93 = 17 ∨ 93 = 18)) ∨ (93 ≤ 89 ∧ 89 < 98)) from by decide))
        have f246 : (0 : Int) ≤ τ 89 93 ∧ τ 89 93 ≤ 999 := hIτ 89 93
        have y247 : σ236 89 94 = τ 89 94 := (hGσ236 89 94 (show ¬ ((89 = 88 ∧ (94 = 9 ∨ 94 = 10 ∨ 94 = 13 ∨ 94 = 14 ∨ 94 = 15 ∨ 94 = 16 ∨ 94 = 17 ∨ 94 = 18)) ∨ (93 ≤ 89 ∧ 89 < 98)) from by decide))
        have f248 : (-2147483648 : Int) ≤ τ 89 94 ∧ τ 89 94 ≤ 2147483647 := hIτ 89 94
        have y249 : σ236 89 95 = τ 89 95 := (hGσ236 89 95 (show ¬ ((89 = 88 ∧ (95 = 9 ∨ 95 = 10 ∨ 95 = 13 ∨ 95 = 14 ∨ 95 = 15 ∨ 95 = 16 ∨ 95 = 17 ∨ 95 = 18)) ∨ (93 ≤ 89 ∧ 89 < 98)) from by decide))
        have f250 : (0 : Int) ≤ τ 89 95 ∧ τ 89 95 ≤ 999 := hIτ 89 95
        have y251 : σ236 89 96 = τ 89 96 := (hGσ236 89 96 (show ¬ ((89 = 88 ∧ (96 = 9 ∨ 96 = 10 ∨ 96 = 13 ∨ 96 = 14 ∨ 96 = 15 ∨ 96 = 16 ∨ 96 = 17 ∨ 96 = 18)) ∨ (93 ≤ 89 ∧ 89 < 98)) from by decide))
        have f252 : (-2147483648 : Int) ≤ τ 89 96 ∧ τ 89 96 ≤ 2147483647 := hIτ 89 96
        exact ih (m + 1) ⟨by omega, by omega⟩ σ236 hIσ236 hFσ236 (show DQ σ236 from q237_0) (show mI σ236 from mI_kept i1 (fun j hj => (hGσ236 89 j (show ¬ ((89 = 88 ∧ (j = 9 ∨ j = 10 ∨ j = 13 ∨ j = 14 ∨ j = 15 ∨ j = 16 ∨ j = 17 ∨ j = 18)) ∨ (93 ≤ 89 ∧ 89 < 98)) from fun h => h.elim (fun h => absurd h.1 (by decide)) (fun h => absurd h (by decide))))) (fun j => (hGσ236 90 j (show ¬ ((90 = 88 ∧ (j = 9 ∨ j = 10 ∨ j = 13 ∨ j = 14 ∨ j = 15 ∨ j = 16 ∨ j = 17 ∨ j = 18)) ∨ (93 ≤ 90 ∧ 90 < 98)) from fun h => h.elim (fun h => absurd h.1 (by decide)) (fun h => absurd h (by decide))))) ((hGσ236 91 0 (show ¬ ((91 = 88 ∧ (0 = 9 ∨ 0 = 10 ∨ 0 = 13 ∨ 0 = 14 ∨ 0 = 15 ∨ 0 = 16 ∨ 0 = 17 ∨ 0 = 18)) ∨ (93 ≤ 91 ∧ 91 < 98)) from by decide))) hIτ) (show (m + 1) ≤ σ236 88 13 ∨ ((¬ σ236 88 17 = 0 ∨ σ236 88 15 = 0) ∧ (m + 1) ≤ σ236 88 13 + 1) from by omega) (show σ236 88 12 = σ 88 12 from by omega) (show itK lstop (lstep (fM σ)) (500 - (m + 1)).toNat (aM σ236, (m + 1)) = lns (fM σ) from (mlns_s i4 ⟨by omega, by omega⟩ (by omega) (by omega) cl2 rfl)) (show σ236 90 0 = σ 90 0 from by omega) (show σ236 90 1 = σ 90 1 from by omega) (show σ236 89 93 = σ 89 93 from by omega) (show σ236 89 94 = σ 89 94 from by omega) (show σ236 89 95 = σ 89 95 from by omega) (show σ236 89 96 = σ 89 96 from by omega) (show ∀ c j : Nat, 89 ≤ c → c < 93 → σ236 c j = σ c j from (fun c j a b => (hGσ236 c j (show ¬ ((c = 88 ∧ (j = 9 ∨ j = 10 ∨ j = 13 ∨ j = 14 ∨ j = 15 ∨ j = 16 ∨ j = 17 ∨ j = 18)) ∨ (93 ≤ c ∧ c < 98)) from by omega)).trans (i11 c j a b))) (show (mTx (σ236 88 17) (σ236 88 15) (σ236 88 13)).toNat < N_ from by omega)
set_option maxHeartbeats 4000000 in
set_option maxRecDepth 100000 in
theorem c_X12_text {G : tw_G} (hM : tw_isM G) (σ : tw_M) (hI : tw_I σ) (hq0 : mI σ) (hq1 : FB (fM σ)) : tw_C G yX12_text cX12_text 2 (some .int) 5 [vR 88] σ (q_X12_text σ) := by
  refine tw_met [(0, vR 88)] (by decide +kernel) rfl (Nat.le_of_ble_eq_true rfl) ?_
  refine j_iconst (pc := 0) dX12_text_0 ?_
  refine j_istore_n (pc := 1) (i := 1) (ls' := [(0, vR 88), (1, vI 0)]) [1, 0] dX12_text_1 rfl (Nat.le_of_ble_eq_true rfl) rfl rfl ?_
  refine j_aload_n (pc := 2) dX12_text_2 rfl rfl ?_
  refine j_iconst (pc := 3) dX12_text_3 ?_
  refine j_putI (pc := 4) fl_X12_91 fp_X12_17 dX12_text_4 (a_88 hM) rfl (j_nm (fun σ253 (eσ253 : σ253 = tw_up σ 88 17 0) => ?_))
  have hIσ253 : tw_I σ253 := tw_I_up hI eσ253 (show (0 : Int) ≤ 0 ∧ 0 ≤ 5 from by decide)
  have hFσ253 : tw_F (fun c j => (c = 88 ∧ (j = 9 ∨ j = 10 ∨ j = 12 ∨ j = 13 ∨ j = 14 ∨ j = 15 ∨ j = 16 ∨ j = 17 ∨ j = 18)) ∨ (c = 89 ∧ j < 100) ∨ (90 ≤ c ∧ c < 98)) σ σ253 := tw_F_up (tw_F_rf) eσ253 (show (88 = 88 ∧ (17 = 9 ∨ 17 = 10 ∨ 17 = 12 ∨ 17 = 13 ∨ 17 = 14 ∨ 17 = 15 ∨ 17 = 16 ∨ 17 = 17 ∨ 17 = 18)) ∨ (88 = 89 ∧ 17 < 100) ∨ (90 ≤ 88 ∧ 88 < 98) from (Or.inl ⟨rfl, (Or.inr (Or.inr (Or.inr (Or.inr (Or.inr (Or.inr (Or.inr (Or.inl rfl))))))))⟩))
  refine j_aload_n (pc := 7) dX12_text_7 rfl rfl ?_
  refine j_iconst (pc := 8) dX12_text_8 ?_
  refine j_putI (pc := 9) fl_X12_100 fp_X12_13 dX12_text_9 (a_88 hM) rfl (j_nm (fun σ254 (eσ254 : σ254 = tw_up σ253 88 13 0) => ?_))
  have hIσ254 : tw_I σ254 := tw_I_up hIσ253 eσ254 (show (0 : Int) ≤ 0 ∧ 0 ≤ 400 from by decide)
  have hFσ254 : tw_F (fun c j => (c = 88 ∧ (j = 9 ∨ j = 10 ∨ j = 12 ∨ j = 13 ∨ j = 14 ∨ j = 15 ∨ j = 16 ∨ j = 17 ∨ j = 18)) ∨ (c = 89 ∧ j < 100) ∨ (90 ≤ c ∧ c < 98)) σ σ254 := tw_F_up hFσ253 eσ254 (show (88 = 88 ∧ (13 = 9 ∨ 13 = 10 ∨ 13 = 12 ∨ 13 = 13 ∨ 13 = 14 ∨ 13 = 15 ∨ 13 = 16 ∨ 13 = 17 ∨ 13 = 18)) ∨ (88 = 89 ∧ 13 < 100) ∨ (90 ≤ 88 ∧ 88 < 98) from (Or.inl ⟨rfl, (Or.inr (Or.inr (Or.inr (Or.inl rfl))))⟩))
  refine j_aload_n (pc := 12) dX12_text_12 rfl rfl ?_
  refine j_callV (pc := 13) (As := []) (st := []) (c_X12_firstDraft hM σ254 hIσ254) mv_X12_65 rfl rfl rfl (a_88 hM) dX12_text_13 ⟨Nat.le_of_ble_eq_true rfl, Nat.le_of_ble_eq_true rfl⟩ ⟨Nat.le_refl _, Nat.le_refl _⟩ rfl (Nat.le_of_ble_eq_true rfl) rfl (fun z255 σ256 hz255 => ?_)
  obtain ⟨rfl, hIσ256, hGσ256, q257_0, q257_1⟩ := hz255
  replace q257_0 : DR σ256 := q257_0
  replace q257_1 : drM σ256 = D0 := q257_1
  have hFσ256 : tw_F (fun c j => (c = 88 ∧ (j = 9 ∨ j = 10 ∨ j = 12 ∨ j = 13 ∨ j = 14 ∨ j = 15 ∨ j = 16 ∨ j = 17 ∨ j = 18)) ∨ (c = 89 ∧ j < 100) ∨ (90 ≤ c ∧ c < 98)) σ σ256 := tw_F_tr hFσ254 hGσ256 (fun c j q => (show (c = 88 ∧ (j = 9 ∨ j = 10 ∨ j = 12 ∨ j = 13 ∨ j = 14 ∨ j = 15 ∨ j = 16 ∨ j = 17 ∨ j = 18)) ∨ (c = 89 ∧ j < 100) ∨ (90 ≤ c ∧ c < 98) from by replace q : (c = 88 ∧ (j = 9 ∨ j = 10)) ∨ (93 ≤ c ∧ c < 98) := q; exact (q.elim (fun q => (Or.inl ⟨q.1, (q.2.elim (fun z => (Or.inl z)) (fun z => (Or.inr (Or.inl z))))⟩)) (fun q => (Or.inr (Or.inr ⟨Nat.le_trans (by decide) q.1, Nat.lt_of_lt_of_le q.2 (by decide)⟩))))))
  refine j_st (st' := []) rfl ?_
  have y259 : σ256 88 13 = 0 := ((hGσ256 88 13 (show ¬ ((88 = 88 ∧ (13 = 9 ∨ 13 = 10)) ∨ (93 ≤ 88 ∧ 88 < 98)) from by decide))).trans (tw_eq1 eσ254)
  have y260 : σ256 88 17 = 0 := (((hGσ256 88 17 (show ¬ ((88 = 88 ∧ (17 = 9 ∨ 17 = 10)) ∨ (93 ≤ 88 ∧ 88 < 98)) from by decide))).trans (tw_ne1 eσ254 (by (first | decide | omega)))).trans (tw_eq1 eσ253)
  have d0 := q257_1
  have fz : fM σ256 = fM σ := fM_F ((((hGσ256 88 12 (show ¬ ((88 = 88 ∧ (12 = 9 ∨ 12 = 10)) ∨ (93 ≤ 88 ∧ 88 < 98)) from by decide))).trans (tw_ne1 eσ254 (by (first | decide | omega)))).trans (tw_ne1 eσ253 (by (first | decide | omega)))) (fun j => (((hGσ256 98 j (show ¬ ((98 = 88 ∧ (j = 9 ∨ j = 10)) ∨ (93 ≤ 98 ∧ 98 < 98)) from fun h => h.elim (fun h => absurd h.1 (by decide)) (fun h => absurd h (by decide))))).trans (tw_ne1 eσ254 (by (first | decide | omega)))).trans (tw_ne1 eσ253 (by (first | decide | omega))))
  have a0 : aM σ256 = ok 0 (σ256 88 14) (σ256 88 15) (σ256 88 16) D0 := by rw [aM_ok (by omega), d0, show σ256 88 13 = 0 from by omega]
  refine j_aload_n (pc := 16) dX12_text_16 rfl rfl ?_
  refine j_callV (pc := 17) (As := []) (st := []) (c_X12_next hM σ256 hIσ256) mv_X12_137 rfl rfl rfl (a_88 hM) dX12_text_17 ⟨Nat.le_of_ble_eq_true rfl, Nat.le_of_ble_eq_true rfl⟩ ⟨Nat.le_refl _, Nat.le_refl _⟩ rfl (Nat.le_of_ble_eq_true rfl) rfl (fun z261 σ262 hz261 => ?_)
  obtain ⟨rfl, hIσ262, hGσ262, q263_0, q263_1, q263_2, q263_3⟩ := hz261
  replace q263_0 : ¬ σ262 88 17 = 0 ∨ σ256 88 17 = 0 := q263_0
  have y265 : σ256 88 17 = 0 := (((hGσ256 88 17 (show ¬ ((88 = 88 ∧ (17 = 9 ∨ 17 = 10)) ∨ (93 ≤ 88 ∧ 88 < 98)) from by decide))).trans (tw_ne1 eσ254 (by (first | decide | omega)))).trans (tw_eq1 eσ253)
  replace q263_1 : σ256 88 13 ≤ σ262 88 13 := q263_1
  have y266 : σ256 88 13 = 0 := ((hGσ256 88 13 (show ¬ ((88 = 88 ∧ (13 = 9 ∨ 13 = 10)) ∨ (93 ≤ 88 ∧ 88 < 98)) from by decide))).trans (tw_eq1 eσ254)
  replace q263_2 : ¬ σ262 88 17 = 0 ∨ σ262 88 15 = 0 ∨ σ256 88 13 < σ262 88 13 := q263_2
  have y267 : σ256 88 13 = 0 := ((hGσ256 88 13 (show ¬ ((88 = 88 ∧ (13 = 9 ∨ 13 = 10)) ∨ (93 ≤ 88 ∧ 88 < 98)) from by decide))).trans (tw_eq1 eσ254)
  replace q263_3 : aM σ262 = tok (fM σ256) (aM σ256) := q263_3
  have hFσ262 : tw_F (fun c j => (c = 88 ∧ (j = 9 ∨ j = 10 ∨ j = 12 ∨ j = 13 ∨ j = 14 ∨ j = 15 ∨ j = 16 ∨ j = 17 ∨ j = 18)) ∨ (c = 89 ∧ j < 100) ∨ (90 ≤ c ∧ c < 98)) σ σ262 := tw_F_tr hFσ256 hGσ262 (fun c j q => (show (c = 88 ∧ (j = 9 ∨ j = 10 ∨ j = 12 ∨ j = 13 ∨ j = 14 ∨ j = 15 ∨ j = 16 ∨ j = 17 ∨ j = 18)) ∨ (c = 89 ∧ j < 100) ∨ (90 ≤ c ∧ c < 98) from by replace q : (c = 88 ∧ (j = 13 ∨ j = 14 ∨ j = 15 ∨ j = 16 ∨ j = 17 ∨ j = 18)) := q; exact (Or.inl ⟨q.1, (q.2.elim (fun z => (Or.inr (Or.inr (Or.inr (Or.inl z))))) (fun z => (z.elim (fun z => (Or.inr (Or.inr (Or.inr (Or.inr (Or.inl z)))))) (fun z => (z.elim (fun z => (Or.inr (Or.inr (Or.inr (Or.inr (Or.inr (Or.inl z))))))) (fun z => (z.elim (fun z => (Or.inr (Or.inr (Or.inr (Or.inr (Or.inr (Or.inr (Or.inl z)))))))) (fun z => (z.elim (fun z => (Or.inr (Or.inr (Or.inr (Or.inr (Or.inr (Or.inr (Or.inr (Or.inl z))))))))) (fun z => (Or.inr (Or.inr (Or.inr (Or.inr (Or.inr (Or.inr (Or.inr (Or.inr z))))))))))))))))))⟩)))
  refine j_st (st' := []) rfl ?_
  refine j_ls (ls' := [(0, vR 88), (1, vI 0)]) [0, 1] rfl ?_
  have y268 : σ262 88 12 = σ 88 12 := ((((hGσ262 88 12 (show ¬ ((88 = 88 ∧ (12 = 13 ∨ 12 = 14 ∨ 12 = 15 ∨ 12 = 16 ∨ 12 = 17 ∨ 12 = 18))) from by decide))).trans (hGσ256 88 12 (show ¬ ((88 = 88 ∧ (12 = 9 ∨ 12 = 10)) ∨ (93 ≤ 88 ∧ 88 < 98)) from by decide))).trans (tw_ne1 eσ254 (by (first | decide | omega)))).trans (tw_ne1 eσ253 (by (first | decide | omega)))
  have f269 : (0 : Int) ≤ σ 88 12 ∧ σ 88 12 ≤ 400 := hI 88 12
  have y270 : σ262 90 0 = σ 90 0 := ((((hGσ262 90 0 (show ¬ ((90 = 88 ∧ (0 = 13 ∨ 0 = 14 ∨ 0 = 15 ∨ 0 = 16 ∨ 0 = 17 ∨ 0 = 18))) from by decide))).trans (hGσ256 90 0 (show ¬ ((90 = 88 ∧ (0 = 9 ∨ 0 = 10)) ∨ (93 ≤ 90 ∧ 90 < 98)) from by decide))).trans (tw_ne1 eσ254 (by (first | decide | omega)))).trans (tw_ne1 eσ253 (by (first | decide | omega)))
  have f271 : (0 : Int) ≤ σ 90 0 ∧ σ 90 0 ≤ 1 := hI 90 0
  have y272 : σ262 90 1 = σ 90 1 := ((((hGσ262 90 1 (show ¬ ((90 = 88 ∧ (1 = 13 ∨ 1 = 14 ∨ 1 = 15 ∨ 1 = 16 ∨ 1 = 17 ∨ 1 = 18))) from by decide))).trans (hGσ256 90 1 (show ¬ ((90 = 88 ∧ (1 = 9 ∨ 1 = 10)) ∨ (93 ≤ 90 ∧ 90 < 98)) from by decide))).trans (tw_ne1 eσ254 (by (first | decide | omega)))).trans (tw_ne1 eσ253 (by (first | decide | omega)))
  have f273 : (0 : Int) ≤ σ 90 1 ∧ σ 90 1 ≤ 1 := hI 90 1
  have y274 : σ262 89 93 = σ 89 93 := ((((hGσ262 89 93 (show ¬ ((89 = 88 ∧ (93 = 13 ∨ 93 = 14 ∨ 93 = 15 ∨ 93 = 16 ∨ 93 = 17 ∨ 93 = 18))) from by decide))).trans (hGσ256 89 93 (show ¬ ((89 = 88 ∧ (93 = 9 ∨ 93 = 10)) ∨ (93 ≤ 89 ∧ 89 < 98)) from by decide))).trans (tw_ne1 eσ254 (by (first | decide | omega)))).trans (tw_ne1 eσ253 (by (first | decide | omega)))
  have f275 : (0 : Int) ≤ σ 89 93 ∧ σ 89 93 ≤ 999 := hI 89 93
  have y276 : σ262 89 94 = σ 89 94 := ((((hGσ262 89 94 (show ¬ ((89 = 88 ∧ (94 = 13 ∨ 94 = 14 ∨ 94 = 15 ∨ 94 = 16 ∨ 94 = 17 ∨ 94 = 18))) from by decide))).trans (hGσ256 89 94 (show ¬ ((89 = 88 ∧ (94 = 9 ∨ 94 = 10)) ∨ (93 ≤ 89 ∧ 89 < 98)) from by decide))).trans (tw_ne1 eσ254 (by (first | decide | omega)))).trans (tw_ne1 eσ253 (by (first | decide | omega)))
  have f277 : (-2147483648 : Int) ≤ σ 89 94 ∧ σ 89 94 ≤ 2147483647 := hI 89 94
  have y278 : σ262 89 95 = σ 89 95 := ((((hGσ262 89 95 (show ¬ ((89 = 88 ∧ (95 = 13 ∨ 95 = 14 ∨ 95 = 15 ∨ 95 = 16 ∨ 95 = 17 ∨ 95 = 18))) from by decide))).trans (hGσ256 89 95 (show ¬ ((89 = 88 ∧ (95 = 9 ∨ 95 = 10)) ∨ (93 ≤ 89 ∧ 89 < 98)) from by decide))).trans (tw_ne1 eσ254 (by (first | decide | omega)))).trans (tw_ne1 eσ253 (by (first | decide | omega)))
  have f279 : (0 : Int) ≤ σ 89 95 ∧ σ 89 95 ≤ 999 := hI 89 95
  have y280 : σ262 89 96 = σ 89 96 := ((((hGσ262 89 96 (show ¬ ((89 = 88 ∧ (96 = 13 ∨ 96 = 14 ∨ 96 = 15 ∨ 96 = 16 ∨ 96 = 17 ∨ 96 = 18))) from by decide))).trans (hGσ256 89 96 (show ¬ ((89 = 88 ∧ (96 = 9 ∨ 96 = 10)) ∨ (93 ≤ 89 ∧ 89 < 98)) from by decide))).trans (tw_ne1 eσ254 (by (first | decide | omega)))).trans (tw_ne1 eσ253 (by (first | decide | omega)))
  have f281 : (-2147483648 : Int) ≤ σ 89 96 ∧ σ 89 96 ≤ 2147483647 := hI 89 96
  exact (l_X12_text hM σ hI hq0 hq1 (((mTx (σ262 88 17) (σ262 88 15) (σ262 88 13)).toNat) + 1)) 0 (by (first | decide | exact ⟨by omega, by omega⟩)) σ262 hIσ262 hFσ262 (show DQ σ262 from (Or.inr (DR_F q257_0 (fun j => hGσ262 93 j (show ¬ ((93 = 88 ∧ (j = 13 ∨ j = 14 ∨ j = 15 ∨ j = 16 ∨ j = 17 ∨ j = 18))) from fun h => absurd h.1 (by decide))) (fun j => hGσ262 94 j (show ¬ ((94 = 88 ∧ (j = 13 ∨ j = 14 ∨ j = 15 ∨ j = 16 ∨ j = 17 ∨ j = 18))) from fun h => absurd h.1 (by decide)))))) (show mI σ262 from mI_kept hq0 (fun j hj => ((((hGσ262 89 j (show ¬ ((89 = 88 ∧ (j = 13 ∨ j = 14 ∨ j = 15 ∨ j = 16 ∨ j = 17 ∨ j = 18))) from fun h => absurd h.1 (by decide)))).trans (hGσ256 89 j (show ¬ ((89 = 88 ∧ (j = 9 ∨ j = 10)) ∨ (93 ≤ 89 ∧ 89 < 98)) from fun h => h.elim (fun h => absurd h.1 (by decide)) (fun h => absurd h (by decide))))).trans (tw_ne1 eσ254 (by (first | decide | omega)))).trans (tw_ne1 eσ253 (by (first | decide | omega)))) (fun j => ((((hGσ262 90 j (show ¬ ((90 = 88 ∧ (j = 13 ∨ j = 14 ∨ j = 15 ∨ j = 16 ∨ j = 17 ∨ j = 18))) from fun h => absurd h.1 (by decide)))).trans (hGσ256 90 j (show ¬ ((90 = 88 ∧ (j = 9 ∨ j = 10)) ∨ (93 ≤ 90 ∧ 90 < 98)) from fun h => h.elim (fun h => absurd h.1 (by decide)) (fun h => absurd h (by decide))))).trans (tw_ne1 eσ254 (by (first | decide | omega)))).trans (tw_ne1 eσ253 (by (first | decide | omega)))) (((((hGσ262 91 0 (show ¬ ((91 = 88 ∧ (0 = 13 ∨ 0 = 14 ∨ 0 = 15 ∨ 0 = 16 ∨ 0 = 17 ∨ 0 = 18))) from by decide))).trans (hGσ256 91 0 (show ¬ ((91 = 88 ∧ (0 = 9 ∨ 0 = 10)) ∨ (93 ≤ 91 ∧ 91 < 98)) from by decide))).trans (tw_ne1 eσ254 (by (first | decide | omega)))).trans (tw_ne1 eσ253 (by (first | decide | omega)))) hI) (show (0 : Int) ≤ σ262 88 13 ∨ ((¬ σ262 88 17 = 0 ∨ σ262 88 15 = 0) ∧ (0 : Int) ≤ σ262 88 13 + 1) from by omega) (show σ262 88 12 = σ 88 12 from by omega) (show itK lstop (lstep (fM σ)) (500 - (0 : Int)).toNat (aM σ262, (0 : Int)) = lns (fM σ) from (by (have cb := q263_3); rw [fz, a0] at cb; exact lns_0 cb rfl)) (show σ262 90 0 = σ 90 0 from by omega) (show σ262 90 1 = σ 90 1 from by omega) (show σ262 89 93 = σ 89 93 from by omega) (show σ262 89 94 = σ 89 94 from by omega) (show σ262 89 95 = σ 89 95 from by omega) (show σ262 89 96 = σ 89 96 from by omega) (show ∀ c j : Nat, 89 ≤ c → c < 93 → σ262 c j = σ c j from (fun c j a b => (hGσ262 c j (show ¬ ((c = 88 ∧ (j = 13 ∨ j = 14 ∨ j = 15 ∨ j = 16 ∨ j = 17 ∨ j = 18))) from by omega)).trans ((hGσ256 c j (show ¬ ((c = 88 ∧ (j = 9 ∨ j = 10)) ∨ (93 ≤ c ∧ c < 98)) from by omega)).trans ((tw_ne1 eσ254 (by (first | decide | omega))).trans (tw_ne1 eσ253 (by (first | decide | omega))))))) (Nat.lt_succ_self _)
