/-! 32al.model -/
theorem dX12_back_0 : decode cX12_back 0 = .ok (.iload_n 1, 1) := by decide +kernel
theorem dX12_back_1 : decode cX12_back 1 = .ok (.i2l, 1) := by decide +kernel
theorem dX12_back_2 : decode cX12_back 2 = .ok (.lconst 0, 1) := by decide +kernel
theorem dX12_back_3 : decode cX12_back 3 = .ok (.lconst 1, 1) := by decide +kernel
theorem dX12_back_4 : decode cX12_back 4 = .ok (.invokestatic 82, 3) := by decide +kernel
theorem dX12_back_7 : decode cX12_back 7 = .ok (.ifCond .ne 5, 3) := by decide +kernel
theorem dX12_back_10 : decode cX12_back 10 = .ok (.iconst (-1), 1) := by decide +kernel
theorem dX12_back_11 : decode cX12_back 11 = .ok (.ireturn, 1) := by decide +kernel
theorem dX12_back_12 : decode cX12_back 12 = .ok (.aload_n 0, 1) := by decide +kernel
theorem dX12_back_13 : decode cX12_back 13 = .ok (.getfield 13, 3) := by decide +kernel
theorem dX12_back_16 : decode cX12_back 16 = .ok (.iload_n 1, 1) := by decide +kernel
theorem dX12_back_17 : decode cX12_back 17 = .ok (.baload, 1) := by decide +kernel
theorem dX12_back_18 : decode cX12_back 18 = .ok (.ifCond .ne 6, 3) := by decide +kernel
theorem dX12_back_21 : decode cX12_back 21 = .ok (.bipush (-2), 2) := by decide +kernel
theorem dX12_back_23 : decode cX12_back 23 = .ok (.ireturn, 1) := by decide +kernel
theorem dX12_back_24 : decode cX12_back 24 = .ok (.aload_n 0, 1) := by decide +kernel
theorem dX12_back_25 : decode cX12_back 25 = .ok (.iconst 0, 1) := by decide +kernel
theorem dX12_back_26 : decode cX12_back 26 = .ok (.bipush 100, 2) := by decide +kernel
theorem dX12_back_28 : decode cX12_back 28 = .ok (.bipush 100, 2) := by decide +kernel
theorem dX12_back_30 : decode cX12_back 30 = .ok (.iload_n 1, 1) := by decide +kernel
theorem dX12_back_31 : decode cX12_back 31 = .ok (.imul, 1) := by decide +kernel
theorem dX12_back_32 : decode cX12_back 32 = .ok (.iadd, 1) := by decide +kernel
theorem dX12_back_33 : decode cX12_back 33 = .ok (.invokevirtual 283, 3) := by decide +kernel
theorem dX12_back_36 : decode cX12_back 36 = .ok (.aload_n 0, 1) := by decide +kernel
theorem dX12_back_37 : decode cX12_back 37 = .ok (.getfield 17, 3) := by decide +kernel
theorem dX12_back_40 : decode cX12_back 40 = .ok (.iconst 5, 1) := by decide +kernel
theorem dX12_back_41 : decode cX12_back 41 = .ok (.aload_n 0, 1) := by decide +kernel
theorem dX12_back_42 : decode cX12_back 42 = .ok (.getfield 7, 3) := by decide +kernel
theorem dX12_back_45 : decode cX12_back 45 = .ok (.bipush 97, 2) := by decide +kernel
theorem dX12_back_47 : decode cX12_back 47 = .ok (.iaload, 1) := by decide +kernel
theorem dX12_back_48 : decode cX12_back 48 = .ok (.iastore, 1) := by decide +kernel
theorem dX12_back_49 : decode cX12_back 49 = .ok (.aload_n 0, 1) := by decide +kernel
theorem dX12_back_50 : decode cX12_back 50 = .ok (.getfield 17, 3) := by decide +kernel
theorem dX12_back_53 : decode cX12_back 53 = .ok (.bipush 6, 2) := by decide +kernel
theorem dX12_back_55 : decode cX12_back 55 = .ok (.aload_n 0, 1) := by decide +kernel
theorem dX12_back_56 : decode cX12_back 56 = .ok (.getfield 7, 3) := by decide +kernel
theorem dX12_back_59 : decode cX12_back 59 = .ok (.bipush 98, 2) := by decide +kernel
theorem dX12_back_61 : decode cX12_back 61 = .ok (.iaload, 1) := by decide +kernel
theorem dX12_back_62 : decode cX12_back 62 = .ok (.iastore, 1) := by decide +kernel
theorem dX12_back_63 : decode cX12_back 63 = .ok (.aload_n 0, 1) := by decide +kernel
theorem dX12_back_64 : decode cX12_back 64 = .ok (.iconst 0, 1) := by decide +kernel
theorem dX12_back_65 : decode cX12_back 65 = .ok (.invokevirtual 192, 3) := by decide +kernel
theorem dX12_back_68 : decode cX12_back 68 = .ok (.ireturn, 1) := by decide +kernel
abbrev q_X12_back (i : Int) (σ : tw_M) : Option tw_V → tw_M → Prop := fun z τ => ∃ r : Int, z = some (vI r) ∧ (-2147483648 ≤ r ∧ r ≤ 2147483647) ∧ tw_I τ ∧ tw_F (fun c j => (c = 89 ∧ j < 100) ∨ (c = 91 ∧ (j = 5 ∨ j = 6))) σ τ ∧ (mI τ) ∧ ((τ 89 93 = σ 89 93 ∧ (¬ (i = 0 ∨ i = 1) ∨ (i = 0 ∧ σ 90 0 = 0) ∨ (i = 1 ∧ σ 90 1 = 0))) ∨ (i = 0 ∧ ¬ σ 90 0 = 0 ∧ τ 89 93 = σ 89 193) ∨ (i = 1 ∧ ¬ σ 90 1 = 0 ∧ τ 89 93 = σ 89 293)) ∧ ((τ 89 94 = σ 89 94 ∧ (¬ (i = 0 ∨ i = 1) ∨ (i = 0 ∧ σ 90 0 = 0) ∨ (i = 1 ∧ σ 90 1 = 0))) ∨ (i = 0 ∧ ¬ σ 90 0 = 0 ∧ τ 89 94 = σ 89 194) ∨ (i = 1 ∧ ¬ σ 90 1 = 0 ∧ τ 89 94 = σ 89 294)) ∧ ((τ 89 95 = σ 89 95 ∧ (¬ (i = 0 ∨ i = 1) ∨ (i = 0 ∧ σ 90 0 = 0) ∨ (i = 1 ∧ σ 90 1 = 0))) ∨ (i = 0 ∧ ¬ σ 90 0 = 0 ∧ τ 89 95 = σ 89 195) ∨ (i = 1 ∧ ¬ σ 90 1 = 0 ∧ τ 89 95 = σ 89 295)) ∧ ((τ 89 96 = σ 89 96 ∧ (¬ (i = 0 ∨ i = 1) ∨ (i = 0 ∧ σ 90 0 = 0) ∨ (i = 1 ∧ σ 90 1 = 0))) ∨ (i = 0 ∧ ¬ σ 90 0 = 0 ∧ τ 89 96 = σ 89 196) ∨ (i = 1 ∧ ¬ σ 90 1 = 0 ∧ τ 89 96 = σ 89 296)) ∧ (((r = -1 ∧ ¬ (i = 0 ∨ i = 1) ∧ ∀ c j, τ c j = σ c j) ∨ (r = -2 ∧ (i = 0 ∨ i = 1) ∧ σ 90 i.toNat = 0 ∧ ∀ c j, τ c j = σ c j) ∨ ((i = 0 ∨ i = 1) ∧ ¬ σ 90 i.toNat = 0 ∧ (∀ j : Int, 0 ≤ j → j < 97 → τ 89 j.toNat = σ 89 (100 + 100 * i + j).toNat) ∧ τ 91 5 = σ 89 (197 + 100 * i).toNat ∧ τ 91 6 = σ 89 (198 + 100 * i).toNat ∧ r = cnt (gM 0 τ) (σ 91 0).toNat)))
set_option maxHeartbeats 4000000 in
set_option maxRecDepth 100000 in
theorem c_X12_back {G : tw_G} (hM : tw_isM G) (i : Int) (hi : -2147483648 ≤ i ∧ i ≤ 2147483647) (σ : tw_M) (hI : tw_I σ) (hq0 : mI σ) : tw_C G yX12_back cX12_back 2 (some .int) 3 [vR 88, vI i] σ (q_X12_back i σ) := by
  refine tw_met [(0, vR 88), (1, vI i)] (by decide +kernel) rfl (Nat.le_of_ble_eq_true rfl) ?_
  refine j_iload_n (pc := 0) dX12_back_0 rfl rfl ?_
  refine j_i2l (pc := 1) dX12_back_1 ?_
  rw [w32_eq (a := i) (by omega) (by omega)]
  refine j_lconst (pc := 2) (z := 0) dX12_back_2 rfl ?_
  refine j_lconst (pc := 3) (z := 1) dX12_back_3 rfl ?_
  refine j_callS (pc := 4) (As := [vL i, vL 0, vL 1]) (st := []) (c_X12_in i ⟨by omega, by omega⟩ 0 (by (first | decide | exact ⟨by omega, by omega⟩)) 1 (by (first | decide | exact ⟨by omega, by omega⟩)) σ hI) ms_X12_82 rfl dX12_back_4 ⟨Nat.le_of_ble_eq_true rfl, Nat.le_of_ble_eq_true rfl⟩ ⟨Nat.le_refl _, Nat.le_refl _⟩ rfl (Nat.le_of_ble_eq_true rfl) rfl (fun z1 σ2 hz1 => ?_)
  obtain ⟨r4, rfl, hr4, rfl, q3_0⟩ := hz1
  replace q3_0 : (r4 = 1 ∧ (0 : Int) ≤ i ∧ i ≤ (1 : Int)) ∨ (r4 = 0 ∧ ¬ ((0 : Int) ≤ i ∧ i ≤ (1 : Int))) := q3_0
  refine j_st (st' := [vI r4]) rfl ?_
  refine j_ifR_ne (pc := 7) (tgt := 12) ⟨by omega, by omega⟩ dX12_back_7 rfl (fun h5 => ?_) (fun h5 => ?_)
  · refine j_aload_n (pc := 12) dX12_back_12 rfl rfl ?_
    refine j_getR (pc := 13) (r := 90) fl_X12_13 dX12_back_13 (a_88 hM) rfl ?_
    refine j_iload_n (pc := 16) dX12_back_16 rfl rfl ?_
    have k1 : (i = 0 ∧ σ 90 i.toNat = σ 90 0) ∨ (i = 1 ∧ σ 90 i.toNat = σ 90 1) := by
      rcases (show i = 0 ∨ i = 1 by omega) with q | q
      · exact Or.inl ⟨q, by rw [q]; rfl⟩
      · exact Or.inr ⟨q, by rw [q]; rfl⟩
    refine j_zald (pc := 17) dX12_back_17 (a_90 hM) (by omega) (by omega) (by decide) ?_
    have f6 : (0 : Int) ≤ σ 90 (i.toNat) ∧ σ 90 (i.toNat) ≤ 1 := hI 90 (i.toNat)
    refine j_ifR_ne (pc := 18) (tgt := 24) ⟨by omega, by omega⟩ dX12_back_18 rfl (fun h7 => ?_) (fun h7 => ?_)
    · refine j_aload_n (pc := 24) dX12_back_24 rfl rfl ?_
      refine j_iconst (pc := 25) dX12_back_25 ?_
      refine j_bipush (pc := 26) dX12_back_26 rfl ?_
      refine j_bipush (pc := 28) dX12_back_28 rfl ?_
      refine j_iload_n (pc := 30) dX12_back_30 rfl rfl ?_
      refine j_imul (pc := 31) dX12_back_31 ?_
      refine j_iadd (pc := 32) dX12_back_32 ?_
      refine j_callV (pc := 33) (As := [vI 0, vI (100 + (100 * i))]) (st := []) (c_X12_copies hM 0 (by (first | decide | exact ⟨by omega, by omega⟩)) (100 + (100 * i)) ⟨by omega, by omega⟩ σ hI (by omega) (by omega) (by omega)) mv_X12_283 rfl rfl rfl (a_88 hM) dX12_back_33 ⟨Nat.le_of_ble_eq_true rfl, Nat.le_of_ble_eq_true rfl⟩ ⟨Nat.le_refl _, Nat.le_refl _⟩ rfl (Nat.le_of_ble_eq_true rfl) rfl (fun z8 σ9 hz8 => ?_)
      obtain ⟨rfl, hIσ9, hGσ9, q10_0⟩ := hz8
      replace q10_0 : ∀ j : Nat, (j : Int) < 100 → σ9 89 ((0 : Int) + (j : Int)).toNat = σ 89 ((100 + (100 * i)) + (j : Int)).toNat := q10_0
      have hFσ9 : tw_F (fun c j => (c = 89 ∧ j < 100) ∨ (c = 91 ∧ (j = 5 ∨ j = 6))) σ σ9 := tw_F_tr (tw_F_rf) hGσ9 (fun c j q => (show (c = 89 ∧ j < 100) ∨ (c = 91 ∧ (j = 5 ∨ j = 6)) from by replace q : (c = 89 ∧ (0 : Int) ≤ (j : Int) ∧ (j : Int) < (0 : Int) + 100) := q; omega))
      refine j_st (st' := []) rfl ?_
      have k93 : (i = 0 ∧ σ9 89 93 = σ 89 193) ∨ (i = 1 ∧ σ9 89 93 = σ 89 293) := by
        rcases (show i = 0 ∨ i = 1 by omega) with q | q
        · exact Or.inl ⟨q, cpy q10_0 (j := 93) (by decide) (by omega) (by omega)⟩
        · exact Or.inr ⟨q, cpy q10_0 (j := 93) (by decide) (by omega) (by omega)⟩
      have k94 : (i = 0 ∧ σ9 89 94 = σ 89 194) ∨ (i = 1 ∧ σ9 89 94 = σ 89 294) := by
        rcases (show i = 0 ∨ i = 1 by omega) with q | q
        · exact Or.inl ⟨q, cpy q10_0 (j := 94) (by decide) (by omega) (by omega)⟩
        · exact Or.inr ⟨q, cpy q10_0 (j := 94) (by decide) (by omega) (by omega)⟩
      have k95 : (i = 0 ∧ σ9 89 95 = σ 89 195) ∨ (i = 1 ∧ σ9 89 95 = σ 89 295) := by
        rcases (show i = 0 ∨ i = 1 by omega) with q | q
        · exact Or.inl ⟨q, cpy q10_0 (j := 95) (by decide) (by omega) (by omega)⟩
        · exact Or.inr ⟨q, cpy q10_0 (j := 95) (by decide) (by omega) (by omega)⟩
      have k96 : (i = 0 ∧ σ9 89 96 = σ 89 196) ∨ (i = 1 ∧ σ9 89 96 = σ 89 296) := by
        rcases (show i = 0 ∨ i = 1 by omega) with q | q
        · exact Or.inl ⟨q, cpy q10_0 (j := 96) (by decide) (by omega) (by omega)⟩
        · exact Or.inr ⟨q, cpy q10_0 (j := 96) (by decide) (by omega) (by omega)⟩
      have q9 := q10_0
      refine j_aload_n (pc := 36) dX12_back_36 rfl rfl ?_
      refine j_getR (pc := 37) (r := 91) fl_X12_17 dX12_back_37 (a_88 hM) rfl ?_
      refine j_iconst (pc := 40) dX12_back_40 ?_
      refine j_aload_n (pc := 41) dX12_back_41 rfl rfl ?_
      refine j_getR (pc := 42) (r := 89) fl_X12_7 dX12_back_42 (a_88 hM) rfl ?_
      refine j_bipush (pc := 45) dX12_back_45 rfl ?_
      refine j_iald (pc := 47) dX12_back_47 (a_89 hM) (by omega) (by omega) (by decide) ?_
      refine j_topV (show σ9 89 (Int.toNat 97) = σ9 89 97 from rfl) ?_
      have f12 : (-2147483648 : Int) ≤ σ9 89 97 ∧ σ9 89 97 ≤ 2147483647 := hIσ9 89 97
      refine j_iast (pc := 48) dX12_back_48 (a_91 hM) (by omega) (by omega) (by decide) (j_nm (fun σ13 (eσ13 : σ13 = tw_up σ9 91 5 (σ9 89 97)) => ?_))
      have hIσ13 : tw_I σ13 := tw_I_up hIσ9 eσ13 (show (-2147483648 : Int) ≤ σ9 89 97 ∧ σ9 89 97 ≤ 2147483647 from ⟨by omega, by omega⟩)
      have hFσ13 : tw_F (fun c j => (c = 89 ∧ j < 100) ∨ (c = 91 ∧ (j = 5 ∨ j = 6))) σ σ13 := tw_F_up hFσ9 eσ13 (show (91 = 89 ∧ 5 < 100) ∨ (91 = 91 ∧ (5 = 5 ∨ 5 = 6)) from (Or.inr ⟨rfl, (Or.inl rfl)⟩))
      refine j_aload_n (pc := 49) dX12_back_49 rfl rfl ?_
      refine j_getR (pc := 50) (r := 91) fl_X12_17 dX12_back_50 (a_88 hM) rfl ?_
      refine j_bipush (pc := 53) dX12_back_53 rfl ?_
      refine j_aload_n (pc := 55) dX12_back_55 rfl rfl ?_
      refine j_getR (pc := 56) (r := 89) fl_X12_7 dX12_back_56 (a_88 hM) rfl ?_
      refine j_bipush (pc := 59) dX12_back_59 rfl ?_
      refine j_iald (pc := 61) dX12_back_61 (a_89 hM) (by omega) (by omega) (by decide) ?_
      refine j_topV (show σ13 89 (Int.toNat 98) = σ13 89 98 from rfl) ?_
      refine j_topV (show σ13 89 98 = σ9 89 98 from (tw_ne1 eσ13 (by (first | decide | omega)))) ?_
      have f14 : (-2147483648 : Int) ≤ σ9 89 98 ∧ σ9 89 98 ≤ 2147483647 := hIσ9 89 98
      refine j_iast (pc := 62) dX12_back_62 (a_91 hM) (by omega) (by omega) (by decide) (j_nm (fun σ15 (eσ15 : σ15 = tw_up σ13 91 6 (σ9 89 98)) => ?_))
      have hIσ15 : tw_I σ15 := tw_I_up hIσ13 eσ15 (show (-2147483648 : Int) ≤ σ9 89 98 ∧ σ9 89 98 ≤ 2147483647 from ⟨by omega, by omega⟩)
      have hFσ15 : tw_F (fun c j => (c = 89 ∧ j < 100) ∨ (c = 91 ∧ (j = 5 ∨ j = 6))) σ σ15 := tw_F_up hFσ13 eσ15 (show (91 = 89 ∧ 6 < 100) ∨ (91 = 91 ∧ (6 = 5 ∨ 6 = 6)) from (Or.inr ⟨rfl, (Or.inr rfl)⟩))
      have mI9 : mI σ15 := mI_back (i := i) ⟨by omega, by omega⟩ hI hq0 (by omega) hGσ9 (fun c j q => (show ¬ ((c = 89 ∧ (0 : Int) ≤ (j : Int) ∧ (j : Int) < (0 : Int) + 100)) from by omega)) q10_0 (fun c j q => by rw [tw_ne1 eσ15 (by (first | decide | omega)), tw_ne1 eσ13 (by (first | decide | omega))])
      refine j_aload_n (pc := 63) dX12_back_63 rfl rfl ?_
      refine j_iconst (pc := 64) dX12_back_64 ?_
      refine j_callV (pc := 65) (As := [vI 0]) (st := []) (c_X12_all hM 0 (by (first | decide | exact ⟨by omega, by omega⟩)) σ15 hIσ15) mv_X12_192 rfl rfl rfl (a_88 hM) dX12_back_65 ⟨Nat.le_of_ble_eq_true rfl, Nat.le_of_ble_eq_true rfl⟩ ⟨Nat.le_refl _, Nat.le_refl _⟩ rfl (Nat.le_of_ble_eq_true rfl) rfl (fun z16 σ17 hz16 => ?_)
      obtain ⟨r19, rfl, hr19, rfl, q18_0⟩ := hz16
      replace q18_0 : r19 = mc σ15 (0 : Int) (σ15 91 0).toNat := q18_0
      refine j_st (st' := [vI r19]) rfl ?_
      have fin : ((r19 = -1 ∧ ¬ (i = 0 ∨ i = 1) ∧ ∀ c j, σ15 c j = σ c j) ∨ (r19 = -2 ∧ (i = 0 ∨ i = 1) ∧ σ 90 i.toNat = 0 ∧ ∀ c j, σ15 c j = σ c j) ∨ ((i = 0 ∨ i = 1) ∧ ¬ σ 90 i.toNat = 0 ∧ (∀ j : Int, 0 ≤ j → j < 97 → σ15 89 j.toNat = σ 89 (100 + 100 * i + j).toNat) ∧ σ15 91 5 = σ 89 (197 + 100 * i).toNat ∧ σ15 91 6 = σ 89 (198 + 100 * i).toNat ∧ r19 = cnt (gM 0 σ15) (σ 91 0).toNat)) := by
        have ft : (1 : Int) ≤ σ 91 0 ∧ σ 91 0 ≤ 40 := hI 91 0
        have n0 : σ15 91 0 = σ 91 0 := (tw_ne1 eσ15 (by (first | decide | omega))).trans ((tw_ne1 eσ13 (by (first | decide | omega))).trans (hGσ9 91 0 (show ¬ ((91 = 89 ∧ (0 : Int) ≤ (0 : Int) ∧ (0 : Int) < (0 : Int) + 100)) from fun h => absurd h.1 (by decide))))
        have r9 := q18_0
        rw [n0, mc_gM (by omega)] at r9
        have e5 := q9 97 (by omega)
        have e6 := q9 98 (by omega)
        rw [show (0 + ((97 : Nat) : Int)).toNat = 97 from by omega] at e5
        rw [show (0 + ((98 : Nat) : Int)).toNat = 98 from by omega] at e6
        refine Or.inr (Or.inr ⟨by omega, by omega, fun j j1 j2 => ?_, ?_, ?_, r9⟩)
        · have e := q9 j.toNat (by omega)
          rw [show ((j.toNat : Nat) : Int) = j from by omega, show (0 + j).toNat = j.toNat from by omega] at e
          exact (tw_ne1 eσ15 (by (first | decide | omega))).trans ((tw_ne1 eσ13 (by (first | decide | omega))).trans e)
        · rw [show (197 + 100 * i).toNat = (100 + 100 * i + ((97 : Nat) : Int)).toNat from by omega, ← e5]
          exact (tw_ne1 eσ15 (by (first | decide | omega))).trans (tw_eq1 eσ13)
        · rw [show (198 + 100 * i).toNat = (100 + 100 * i + ((98 : Nat) : Int)).toNat from by omega, ← e6]
          first | exact tw_eq1 eσ15 | exact (tw_eq1 eσ15).trans (tw_ne1 eσ13 (by (first | decide | omega)))
      have y20 : σ15 89 93 = σ9 89 93 := ((tw_ne1 eσ15 (by (first | decide | omega)))).trans (tw_ne1 eσ13 (by (first | decide | omega)))
      have f21 : (0 : Int) ≤ σ9 89 93 ∧ σ9 89 93 ≤ 999 := hIσ9 89 93
      have y22 : σ15 89 94 = σ9 89 94 := ((tw_ne1 eσ15 (by (first | decide | omega)))).trans (tw_ne1 eσ13 (by (first | decide | omega)))
      have f23 : (-2147483648 : Int) ≤ σ9 89 94 ∧ σ9 89 94 ≤ 2147483647 := hIσ9 89 94
      have y24 : σ15 89 95 = σ9 89 95 := ((tw_ne1 eσ15 (by (first | decide | omega)))).trans (tw_ne1 eσ13 (by (first | decide | omega)))
      have f25 : (0 : Int) ≤ σ9 89 95 ∧ σ9 89 95 ≤ 999 := hIσ9 89 95
      have y26 : σ15 89 96 = σ9 89 96 := ((tw_ne1 eσ15 (by (first | decide | omega)))).trans (tw_ne1 eσ13 (by (first | decide | omega)))
      have f27 : (-2147483648 : Int) ≤ σ9 89 96 ∧ σ9 89 96 ≤ 2147483647 := hIσ9 89 96
      have y28 : σ15 91 5 = σ9 89 97 := ((tw_ne1 eσ15 (by (first | decide | omega)))).trans (tw_eq1 eσ13)
      have y29 : σ15 91 6 = σ9 89 98 := (tw_eq1 eσ15)
      exact j_iret (pc := 68) ⟨rfl, rfl⟩ dX12_back_68 rfl ⟨_, rfl, ⟨by omega, by omega⟩, hIσ15, hFσ15, (by first | exact mI9 | exact hq0), by omega, by omega, by omega, by omega, fin⟩
    · refine j_bipush (pc := 21) dX12_back_21 rfl ?_
      have fin : (((-2) = -1 ∧ ¬ (i = 0 ∨ i = 1) ∧ ∀ c j, σ c j = σ c j) ∨ ((-2) = -2 ∧ (i = 0 ∨ i = 1) ∧ σ 90 i.toNat = 0 ∧ ∀ c j, σ c j = σ c j) ∨ ((i = 0 ∨ i = 1) ∧ ¬ σ 90 i.toNat = 0 ∧ (∀ j : Int, 0 ≤ j → j < 97 → σ 89 j.toNat = σ 89 (100 + 100 * i + j).toNat) ∧ σ 91 5 = σ 89 (197 + 100 * i).toNat ∧ σ 91 6 = σ 89 (198 + 100 * i).toNat ∧ (-2) = cnt (gM 0 σ) (σ 91 0).toNat)) := Or.inr (Or.inl ⟨rfl, by omega, by omega, fun c j => rfl⟩)
      exact j_iret (pc := 23) ⟨rfl, rfl⟩ dX12_back_23 rfl ⟨_, rfl, ⟨by omega, by omega⟩, hI, (tw_F_rf), (by first | exact mI9 | exact hq0), by omega, by omega, by omega, by omega, fin⟩
  · refine j_iconst (pc := 10) dX12_back_10 ?_
    have fin : (((-1) = -1 ∧ ¬ (i = 0 ∨ i = 1) ∧ ∀ c j, σ c j = σ c j) ∨ ((-1) = -2 ∧ (i = 0 ∨ i = 1) ∧ σ 90 i.toNat = 0 ∧ ∀ c j, σ c j = σ c j) ∨ ((i = 0 ∨ i = 1) ∧ ¬ σ 90 i.toNat = 0 ∧ (∀ j : Int, 0 ≤ j → j < 97 → σ 89 j.toNat = σ 89 (100 + 100 * i + j).toNat) ∧ σ 91 5 = σ 89 (197 + 100 * i).toNat ∧ σ 91 6 = σ 89 (198 + 100 * i).toNat ∧ (-1) = cnt (gM 0 σ) (σ 91 0).toNat)) := Or.inl ⟨rfl, by omega, fun c j => rfl⟩
    exact j_iret (pc := 11) ⟨rfl, rfl⟩ dX12_back_11 rfl ⟨_, rfl, ⟨by omega, by omega⟩, hI, (tw_F_rf), (by first | exact mI9 | exact hq0), by omega, by omega, by omega, by omega, fin⟩
