/-! 32ak.model -/
theorem dX12_image_0 : decode cX12_image 0 = .ok (.iload_n 1, 1) := by decide +kernel
theorem dX12_image_1 : decode cX12_image 1 = .ok (.i2l, 1) := by decide +kernel
theorem dX12_image_2 : decode cX12_image 2 = .ok (.lconst 0, 1) := by decide +kernel
theorem dX12_image_3 : decode cX12_image 3 = .ok (.lconst 1, 1) := by decide +kernel
theorem dX12_image_4 : decode cX12_image 4 = .ok (.invokestatic 82, 3) := by decide +kernel
theorem dX12_image_7 : decode cX12_image 7 = .ok (.ifCond .ne 5, 3) := by decide +kernel
theorem dX12_image_10 : decode cX12_image 10 = .ok (.iconst (-1), 1) := by decide +kernel
theorem dX12_image_11 : decode cX12_image 11 = .ok (.ireturn, 1) := by decide +kernel
theorem dX12_image_12 : decode cX12_image 12 = .ok (.aload_n 0, 1) := by decide +kernel
theorem dX12_image_13 : decode cX12_image 13 = .ok (.getfield 13, 3) := by decide +kernel
theorem dX12_image_16 : decode cX12_image 16 = .ok (.iload_n 1, 1) := by decide +kernel
theorem dX12_image_17 : decode cX12_image 17 = .ok (.baload, 1) := by decide +kernel
theorem dX12_image_18 : decode cX12_image 18 = .ok (.invokestatic 168, 3) := by decide +kernel
theorem dX12_image_21 : decode cX12_image 21 = .ok (.istore_n 2, 1) := by decide +kernel
theorem dX12_image_22 : decode cX12_image 22 = .ok (.aload_n 0, 1) := by decide +kernel
theorem dX12_image_23 : decode cX12_image 23 = .ok (.getfield 13, 3) := by decide +kernel
theorem dX12_image_26 : decode cX12_image 26 = .ok (.iload_n 1, 1) := by decide +kernel
theorem dX12_image_27 : decode cX12_image 27 = .ok (.iconst 1, 1) := by decide +kernel
theorem dX12_image_28 : decode cX12_image 28 = .ok (.bastore, 1) := by decide +kernel
theorem dX12_image_29 : decode cX12_image 29 = .ok (.aload_n 0, 1) := by decide +kernel
theorem dX12_image_30 : decode cX12_image 30 = .ok (.getfield 7, 3) := by decide +kernel
theorem dX12_image_33 : decode cX12_image 33 = .ok (.bipush 97, 2) := by decide +kernel
theorem dX12_image_35 : decode cX12_image 35 = .ok (.aload_n 0, 1) := by decide +kernel
theorem dX12_image_36 : decode cX12_image 36 = .ok (.getfield 17, 3) := by decide +kernel
theorem dX12_image_39 : decode cX12_image 39 = .ok (.iconst 5, 1) := by decide +kernel
theorem dX12_image_40 : decode cX12_image 40 = .ok (.iaload, 1) := by decide +kernel
theorem dX12_image_41 : decode cX12_image 41 = .ok (.iastore, 1) := by decide +kernel
theorem dX12_image_42 : decode cX12_image 42 = .ok (.aload_n 0, 1) := by decide +kernel
theorem dX12_image_43 : decode cX12_image 43 = .ok (.getfield 7, 3) := by decide +kernel
theorem dX12_image_46 : decode cX12_image 46 = .ok (.bipush 98, 2) := by decide +kernel
theorem dX12_image_48 : decode cX12_image 48 = .ok (.aload_n 0, 1) := by decide +kernel
theorem dX12_image_49 : decode cX12_image 49 = .ok (.getfield 17, 3) := by decide +kernel
theorem dX12_image_52 : decode cX12_image 52 = .ok (.bipush 6, 2) := by decide +kernel
theorem dX12_image_54 : decode cX12_image 54 = .ok (.iaload, 1) := by decide +kernel
theorem dX12_image_55 : decode cX12_image 55 = .ok (.iastore, 1) := by decide +kernel
theorem dX12_image_56 : decode cX12_image 56 = .ok (.aload_n 0, 1) := by decide +kernel
theorem dX12_image_57 : decode cX12_image 57 = .ok (.bipush 100, 2) := by decide +kernel
theorem dX12_image_59 : decode cX12_image 59 = .ok (.bipush 100, 2) := by decide +kernel
theorem dX12_image_61 : decode cX12_image 61 = .ok (.iload_n 1, 1) := by decide +kernel
theorem dX12_image_62 : decode cX12_image 62 = .ok (.imul, 1) := by decide +kernel
theorem dX12_image_63 : decode cX12_image 63 = .ok (.iadd, 1) := by decide +kernel
theorem dX12_image_64 : decode cX12_image 64 = .ok (.iconst 0, 1) := by decide +kernel
theorem dX12_image_65 : decode cX12_image 65 = .ok (.invokevirtual 283, 3) := by decide +kernel
theorem dX12_image_68 : decode cX12_image 68 = .ok (.iload_n 2, 1) := by decide +kernel
theorem dX12_image_69 : decode cX12_image 69 = .ok (.ireturn, 1) := by decide +kernel
abbrev q_X12_image (i : Int) (σ : tw_M) : Option tw_V → tw_M → Prop := fun z τ => ∃ r : Int, z = some (vI r) ∧ (-2147483648 ≤ r ∧ r ≤ 2147483647) ∧ tw_I τ ∧ tw_F (fun c j => (c = 90) ∨ (c = 89 ∧ (j = 97 ∨ j = 98 ∨ (100 ≤ j ∧ j < 300)))) σ τ ∧ (mI τ) ∧ ((r = -1 ∧ ¬ (i = 0 ∨ i = 1) ∧ τ 90 0 = σ 90 0 ∧ τ 90 1 = σ 90 1) ∨ (i = 0 ∧ r = σ 90 0 ∧ τ 90 0 = 1 ∧ τ 90 1 = σ 90 1) ∨ (i = 1 ∧ r = σ 90 1 ∧ τ 90 1 = 1 ∧ τ 90 0 = σ 90 0)) ∧ ((i = 0 ∧ τ 89 193 = σ 89 93) ∨ (¬ i = 0 ∧ τ 89 193 = σ 89 193)) ∧ ((i = 0 ∧ τ 89 194 = σ 89 94) ∨ (¬ i = 0 ∧ τ 89 194 = σ 89 194)) ∧ ((i = 0 ∧ τ 89 195 = σ 89 95) ∨ (¬ i = 0 ∧ τ 89 195 = σ 89 195)) ∧ ((i = 0 ∧ τ 89 196 = σ 89 96) ∨ (¬ i = 0 ∧ τ 89 196 = σ 89 196)) ∧ ((i = 1 ∧ τ 89 293 = σ 89 93) ∨ (¬ i = 1 ∧ τ 89 293 = σ 89 293)) ∧ ((i = 1 ∧ τ 89 294 = σ 89 94) ∨ (¬ i = 1 ∧ τ 89 294 = σ 89 294)) ∧ ((i = 1 ∧ τ 89 295 = σ 89 95) ∨ (¬ i = 1 ∧ τ 89 295 = σ 89 295)) ∧ ((i = 1 ∧ τ 89 296 = σ 89 96) ∨ (¬ i = 1 ∧ τ 89 296 = σ 89 296)) ∧ (((¬ (i = 0 ∨ i = 1) ∧ ∀ c j, τ c j = σ c j) ∨ ((i = 0 ∨ i = 1) ∧ (∀ j : Int, 0 ≤ j → j < 97 → τ 89 (100 + 100 * i + j).toNat = σ 89 j.toNat) ∧ τ 89 (197 + 100 * i).toNat = σ 91 5 ∧ τ 89 (198 + 100 * i).toNat = σ 91 6 ∧ (∀ j : Nat, (j < 97 ∨ (100 ≤ j ∧ ((j : Int) < 100 + 100 * i ∨ 200 + 100 * i ≤ (j : Int)))) → τ 89 j = σ 89 j))))
set_option maxHeartbeats 4000000 in
set_option maxRecDepth 100000 in
theorem c_X12_image {G : tw_G} (hM : tw_isM G) (i : Int) (hi : -2147483648 ≤ i ∧ i ≤ 2147483647) (σ : tw_M) (hI : tw_I σ) (hq0 : mI σ) : tw_C G yX12_image cX12_image 3 (some .int) 1 [vR 88, vI i] σ (q_X12_image i σ) := by
  refine tw_met [(0, vR 88), (1, vI i)] (by decide +kernel) rfl (Nat.le_of_ble_eq_true rfl) ?_
  refine j_iload_n (pc := 0) dX12_image_0 rfl rfl ?_
  refine j_i2l (pc := 1) dX12_image_1 ?_
  rw [w32_eq (a := i) (by omega) (by omega)]
  refine j_lconst (pc := 2) (z := 0) dX12_image_2 rfl ?_
  refine j_lconst (pc := 3) (z := 1) dX12_image_3 rfl ?_
  refine j_callS (pc := 4) (As := [vL i, vL 0, vL 1]) (st := []) (c_X12_in i ⟨by omega, by omega⟩ 0 (by (first | decide | exact ⟨by omega, by omega⟩)) 1 (by (first | decide | exact ⟨by omega, by omega⟩)) σ hI) ms_X12_82 rfl dX12_image_4 ⟨Nat.le_of_ble_eq_true rfl, Nat.le_of_ble_eq_true rfl⟩ ⟨Nat.le_refl _, Nat.le_refl _⟩ rfl (Nat.le_of_ble_eq_true rfl) rfl (fun z1 σ2 hz1 => ?_)
  obtain ⟨r4, rfl, hr4, rfl, q3_0⟩ := hz1
  replace q3_0 : (r4 = 1 ∧ (0 : Int) ≤ i ∧ i ≤ (1 : Int)) ∨ (r4 = 0 ∧ ¬ ((0 : Int) ≤ i ∧ i ≤ (1 : Int))) := q3_0
  refine j_st (st' := [vI r4]) rfl ?_
  refine j_ifR_ne (pc := 7) (tgt := 12) ⟨by omega, by omega⟩ dX12_image_7 rfl (fun h5 => ?_) (fun h5 => ?_)
  · refine j_aload_n (pc := 12) dX12_image_12 rfl rfl ?_
    refine j_getR (pc := 13) (r := 90) fl_X12_13 dX12_image_13 (a_88 hM) rfl ?_
    refine j_iload_n (pc := 16) dX12_image_16 rfl rfl ?_
    have k1 : (i = 0 ∧ σ 90 i.toNat = σ 90 0) ∨ (i = 1 ∧ σ 90 i.toNat = σ 90 1) := by
      rcases (show i = 0 ∨ i = 1 by omega) with q | q
      · exact Or.inl ⟨q, by rw [q]; rfl⟩
      · exact Or.inr ⟨q, by rw [q]; rfl⟩
    refine j_zald (pc := 17) dX12_image_17 (a_90 hM) (by omega) (by omega) (by decide) ?_
    have f6 : (0 : Int) ≤ σ 90 (i.toNat) ∧ σ 90 (i.toNat) ≤ 1 := hI 90 (i.toNat)
    refine j_callS (pc := 18) (As := [vI (σ 90 (i.toNat))]) (st := []) (c_X12_flag (σ 90 (i.toNat)) ⟨by omega, by omega⟩ σ hI) ms_X12_168 rfl dX12_image_18 ⟨Nat.le_of_ble_eq_true rfl, Nat.le_of_ble_eq_true rfl⟩ ⟨Nat.le_refl _, Nat.le_refl _⟩ rfl (Nat.le_of_ble_eq_true rfl) rfl (fun z7 σ8 hz7 => ?_)
    obtain ⟨r10, rfl, hr10, rfl, q9_0⟩ := hz7
    replace q9_0 : r10 = (σ 90 (i.toNat)) := q9_0
    refine j_st (st' := [vI r10]) rfl ?_
    refine j_istore_n (pc := 21) (i := 2) (ls' := [(0, vR 88), (1, vI i), (2, vI r10)]) [1, 2, 0] dX12_image_21 rfl (Nat.le_of_ble_eq_true rfl) rfl rfl ?_
    refine j_aload_n (pc := 22) dX12_image_22 rfl rfl ?_
    refine j_getR (pc := 23) (r := 90) fl_X12_13 dX12_image_23 (a_88 hM) rfl ?_
    refine j_iload_n (pc := 26) dX12_image_26 rfl rfl ?_
    refine j_iconst (pc := 27) dX12_image_27 ?_
    refine j_zast (pc := 28) (by omega) dX12_image_28 (a_90 hM) (by omega) (by omega) (by decide) (j_nm (fun σ11 (eσ11 : σ11 = tw_up σ 90 (i.toNat) 1) => ?_))
    have hIσ11 : tw_I σ11 := tw_I_up hI eσ11 (show (0 : Int) ≤ 1 ∧ 1 ≤ 1 from by decide)
    have hFσ11 : tw_F (fun c j => (c = 90) ∨ (c = 89 ∧ (j = 97 ∨ j = 98 ∨ (100 ≤ j ∧ j < 300)))) σ σ11 := tw_F_up (tw_F_rf) eσ11 (show (90 = 90) ∨ (90 = 89 ∧ (i.toNat = 97 ∨ i.toNat = 98 ∨ (100 ≤ i.toNat ∧ i.toNat < 300))) from by omega)
    have k0 : (i = 0 ∧ σ11 90 0 = 1 ∧ σ11 90 1 = σ 90 1) ∨ (i = 1 ∧ σ11 90 1 = 1 ∧ σ11 90 0 = σ 90 0) := by
      rcases (show i = 0 ∨ i = 1 by omega) with q | q
      · exact Or.inl ⟨q, tw_eq2 eσ11 (by omega), tw_ne1 eσ11 (by (first | decide | omega))⟩
      · exact Or.inr ⟨q, tw_eq2 eσ11 (by omega), tw_ne1 eσ11 (by (first | decide | omega))⟩
    refine j_aload_n (pc := 29) dX12_image_29 rfl rfl ?_
    refine j_getR (pc := 30) (r := 89) fl_X12_7 dX12_image_30 (a_88 hM) rfl ?_
    refine j_bipush (pc := 33) dX12_image_33 rfl ?_
    refine j_aload_n (pc := 35) dX12_image_35 rfl rfl ?_
    refine j_getR (pc := 36) (r := 91) fl_X12_17 dX12_image_36 (a_88 hM) rfl ?_
    refine j_iconst (pc := 39) dX12_image_39 ?_
    refine j_iald (pc := 40) dX12_image_40 (a_91 hM) (by omega) (by omega) (by decide) ?_
    refine j_topV (show σ11 91 (Int.toNat 5) = σ11 91 5 from rfl) ?_
    refine j_topV (show σ11 91 5 = σ 91 5 from (tw_ne1 eσ11 (by (first | decide | omega)))) ?_
    have f12 : (-2147483648 : Int) ≤ σ 91 5 ∧ σ 91 5 ≤ 2147483647 := hI 91 5
    refine j_iast (pc := 41) dX12_image_41 (a_89 hM) (by omega) (by omega) (by decide) (j_nm (fun σ13 (eσ13 : σ13 = tw_up σ11 89 97 (σ 91 5)) => ?_))
    have hIσ13 : tw_I σ13 := tw_I_up hIσ11 eσ13  (st_wd (by decide) (by omega))
    have hFσ13 : tw_F (fun c j => (c = 90) ∨ (c = 89 ∧ (j = 97 ∨ j = 98 ∨ (100 ≤ j ∧ j < 300)))) σ σ13 := tw_F_up hFσ11 eσ13 (show (89 = 90) ∨ (89 = 89 ∧ (97 = 97 ∨ 97 = 98 ∨ (100 ≤ 97 ∧ 97 < 300))) from by decide)
    refine j_aload_n (pc := 42) dX12_image_42 rfl rfl ?_
    refine j_getR (pc := 43) (r := 89) fl_X12_7 dX12_image_43 (a_88 hM) rfl ?_
    refine j_bipush (pc := 46) dX12_image_46 rfl ?_
    refine j_aload_n (pc := 48) dX12_image_48 rfl rfl ?_
    refine j_getR (pc := 49) (r := 91) fl_X12_17 dX12_image_49 (a_88 hM) rfl ?_
    refine j_bipush (pc := 52) dX12_image_52 rfl ?_
    refine j_iald (pc := 54) dX12_image_54 (a_91 hM) (by omega) (by omega) (by decide) ?_
    refine j_topV (show σ13 91 (Int.toNat 6) = σ13 91 6 from rfl) ?_
    refine j_topV (show σ13 91 6 = σ 91 6 from ((tw_ne1 eσ13 (by (first | decide | omega)))).trans (tw_ne1 eσ11 (by (first | decide | omega)))) ?_
    have f14 : (-2147483648 : Int) ≤ σ 91 6 ∧ σ 91 6 ≤ 2147483647 := hI 91 6
    refine j_iast (pc := 55) dX12_image_55 (a_89 hM) (by omega) (by omega) (by decide) (j_nm (fun σ15 (eσ15 : σ15 = tw_up σ13 89 98 (σ 91 6)) => ?_))
    have hIσ15 : tw_I σ15 := tw_I_up hIσ13 eσ15  (st_wd (by decide) (by omega))
    have hFσ15 : tw_F (fun c j => (c = 90) ∨ (c = 89 ∧ (j = 97 ∨ j = 98 ∨ (100 ≤ j ∧ j < 300)))) σ σ15 := tw_F_up hFσ13 eσ15 (show (89 = 90) ∨ (89 = 89 ∧ (98 = 97 ∨ 98 = 98 ∨ (100 ≤ 98 ∧ 98 < 300))) from by decide)
    refine j_aload_n (pc := 56) dX12_image_56 rfl rfl ?_
    refine j_bipush (pc := 57) dX12_image_57 rfl ?_
    refine j_bipush (pc := 59) dX12_image_59 rfl ?_
    refine j_iload_n (pc := 61) dX12_image_61 rfl rfl ?_
    refine j_imul (pc := 62) dX12_image_62 ?_
    refine j_iadd (pc := 63) dX12_image_63 ?_
    refine j_iconst (pc := 64) dX12_image_64 ?_
    have b93 : σ15 89 93 = σ 89 93 := (((tw_ne1 eσ15 (by (first | decide | omega)))).trans (tw_ne1 eσ13 (by (first | decide | omega)))).trans (tw_ne1 eσ11 (by (first | decide | omega)))
    have b94 : σ15 89 94 = σ 89 94 := (((tw_ne1 eσ15 (by (first | decide | omega)))).trans (tw_ne1 eσ13 (by (first | decide | omega)))).trans (tw_ne1 eσ11 (by (first | decide | omega)))
    have b95 : σ15 89 95 = σ 89 95 := (((tw_ne1 eσ15 (by (first | decide | omega)))).trans (tw_ne1 eσ13 (by (first | decide | omega)))).trans (tw_ne1 eσ11 (by (first | decide | omega)))
    have b96 : σ15 89 96 = σ 89 96 := (((tw_ne1 eσ15 (by (first | decide | omega)))).trans (tw_ne1 eσ13 (by (first | decide | omega)))).trans (tw_ne1 eσ11 (by (first | decide | omega)))
    have b193 : σ15 89 193 = σ 89 193 := (((tw_ne1 eσ15 (by (first | decide | omega)))).trans (tw_ne1 eσ13 (by (first | decide | omega)))).trans (tw_ne1 eσ11 (by (first | decide | omega)))
    have b194 : σ15 89 194 = σ 89 194 := (((tw_ne1 eσ15 (by (first | decide | omega)))).trans (tw_ne1 eσ13 (by (first | decide | omega)))).trans (tw_ne1 eσ11 (by (first | decide | omega)))
    have b195 : σ15 89 195 = σ 89 195 := (((tw_ne1 eσ15 (by (first | decide | omega)))).trans (tw_ne1 eσ13 (by (first | decide | omega)))).trans (tw_ne1 eσ11 (by (first | decide | omega)))
    have b196 : σ15 89 196 = σ 89 196 := (((tw_ne1 eσ15 (by (first | decide | omega)))).trans (tw_ne1 eσ13 (by (first | decide | omega)))).trans (tw_ne1 eσ11 (by (first | decide | omega)))
    have b293 : σ15 89 293 = σ 89 293 := (((tw_ne1 eσ15 (by (first | decide | omega)))).trans (tw_ne1 eσ13 (by (first | decide | omega)))).trans (tw_ne1 eσ11 (by (first | decide | omega)))
    have b294 : σ15 89 294 = σ 89 294 := (((tw_ne1 eσ15 (by (first | decide | omega)))).trans (tw_ne1 eσ13 (by (first | decide | omega)))).trans (tw_ne1 eσ11 (by (first | decide | omega)))
    have b295 : σ15 89 295 = σ 89 295 := (((tw_ne1 eσ15 (by (first | decide | omega)))).trans (tw_ne1 eσ13 (by (first | decide | omega)))).trans (tw_ne1 eσ11 (by (first | decide | omega)))
    have b296 : σ15 89 296 = σ 89 296 := (((tw_ne1 eσ15 (by (first | decide | omega)))).trans (tw_ne1 eσ13 (by (first | decide | omega)))).trans (tw_ne1 eσ11 (by (first | decide | omega)))
    refine j_callV (pc := 65) (As := [vI (100 + (100 * i)), vI 0]) (st := []) (c_X12_copies hM (100 + (100 * i)) ⟨by omega, by omega⟩ 0 (by (first | decide | exact ⟨by omega, by omega⟩)) σ15 hIσ15 (by omega) (by omega) (by omega)) mv_X12_283 rfl rfl rfl (a_88 hM) dX12_image_65 ⟨Nat.le_of_ble_eq_true rfl, Nat.le_of_ble_eq_true rfl⟩ ⟨Nat.le_refl _, Nat.le_refl _⟩ rfl (Nat.le_of_ble_eq_true rfl) rfl (fun z16 σ17 hz16 => ?_)
    obtain ⟨rfl, hIσ17, hGσ17, q18_0⟩ := hz16
    replace q18_0 : ∀ j : Nat, (j : Int) < 100 → σ17 89 ((100 + (100 * i)) + (j : Int)).toNat = σ15 89 ((0 : Int) + (j : Int)).toNat := q18_0
    have hFσ17 : tw_F (fun c j => (c = 90) ∨ (c = 89 ∧ (j = 97 ∨ j = 98 ∨ (100 ≤ j ∧ j < 300)))) σ σ17 := tw_F_tr hFσ15 hGσ17 (fun c j q => (show (c = 90) ∨ (c = 89 ∧ (j = 97 ∨ j = 98 ∨ (100 ≤ j ∧ j < 300))) from by replace q : (c = 89 ∧ (100 + (100 * i)) ≤ (j : Int) ∧ (j : Int) < (100 + (100 * i)) + 100) := q; omega))
    refine j_st (st' := []) rfl ?_
    have mI9 : mI σ17 := mI_image (i := i) ⟨by omega, by omega⟩ hI hq0 eσ11 eσ13 eσ15 hGσ17 (fun c j q => (show ¬ ((c = 89 ∧ (100 + (100 * i)) ≤ (j : Int) ∧ (j : Int) < (100 + (100 * i)) + 100)) from by omega)) q18_0
    have k93 : (i = 0 ∧ σ17 89 193 = σ15 89 93 ∧ σ17 89 293 = σ15 89 293) ∨ (i = 1 ∧ σ17 89 293 = σ15 89 93 ∧ σ17 89 193 = σ15 89 193) := by
      rcases (show i = 0 ∨ i = 1 by omega) with q | q
      · exact Or.inl ⟨q, cpy q18_0 (j := 93) (by decide) (by omega) (by omega), hGσ17 89 293 (show ¬ ((89 = 89 ∧ (100 + (100 * i)) ≤ (293 : Int) ∧ (293 : Int) < (100 + (100 * i)) + 100)) from by omega)⟩
      · exact Or.inr ⟨q, cpy q18_0 (j := 93) (by decide) (by omega) (by omega), hGσ17 89 193 (show ¬ ((89 = 89 ∧ (100 + (100 * i)) ≤ (193 : Int) ∧ (193 : Int) < (100 + (100 * i)) + 100)) from by omega)⟩
    have k94 : (i = 0 ∧ σ17 89 194 = σ15 89 94 ∧ σ17 89 294 = σ15 89 294) ∨ (i = 1 ∧ σ17 89 294 = σ15 89 94 ∧ σ17 89 194 = σ15 89 194) := by
      rcases (show i = 0 ∨ i = 1 by omega) with q | q
      · exact Or.inl ⟨q, cpy q18_0 (j := 94) (by decide) (by omega) (by omega), hGσ17 89 294 (show ¬ ((89 = 89 ∧ (100 + (100 * i)) ≤ (294 : Int) ∧ (294 : Int) < (100 + (100 * i)) + 100)) from by omega)⟩
      · exact Or.inr ⟨q, cpy q18_0 (j := 94) (by decide) (by omega) (by omega), hGσ17 89 194 (show ¬ ((89 = 89 ∧ (100 + (100 * i)) ≤ (194 : Int) ∧ (194 : Int) < (100 + (100 * i)) + 100)) from by omega)⟩
    have k95 : (i = 0 ∧ σ17 89 195 = σ15 89 95 ∧ σ17 89 295 = σ15 89 295) ∨ (i = 1 ∧ σ17 89 295 = σ15 89 95 ∧ σ17 89 195 = σ15 89 195) := by
      rcases (show i = 0 ∨ i = 1 by omega) with q | q
      · exact Or.inl ⟨q, cpy q18_0 (j := 95) (by decide) (by omega) (by omega), hGσ17 89 295 (show ¬ ((89 = 89 ∧ (100 + (100 * i)) ≤ (295 : Int) ∧ (295 : Int) < (100 + (100 * i)) + 100)) from by omega)⟩
      · exact Or.inr ⟨q, cpy q18_0 (j := 95) (by decide) (by omega) (by omega), hGσ17 89 195 (show ¬ ((89 = 89 ∧ (100 + (100 * i)) ≤ (195 : Int) ∧ (195 : Int) < (100 + (100 * i)) + 100)) from by omega)⟩
    have k96 : (i = 0 ∧ σ17 89 196 = σ15 89 96 ∧ σ17 89 296 = σ15 89 296) ∨ (i = 1 ∧ σ17 89 296 = σ15 89 96 ∧ σ17 89 196 = σ15 89 196) := by
      rcases (show i = 0 ∨ i = 1 by omega) with q | q
      · exact Or.inl ⟨q, cpy q18_0 (j := 96) (by decide) (by omega) (by omega), hGσ17 89 296 (show ¬ ((89 = 89 ∧ (100 + (100 * i)) ≤ (296 : Int) ∧ (296 : Int) < (100 + (100 * i)) + 100)) from by omega)⟩
      · exact Or.inr ⟨q, cpy q18_0 (j := 96) (by decide) (by omega) (by omega), hGσ17 89 196 (show ¬ ((89 = 89 ∧ (100 + (100 * i)) ≤ (196 : Int) ∧ (196 : Int) < (100 + (100 * i)) + 100)) from by omega)⟩
    refine j_iload_n (pc := 68) dX12_image_68 rfl rfl ?_
    have fin : ((¬ (i = 0 ∨ i = 1) ∧ ∀ c j, σ17 c j = σ c j) ∨ ((i = 0 ∨ i = 1) ∧ (∀ j : Int, 0 ≤ j → j < 97 → σ17 89 (100 + 100 * i + j).toNat = σ 89 j.toNat) ∧ σ17 89 (197 + 100 * i).toNat = σ 91 5 ∧ σ17 89 (198 + 100 * i).toNat = σ 91 6 ∧ (∀ j : Nat, (j < 97 ∨ (100 ≤ j ∧ ((j : Int) < 100 + 100 * i ∨ 200 + 100 * i ≤ (j : Int)))) → σ17 89 j = σ 89 j))) := by
      have q9 := q18_0
      have lo : ∀ j : Nat, j < 97 ∨ 99 ≤ j → σ15 89 j = σ 89 j := fun j hj => (tw_ne1 eσ15 (by (first | decide | omega))).trans ((tw_ne1 eσ13 (by (first | decide | omega))).trans (tw_ne1 eσ11 (by (first | decide | omega))))
      refine Or.inr ⟨by omega, fun j j1 j2 => ?_, ?_, ?_, fun j hj => ?_⟩
      · have e := q9 j.toNat (by omega)
        rw [show ((j.toNat : Nat) : Int) = j from by omega, show (0 + j).toNat = j.toNat from by omega] at e
        rw [e]; exact lo _ (by omega)
      · have e := q9 97 (by omega)
        rw [show (0 + ((97 : Nat) : Int)).toNat = 97 from by omega] at e
        rw [show (197 + 100 * i).toNat = (100 + 100 * i + ((97 : Nat) : Int)).toNat from by omega, e]
        exact (tw_ne1 eσ15 (by (first | decide | omega))).trans (tw_eq1 eσ13)
      · have e := q9 98 (by omega)
        rw [show (0 + ((98 : Nat) : Int)).toNat = 98 from by omega] at e
        rw [show (198 + 100 * i).toNat = (100 + 100 * i + ((98 : Nat) : Int)).toNat from by omega, e]
        exact tw_eq1 eσ15
      · exact (hGσ17 89 j (show ¬ ((89 = 89 ∧ (100 + (100 * i)) ≤ (j : Int) ∧ (j : Int) < (100 + (100 * i)) + 100)) from by omega)).trans (lo j (by omega))
    have y20 : σ17 90 0 = σ11 90 0 := (((hGσ17 90 0 (show ¬ ((90 = 89 ∧ (100 + (100 * i)) ≤ (0 : Int) ∧ (0 : Int) < (100 + (100 * i)) + 100)) from fun h => absurd h.1 (by decide)))).trans (tw_ne1 eσ15 (by (first | decide | omega)))).trans (tw_ne1 eσ13 (by (first | decide | omega)))
    have f21 : (0 : Int) ≤ σ11 90 0 ∧ σ11 90 0 ≤ 1 := hIσ11 90 0
    have y22 : σ17 90 1 = σ11 90 1 := (((hGσ17 90 1 (show ¬ ((90 = 89 ∧ (100 + (100 * i)) ≤ (1 : Int) ∧ (1 : Int) < (100 + (100 * i)) + 100)) from fun h => absurd h.1 (by decide)))).trans (tw_ne1 eσ15 (by (first | decide | omega)))).trans (tw_ne1 eσ13 (by (first | decide | omega)))
    have f23 : (0 : Int) ≤ σ11 90 1 ∧ σ11 90 1 ≤ 1 := hIσ11 90 1
    exact j_iret (pc := 69) ⟨rfl, rfl⟩ dX12_image_69 rfl ⟨_, rfl, ⟨by omega, by omega⟩, hIσ17, hFσ17, (by first | exact mI9 | exact hq0), by omega, by omega, by omega, by omega, by omega, by omega, by omega, by omega, by omega, fin⟩
  · refine j_iconst (pc := 10) dX12_image_10 ?_
    have fin : ((¬ (i = 0 ∨ i = 1) ∧ ∀ c j, σ c j = σ c j) ∨ ((i = 0 ∨ i = 1) ∧ (∀ j : Int, 0 ≤ j → j < 97 → σ 89 (100 + 100 * i + j).toNat = σ 89 j.toNat) ∧ σ 89 (197 + 100 * i).toNat = σ 91 5 ∧ σ 89 (198 + 100 * i).toNat = σ 91 6 ∧ (∀ j : Nat, (j < 97 ∨ (100 ≤ j ∧ ((j : Int) < 100 + 100 * i ∨ 200 + 100 * i ≤ (j : Int)))) → σ 89 j = σ 89 j))) := Or.inl ⟨by omega, fun c j => rfl⟩
    exact j_iret (pc := 11) ⟨rfl, rfl⟩ dX12_image_11 rfl ⟨_, rfl, ⟨by omega, by omega⟩, hI, (tw_F_rf), (by first | exact mI9 | exact hq0), by omega, by omega, by omega, by omega, by omega, by omega, by omega, by omega, by omega, fin⟩
