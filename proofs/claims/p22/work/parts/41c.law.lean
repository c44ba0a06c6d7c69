set_option maxHeartbeats 4000000 in
set_option maxRecDepth 100000 in
theorem w_case_14 {G : tw_G} (hX : tw_isX G) (hM : tw_isM G) {E : List Frame → Array Value → State → State → Prop} (hN : (gN G : Int) ≤ 2560) (i : Int) (hi : 0 ≤ i ∧ i + 5 ≤ (gN G : Int)) (τ : tw_M) (hIτ : tw_I τ) (hL : tw_LI τ) (K : ∀ τ' : tw_M, tw_I τ' → tw_LI τ' → tw_J G tw_ML E 1352 [(0, vR 300), (1, vR 0), (2, vR 88), (3, vI i)] [] τ') : tw_J G tw_ML E 628 [(0, vR 300), (1, vR 0), (2, vR 88), (3, vI i)] [] τ := by
  obtain ⟨mτ, zτ, sτ, bτ, fτ, kτ0, kτ1, tτ, stτ⟩ := hL
  have g9 : (0 : Int) ≤ τ 10 10 ∧ τ 10 10 ≤ 400 := hIτ 10 10
  obtain ⟨v1, ev1⟩ : ∃ v : Int, v = (gxs G (i + 1).toNat).toInt := ⟨_, rfl⟩
  have hv1 : (-2147483648 : Int) ≤ v1 ∧ v1 ≤ 2147483647 := by rw [ev1]; exact i32_in _
  obtain ⟨v2, ev2⟩ : ∃ v : Int, v = (gxs G (i + 2).toNat).toInt := ⟨_, rfl⟩
  have hv2 : (-2147483648 : Int) ≤ v2 ∧ v2 ≤ 2147483647 := by rw [ev2]; exact i32_in _
  obtain ⟨v3, ev3⟩ : ∃ v : Int, v = (gxs G (i + 3).toNat).toInt := ⟨_, rfl⟩
  have hv3 : (-2147483648 : Int) ≤ v3 ∧ v3 ≤ 2147483647 := by rw [ev3]; exact i32_in _
  obtain ⟨v4, ev4⟩ : ∃ v : Int, v = (gxs G (i + 4).toNat).toInt := ⟨_, rfl⟩
  have hv4 : (-2147483648 : Int) ≤ v4 ∧ v4 ≤ 2147483647 := by rw [ev4]; exact i32_in _
  refine j_aload_n (pc := 628) dL_law_628 rfl rfl ?_
  refine j_aload_n (pc := 629) dL_law_629 rfl rfl ?_
  refine j_iload_n (pc := 630) dL_law_630 rfl rfl ?_
  refine j_iconst (pc := 631) dL_law_631 ?_
  refine j_iadd (pc := 632) dL_law_632 ?_
  refine j_scrAt (pc := 633) dL_law_633 (by omega) (by omega) (by omega) ?_
  refine j_topV (show _ = v1 from ev1.symm) ?_
  refine j_callV (pc := 634) (As := [vI v1]) (st := []) (c_X11_risk hX v1 ⟨by omega, by omega⟩ τ hIτ) mv_L_79 rfl rfl rfl (a_0 hX) dL_law_634 ⟨Nat.le_of_ble_eq_true rfl, Nat.le_of_ble_eq_true rfl⟩ ⟨Nat.le_of_ble_eq_true rfl, Nat.le_of_ble_eq_true rfl⟩ rfl (Nat.le_of_ble_eq_true rfl) rfl (fun z1 σ2 hz1 => ?_)
  obtain ⟨r4, rfl, hr4, hIσ2, hGσ2, -⟩ := hz1
  refine j_st (st' := [vI r4]) rfl ?_
  have y5 : σ2 10 10 = τ 10 10 := (hGσ2 10 10 (show ¬ ((56 ≤ 10 ∧ 10 < 58)) from by omega))
  have f6 : (0 : Int) ≤ τ 10 10 ∧ τ 10 10 ≤ 400 := hIτ 10 10
  have bσ2 : BY σ2 := BY_kept bτ (fun j => hGσ2 11 j (show ¬ ((56 ≤ 11 ∧ 11 < 58)) from by omega)) (fun j => hGσ2 98 j (show ¬ ((56 ≤ 98 ∧ 98 < 58)) from by omega)) (by omega)
  have mσ2 : mI σ2 := mI_kept mτ (fun j hj => hGσ2 89 j (show ¬ ((56 ≤ 89 ∧ 89 < 58)) from by omega)) (fun j => hGσ2 90 j (show ¬ ((56 ≤ 90 ∧ 90 < 58)) from by omega)) (hGσ2 91 0 (show ¬ ((56 ≤ 91 ∧ 91 < 58)) from by omega)) hIτ
  have sσ2 : SR σ2 := SR_kept sτ (fun c j h => hGσ2 c j (show ¬ ((56 ≤ c ∧ c < 58)) from by omega)) (fun j => hGσ2 104 j (show ¬ ((56 ≤ 104 ∧ 104 < 58)) from by omega)) (fun j => hGσ2 105 j (show ¬ ((56 ≤ 105 ∧ 105 < 58)) from by omega))
  have tσ2 : TT σ2 := TT_kept tτ (fun c j h => hGσ2 c j (show ¬ ((56 ≤ c ∧ c < 58)) from by omega)) (fun j h => hGσ2 89 j (show ¬ ((56 ≤ 89 ∧ 89 < 58)) from by omega))
  have stσ2 : ST σ2 := ST_F stτ (fun c j h => hGσ2 c j (show ¬ ((56 ≤ c ∧ c < 58)) from by unfold STR at h; omega))
  refine j_pop (pc := 637) dL_law_637 rfl ?_
  refine j_aload_n (pc := 638) dL_law_638 rfl rfl ?_
  refine j_aload_n (pc := 639) dL_law_639 rfl rfl ?_
  refine j_iload_n (pc := 640) dL_law_640 rfl rfl ?_
  refine j_iconst (pc := 641) dL_law_641 ?_
  refine j_iadd (pc := 642) dL_law_642 ?_
  refine j_scrAt (pc := 643) dL_law_643 (by omega) (by omega) (by omega) ?_
  refine j_topV (show _ = v1 from ev1.symm) ?_
  refine j_callV (pc := 644) (As := [vI v1]) (st := []) (c_X12_risk hM v1 ⟨by omega, by omega⟩ σ2 hIσ2) mv_L_82 rfl rfl rfl (a_88 hM) dL_law_644 ⟨Nat.le_of_ble_eq_true rfl, Nat.le_of_ble_eq_true rfl⟩ ⟨Nat.le_of_ble_eq_true rfl, Nat.le_of_ble_eq_true rfl⟩ rfl (Nat.le_of_ble_eq_true rfl) rfl (fun z7 σ8 hz7 => ?_)
  obtain ⟨r10, rfl, hr10, hIσ8, hGσ8, -⟩ := hz7
  refine j_st (st' := [vI r10]) rfl ?_
  have y11 : σ8 10 10 = τ 10 10 := ((hGσ8 10 10 (show ¬ ((10 = 88 ∧ (10 = 19 ∨ 10 = 20 ∨ 10 = 21 ∨ 10 = 22 ∨ 10 = 23 ∨ 10 = 24 ∨ 10 = 25))) from by omega))).trans (hGσ2 10 10 (show ¬ ((56 ≤ 10 ∧ 10 < 58)) from by omega))
  have bσ8 : BY σ8 := BY_kept bσ2 (fun j => hGσ8 11 j (show ¬ ((11 = 88 ∧ (j = 19 ∨ j = 20 ∨ j = 21 ∨ j = 22 ∨ j = 23 ∨ j = 24 ∨ j = 25))) from by omega)) (fun j => hGσ8 98 j (show ¬ ((98 = 88 ∧ (j = 19 ∨ j = 20 ∨ j = 21 ∨ j = 22 ∨ j = 23 ∨ j = 24 ∨ j = 25))) from by omega)) (by omega)
  have mσ8 : mI σ8 := mI_kept mσ2 (fun j hj => hGσ8 89 j (show ¬ ((89 = 88 ∧ (j = 19 ∨ j = 20 ∨ j = 21 ∨ j = 22 ∨ j = 23 ∨ j = 24 ∨ j = 25))) from by omega)) (fun j => hGσ8 90 j (show ¬ ((90 = 88 ∧ (j = 19 ∨ j = 20 ∨ j = 21 ∨ j = 22 ∨ j = 23 ∨ j = 24 ∨ j = 25))) from by omega)) (hGσ8 91 0 (show ¬ ((91 = 88 ∧ (0 = 19 ∨ 0 = 20 ∨ 0 = 21 ∨ 0 = 22 ∨ 0 = 23 ∨ 0 = 24 ∨ 0 = 25))) from by omega)) hIσ2
  have sσ8 : SR σ8 := SR_kept sσ2 (fun c j h => hGσ8 c j (show ¬ ((c = 88 ∧ (j = 19 ∨ j = 20 ∨ j = 21 ∨ j = 22 ∨ j = 23 ∨ j = 24 ∨ j = 25))) from by omega)) (fun j => hGσ8 104 j (show ¬ ((104 = 88 ∧ (j = 19 ∨ j = 20 ∨ j = 21 ∨ j = 22 ∨ j = 23 ∨ j = 24 ∨ j = 25))) from by omega)) (fun j => hGσ8 105 j (show ¬ ((105 = 88 ∧ (j = 19 ∨ j = 20 ∨ j = 21 ∨ j = 22 ∨ j = 23 ∨ j = 24 ∨ j = 25))) from by omega))
  have tσ8 : TT σ8 := TT_kept tσ2 (fun c j h => hGσ8 c j (show ¬ ((c = 88 ∧ (j = 19 ∨ j = 20 ∨ j = 21 ∨ j = 22 ∨ j = 23 ∨ j = 24 ∨ j = 25))) from by omega)) (fun j h => hGσ8 89 j (show ¬ ((89 = 88 ∧ (j = 19 ∨ j = 20 ∨ j = 21 ∨ j = 22 ∨ j = 23 ∨ j = 24 ∨ j = 25))) from by omega))
  have stσ8 : ST σ8 := ST_F stσ2 (fun c j h => hGσ8 c j (show ¬ ((c = 88 ∧ (j = 19 ∨ j = 20 ∨ j = 21 ∨ j = 22 ∨ j = 23 ∨ j = 24 ∨ j = 25))) from by unfold STR at h; omega))
  refine j_pop (pc := 647) dL_law_647 rfl ?_
  refine j_goto (pc := 648) (tgt := 1352) dL_law_648 rfl ?_
  have y12 : σ8 10 10 = τ 10 10 := ((hGσ8 10 10 (show ¬ ((10 = 88 ∧ (10 = 19 ∨ 10 = 20 ∨ 10 = 21 ∨ 10 = 22 ∨ 10 = 23 ∨ 10 = 24 ∨ 10 = 25))) from by omega))).trans (hGσ2 10 10 (show ¬ ((56 ≤ 10 ∧ 10 < 58)) from by omega))
  have y13 : σ8 88 12 = τ 88 12 := ((hGσ8 88 12 (show ¬ ((88 = 88 ∧ (12 = 19 ∨ 12 = 20 ∨ 12 = 21 ∨ 12 = 22 ∨ 12 = 23 ∨ 12 = 24 ∨ 12 = 25))) from by omega))).trans (hGσ2 88 12 (show ¬ ((56 ≤ 88 ∧ 88 < 58)) from by omega))
  have f14 : (0 : Int) ≤ τ 88 12 ∧ τ 88 12 ≤ 400 := hIτ 88 12
  have y15 : σ8 0 13 = τ 0 13 := ((hGσ8 0 13 (show ¬ ((0 = 88 ∧ (13 = 19 ∨ 13 = 20 ∨ 13 = 21 ∨ 13 = 22 ∨ 13 = 23 ∨ 13 = 24 ∨ 13 = 25))) from by omega))).trans (hGσ2 0 13 (show ¬ ((56 ≤ 0 ∧ 0 < 58)) from by omega))
  have f16 : (-2147483648 : Int) ≤ τ 0 13 ∧ τ 0 13 ≤ 2147483647 := hIτ 0 13
  have y17 : σ8 88 17 = τ 88 17 := ((hGσ8 88 17 (show ¬ ((88 = 88 ∧ (17 = 19 ∨ 17 = 20 ∨ 17 = 21 ∨ 17 = 22 ∨ 17 = 23 ∨ 17 = 24 ∨ 17 = 25))) from by omega))).trans (hGσ2 88 17 (show ¬ ((56 ≤ 88 ∧ 88 < 58)) from by omega))
  have f18 : (0 : Int) ≤ τ 88 17 ∧ τ 88 17 ≤ 5 := hIτ 88 17
  have y19 : σ8 31 6 = τ 31 6 := ((hGσ8 31 6 (show ¬ ((31 = 88 ∧ (6 = 19 ∨ 6 = 20 ∨ 6 = 21 ∨ 6 = 22 ∨ 6 = 23 ∨ 6 = 24 ∨ 6 = 25))) from by omega))).trans (hGσ2 31 6 (show ¬ ((56 ≤ 31 ∧ 31 < 58)) from by omega))
  have f20 : (0 : Int) ≤ τ 31 6 ∧ τ 31 6 ≤ 1 := hIτ 31 6
  have y21 : σ8 39 6 = τ 39 6 := ((hGσ8 39 6 (show ¬ ((39 = 88 ∧ (6 = 19 ∨ 6 = 20 ∨ 6 = 21 ∨ 6 = 22 ∨ 6 = 23 ∨ 6 = 24 ∨ 6 = 25))) from by omega))).trans (hGσ2 39 6 (show ¬ ((56 ≤ 39 ∧ 39 < 58)) from by omega))
  have f22 : (0 : Int) ≤ τ 39 6 ∧ τ 39 6 ≤ 1 := hIτ 39 6
  have y23 : σ8 90 0 = τ 90 0 := ((hGσ8 90 0 (show ¬ ((90 = 88 ∧ (0 = 19 ∨ 0 = 20 ∨ 0 = 21 ∨ 0 = 22 ∨ 0 = 23 ∨ 0 = 24 ∨ 0 = 25))) from by omega))).trans (hGσ2 90 0 (show ¬ ((56 ≤ 90 ∧ 90 < 58)) from by omega))
  have f24 : (0 : Int) ≤ τ 90 0 ∧ τ 90 0 ≤ 1 := hIτ 90 0
  have y25 : σ8 90 1 = τ 90 1 := ((hGσ8 90 1 (show ¬ ((90 = 88 ∧ (1 = 19 ∨ 1 = 20 ∨ 1 = 21 ∨ 1 = 22 ∨ 1 = 23 ∨ 1 = 24 ∨ 1 = 25))) from by omega))).trans (hGσ2 90 1 (show ¬ ((56 ≤ 90 ∧ 90 < 58)) from by omega))
  have f26 : (0 : Int) ≤ τ 90 1 ∧ τ 90 1 ≤ 1 := hIτ 90 1
  exact K σ8 hIσ8 ⟨mσ8, by omega, sσ8, bσ8, by omega, by omega, by omega, tσ8, stσ8⟩
set_option maxHeartbeats 4000000 in
set_option maxRecDepth 100000 in
theorem w_case_15 {G : tw_G} (hX : tw_isX G) (hM : tw_isM G) {E : List Frame → Array Value → State → State → Prop} (hN : (gN G : Int) ≤ 2560) (i : Int) (hi : 0 ≤ i ∧ i + 5 ≤ (gN G : Int)) (τ : tw_M) (hIτ : tw_I τ) (hL : tw_LI τ) (K : ∀ τ' : tw_M, tw_I τ' → tw_LI τ' → tw_J G tw_ML E 1352 [(0, vR 300), (1, vR 0), (2, vR 88), (3, vI i)] [] τ') : tw_J G tw_ML E 651 [(0, vR 300), (1, vR 0), (2, vR 88), (3, vI i)] [] τ := by
  obtain ⟨mτ, zτ, sτ, bτ, fτ, kτ0, kτ1, tτ, stτ⟩ := hL
  have g9 : (0 : Int) ≤ τ 10 10 ∧ τ 10 10 ≤ 400 := hIτ 10 10
  obtain ⟨v1, ev1⟩ : ∃ v : Int, v = (gxs G (i + 1).toNat).toInt := ⟨_, rfl⟩
  have hv1 : (-2147483648 : Int) ≤ v1 ∧ v1 ≤ 2147483647 := by rw [ev1]; exact i32_in _
  obtain ⟨v2, ev2⟩ : ∃ v : Int, v = (gxs G (i + 2).toNat).toInt := ⟨_, rfl⟩
  have hv2 : (-2147483648 : Int) ≤ v2 ∧ v2 ≤ 2147483647 := by rw [ev2]; exact i32_in _
  obtain ⟨v3, ev3⟩ : ∃ v : Int, v = (gxs G (i + 3).toNat).toInt := ⟨_, rfl⟩
  have hv3 : (-2147483648 : Int) ≤ v3 ∧ v3 ≤ 2147483647 := by rw [ev3]; exact i32_in _
  obtain ⟨v4, ev4⟩ : ∃ v : Int, v = (gxs G (i + 4).toNat).toInt := ⟨_, rfl⟩
  have hv4 : (-2147483648 : Int) ≤ v4 ∧ v4 ≤ 2147483647 := by rw [ev4]; exact i32_in _
  refine j_aload_n (pc := 651) dL_law_651 rfl rfl ?_
  refine j_callV (pc := 652) (As := []) (st := []) (c_X11_needless hX τ hIτ) mv_L_83 rfl rfl rfl (a_0 hX) dL_law_652 ⟨Nat.le_of_ble_eq_true rfl, Nat.le_of_ble_eq_true rfl⟩ ⟨Nat.le_of_ble_eq_true rfl, Nat.le_of_ble_eq_true rfl⟩ rfl (Nat.le_of_ble_eq_true rfl) rfl (fun z1 σ2 hz1 => ?_)
  obtain ⟨r4, rfl, hr4, hIσ2, hGσ2, -⟩ := hz1
  refine j_st (st' := [vI r4]) rfl ?_
  have y5 : σ2 10 10 = τ 10 10 := (hGσ2 10 10 (show ¬ ((56 ≤ 10 ∧ 10 < 58)) from by omega))
  have f6 : (0 : Int) ≤ τ 10 10 ∧ τ 10 10 ≤ 400 := hIτ 10 10
  have bσ2 : BY σ2 := BY_kept bτ (fun j => hGσ2 11 j (show ¬ ((56 ≤ 11 ∧ 11 < 58)) from by omega)) (fun j => hGσ2 98 j (show ¬ ((56 ≤ 98 ∧ 98 < 58)) from by omega)) (by omega)
  have mσ2 : mI σ2 := mI_kept mτ (fun j hj => hGσ2 89 j (show ¬ ((56 ≤ 89 ∧ 89 < 58)) from by omega)) (fun j => hGσ2 90 j (show ¬ ((56 ≤ 90 ∧ 90 < 58)) from by omega)) (hGσ2 91 0 (show ¬ ((56 ≤ 91 ∧ 91 < 58)) from by omega)) hIτ
  have sσ2 : SR σ2 := SR_kept sτ (fun c j h => hGσ2 c j (show ¬ ((56 ≤ c ∧ c < 58)) from by omega)) (fun j => hGσ2 104 j (show ¬ ((56 ≤ 104 ∧ 104 < 58)) from by omega)) (fun j => hGσ2 105 j (show ¬ ((56 ≤ 105 ∧ 105 < 58)) from by omega))
  have tσ2 : TT σ2 := TT_kept tτ (fun c j h => hGσ2 c j (show ¬ ((56 ≤ c ∧ c < 58)) from by omega)) (fun j h => hGσ2 89 j (show ¬ ((56 ≤ 89 ∧ 89 < 58)) from by omega))
  have stσ2 : ST σ2 := ST_F stτ (fun c j h => hGσ2 c j (show ¬ ((56 ≤ c ∧ c < 58)) from by unfold STR at h; omega))
  refine j_pop (pc := 655) dL_law_655 rfl ?_
  refine j_aload_n (pc := 656) dL_law_656 rfl rfl ?_
  have y7 : σ2 0 ((σ2 91 0).toNat) = τ 0 ((σ2 91 0).toNat) := (hGσ2 0 ((σ2 91 0).toNat) (show ¬ ((56 ≤ 0 ∧ 0 < 58)) from by omega))
  refine j_callV (pc := 657) (As := []) (st := []) (c_X12_needless hM σ2 hIσ2 mσ2.1) mv_L_86 rfl rfl rfl (a_88 hM) dL_law_657 ⟨Nat.le_of_ble_eq_true rfl, Nat.le_of_ble_eq_true rfl⟩ ⟨Nat.le_of_ble_eq_true rfl, Nat.le_of_ble_eq_true rfl⟩ rfl (Nat.le_of_ble_eq_true rfl) rfl (fun z8 σ9 hz8 => ?_)
  obtain ⟨r11, rfl, hr11, hIσ9, hGσ9, -⟩ := hz8
  refine j_st (st' := [vI r11]) rfl ?_
  have y12 : σ9 10 10 = τ 10 10 := ((hGσ9 10 10 (show ¬ ((10 = 88 ∧ (10 = 19 ∨ 10 = 20 ∨ 10 = 21 ∨ 10 = 22 ∨ 10 = 23)) ∨ (10 = 89 ∧ 300 ≤ 10)) from by omega))).trans (hGσ2 10 10 (show ¬ ((56 ≤ 10 ∧ 10 < 58)) from by omega))
  have bσ9 : BY σ9 := BY_kept bσ2 (fun j => hGσ9 11 j (show ¬ ((11 = 88 ∧ (j = 19 ∨ j = 20 ∨ j = 21 ∨ j = 22 ∨ j = 23)) ∨ (11 = 89 ∧ 300 ≤ j)) from by omega)) (fun j => hGσ9 98 j (show ¬ ((98 = 88 ∧ (j = 19 ∨ j = 20 ∨ j = 21 ∨ j = 22 ∨ j = 23)) ∨ (98 = 89 ∧ 300 ≤ j)) from by omega)) (by omega)
  have mσ9 : mI σ9 := mI_kept mσ2 (fun j hj => hGσ9 89 j (show ¬ ((89 = 88 ∧ (j = 19 ∨ j = 20 ∨ j = 21 ∨ j = 22 ∨ j = 23)) ∨ (89 = 89 ∧ 300 ≤ j)) from by omega)) (fun j => hGσ9 90 j (show ¬ ((90 = 88 ∧ (j = 19 ∨ j = 20 ∨ j = 21 ∨ j = 22 ∨ j = 23)) ∨ (90 = 89 ∧ 300 ≤ j)) from by omega)) (hGσ9 91 0 (show ¬ ((91 = 88 ∧ (0 = 19 ∨ 0 = 20 ∨ 0 = 21 ∨ 0 = 22 ∨ 0 = 23)) ∨ (91 = 89 ∧ 300 ≤ 0)) from by omega)) hIσ2
  have sσ9 : SR σ9 := SR_kept sσ2 (fun c j h => hGσ9 c j (show ¬ ((c = 88 ∧ (j = 19 ∨ j = 20 ∨ j = 21 ∨ j = 22 ∨ j = 23)) ∨ (c = 89 ∧ 300 ≤ j)) from by omega)) (fun j => hGσ9 104 j (show ¬ ((104 = 88 ∧ (j = 19 ∨ j = 20 ∨ j = 21 ∨ j = 22 ∨ j = 23)) ∨ (104 = 89 ∧ 300 ≤ j)) from by omega)) (fun j => hGσ9 105 j (show ¬ ((105 = 88 ∧ (j = 19 ∨ j = 20 ∨ j = 21 ∨ j = 22 ∨ j = 23)) ∨ (105 = 89 ∧ 300 ≤ j)) from by omega))
  have tσ9 : TT σ9 := TT_kept tσ2 (fun c j h => hGσ9 c j (show ¬ ((c = 88 ∧ (j = 19 ∨ j = 20 ∨ j = 21 ∨ j = 22 ∨ j = 23)) ∨ (c = 89 ∧ 300 ≤ j)) from by omega)) (fun j h => hGσ9 89 j (show ¬ ((89 = 88 ∧ (j = 19 ∨ j = 20 ∨ j = 21 ∨ j = 22 ∨ j = 23)) ∨ (89 = 89 ∧ 300 ≤ j)) from by omega))
  have stσ9 : ST σ9 := ST_F stσ2 (fun c j h => hGσ9 c j (show ¬ ((c = 88 ∧ (j = 19 ∨ j = 20 ∨ j = 21 ∨ j = 22 ∨ j = 23)) ∨ (c = 89 ∧ 300 ≤ j)) from by unfold STR at h; omega))
  refine j_pop (pc := 660) dL_law_660 rfl ?_
  refine j_goto (pc := 661) (tgt := 1352) dL_law_661 rfl ?_
  have y13 : σ9 10 10 = τ 10 10 := ((hGσ9 10 10 (show ¬ ((10 = 88 ∧ (10 = 19 ∨ 10 = 20 ∨ 10 = 21 ∨ 10 = 22 ∨ 10 = 23)) ∨ (10 = 89 ∧ 300 ≤ 10)) from by omega))).trans (hGσ2 10 10 (show ¬ ((56 ≤ 10 ∧ 10 < 58)) from by omega))
  have y14 : σ9 88 12 = τ 88 12 := ((hGσ9 88 12 (show ¬ ((88 = 88 ∧ (12 = 19 ∨ 12 = 20 ∨ 12 = 21 ∨ 12 = 22 ∨ 12 = 23)) ∨ (88 = 89 ∧ 300 ≤ 12)) from by omega))).trans (hGσ2 88 12 (show ¬ ((56 ≤ 88 ∧ 88 < 58)) from by omega))
  have f15 : (0 : Int) ≤ τ 88 12 ∧ τ 88 12 ≤ 400 := hIτ 88 12
  have y16 : σ9 0 13 = τ 0 13 := ((hGσ9 0 13 (show ¬ ((0 = 88 ∧ (13 = 19 ∨ 13 = 20 ∨ 13 = 21 ∨ 13 = 22 ∨ 13 = 23)) ∨ (0 = 89 ∧ 300 ≤ 13)) from by omega))).trans (hGσ2 0 13 (show ¬ ((56 ≤ 0 ∧ 0 < 58)) from by omega))
  have f17 : (-2147483648 : Int) ≤ τ 0 13 ∧ τ 0 13 ≤ 2147483647 := hIτ 0 13
  have y18 : σ9 88 17 = τ 88 17 := ((hGσ9 88 17 (show ¬ ((88 = 88 ∧ (17 = 19 ∨ 17 = 20 ∨ 17 = 21 ∨ 17 = 22 ∨ 17 = 23)) ∨ (88 = 89 ∧ 300 ≤ 17)) from by omega))).trans (hGσ2 88 17 (show ¬ ((56 ≤ 88 ∧ 88 < 58)) from by omega))
  have f19 : (0 : Int) ≤ τ 88 17 ∧ τ 88 17 ≤ 5 := hIτ 88 17
  have y20 : σ9 31 6 = τ 31 6 := ((hGσ9 31 6 (show ¬ ((31 = 88 ∧ (6 = 19 ∨ 6 = 20 ∨ 6 = 21 ∨ 6 = 22 ∨ 6 = 23)) ∨ (31 = 89 ∧ 300 ≤ 6)) from by omega))).trans (hGσ2 31 6 (show ¬ ((56 ≤ 31 ∧ 31 < 58)) from by omega))
  have f21 : (0 : Int) ≤ τ 31 6 ∧ τ 31 6 ≤ 1 := hIτ 31 6
  have y22 : σ9 39 6 = τ 39 6 := ((hGσ9 39 6 (show ¬ ((39 = 88 ∧ (6 = 19 ∨ 6 = 20 ∨ 6 = 21 ∨ 6 = 22 ∨ 6 = 23)) ∨ (39 = 89 ∧ 300 ≤ 6)) from by omega))).trans (hGσ2 39 6 (show ¬ ((56 ≤ 39 ∧ 39 < 58)) from by omega))
  have f23 : (0 : Int) ≤ τ 39 6 ∧ τ 39 6 ≤ 1 := hIτ 39 6
  have y24 : σ9 90 0 = τ 90 0 := ((hGσ9 90 0 (show ¬ ((90 = 88 ∧ (0 = 19 ∨ 0 = 20 ∨ 0 = 21 ∨ 0 = 22 ∨ 0 = 23)) ∨ (90 = 89 ∧ 300 ≤ 0)) from by omega))).trans (hGσ2 90 0 (show ¬ ((56 ≤ 90 ∧ 90 < 58)) from by omega))
  have f25 : (0 : Int) ≤ τ 90 0 ∧ τ 90 0 ≤ 1 := hIτ 90 0
  have y26 : σ9 90 1 = τ 90 1 := ((hGσ9 90 1 (show ¬ ((90 = 88 ∧ (1 = 19 ∨ 1 = 20 ∨ 1 = 21 ∨ 1 = 22 ∨ 1 = 23)) ∨ (90 = 89 ∧ 300 ≤ 1)) from by omega))).trans (hGσ2 90 1 (show ¬ ((56 ≤ 90 ∧ 90 < 58)) from by omega))
  have f27 : (0 : Int) ≤ τ 90 1 ∧ τ 90 1 ≤ 1 := hIτ 90 1
  exact K σ9 hIσ9 ⟨mσ9, by omega, sσ9, bσ9, by omega, by omega, by omega, tσ9, stσ9⟩
set_option maxHeartbeats 4000000 in
set_option maxRecDepth 100000 in
theorem w_case_16 {G : tw_G} (hX : tw_isX G) (hM : tw_isM G) {E : List Frame → Array Value → State → State → Prop} (hN : (gN G : Int) ≤ 2560) (i : Int) (hi : 0 ≤ i ∧ i + 5 ≤ (gN G : Int)) (τ : tw_M) (hIτ : tw_I τ) (hL : tw_LI τ) (K : ∀ τ' : tw_M, tw_I τ' → tw_LI τ' → tw_J G tw_ML E 1352 [(0, vR 300), (1, vR 0), (2, vR 88), (3, vI i)] [] τ') : tw_J G tw_ML E 664 [(0, vR 300), (1, vR 0), (2, vR 88), (3, vI i)] [] τ := by
  obtain ⟨mτ, zτ, sτ, bτ, fτ, kτ0, kτ1, tτ, stτ⟩ := hL
  have g9 : (0 : Int) ≤ τ 10 10 ∧ τ 10 10 ≤ 400 := hIτ 10 10
  obtain ⟨v1, ev1⟩ : ∃ v : Int, v = (gxs G (i + 1).toNat).toInt := ⟨_, rfl⟩
  have hv1 : (-2147483648 : Int) ≤ v1 ∧ v1 ≤ 2147483647 := by rw [ev1]; exact i32_in _
  obtain ⟨v2, ev2⟩ : ∃ v : Int, v = (gxs G (i + 2).toNat).toInt := ⟨_, rfl⟩
  have hv2 : (-2147483648 : Int) ≤ v2 ∧ v2 ≤ 2147483647 := by rw [ev2]; exact i32_in _
  obtain ⟨v3, ev3⟩ : ∃ v : Int, v = (gxs G (i + 3).toNat).toInt := ⟨_, rfl⟩
  have hv3 : (-2147483648 : Int) ≤ v3 ∧ v3 ≤ 2147483647 := by rw [ev3]; exact i32_in _
  obtain ⟨v4, ev4⟩ : ∃ v : Int, v = (gxs G (i + 4).toNat).toInt := ⟨_, rfl⟩
  have hv4 : (-2147483648 : Int) ≤ v4 ∧ v4 ≤ 2147483647 := by rw [ev4]; exact i32_in _
  refine j_aload_n (pc := 664) dL_law_664 rfl rfl ?_
  refine j_aload_n (pc := 665) dL_law_665 rfl rfl ?_
  refine j_iload_n (pc := 666) dL_law_666 rfl rfl ?_
  refine j_iconst (pc := 667) dL_law_667 ?_
  refine j_iadd (pc := 668) dL_law_668 ?_
  refine j_scrAt (pc := 669) dL_law_669 (by omega) (by omega) (by omega) ?_
  refine j_topV (show _ = v1 from ev1.symm) ?_
  refine j_callV (pc := 670) (As := [vI v1]) (st := []) (c_X11_plan hX v1 ⟨by omega, by omega⟩ τ hIτ) mv_L_87 rfl rfl rfl (a_0 hX) dL_law_670 ⟨Nat.le_of_ble_eq_true rfl, Nat.le_of_ble_eq_true rfl⟩ ⟨Nat.le_of_ble_eq_true rfl, Nat.le_of_ble_eq_true rfl⟩ rfl (Nat.le_of_ble_eq_true rfl) rfl (fun z1 σ2 hz1 => ?_)
  obtain ⟨r4, rfl, hr4, hIσ2, hGσ2, q3_0⟩ := hz1
  replace q3_0 : ∀ rk : Nat → Int, WOK (wW 1 τ) → (∀ s : Int, 1 ≤ s → s ≤ 10 → τ 3 s.toNat = rk s.toNat) → (¬ τ 60 6 = 0 → PLN (wW 1 τ) rk τ) → ¬ σ2 60 6 = 0 → PLN (wW 1 τ) rk σ2 := q3_0
  refine j_st (st' := [vI r4]) rfl ?_
  have y5 : σ2 10 10 = τ 10 10 := (hGσ2 10 10 (show ¬ ((56 ≤ 10 ∧ 10 < 58) ∨ (10 = 60 ∧ (10 = 5 ∨ 10 = 6 ∨ 10 = 8 ∨ 10 = 10 ∨ 10 = 11)) ∨ (61 ≤ 10 ∧ 10 < 71)) from by omega))
  have f6 : (0 : Int) ≤ τ 10 10 ∧ τ 10 10 ≤ 400 := hIτ 10 10
  have bσ2 : BY σ2 := BY_kept bτ (fun j => hGσ2 11 j (show ¬ ((56 ≤ 11 ∧ 11 < 58) ∨ (11 = 60 ∧ (j = 5 ∨ j = 6 ∨ j = 8 ∨ j = 10 ∨ j = 11)) ∨ (61 ≤ 11 ∧ 11 < 71)) from by omega)) (fun j => hGσ2 98 j (show ¬ ((56 ≤ 98 ∧ 98 < 58) ∨ (98 = 60 ∧ (j = 5 ∨ j = 6 ∨ j = 8 ∨ j = 10 ∨ j = 11)) ∨ (61 ≤ 98 ∧ 98 < 71)) from by omega)) (by omega)
  have mσ2 : mI σ2 := mI_kept mτ (fun j hj => hGσ2 89 j (show ¬ ((56 ≤ 89 ∧ 89 < 58) ∨ (89 = 60 ∧ (j = 5 ∨ j = 6 ∨ j = 8 ∨ j = 10 ∨ j = 11)) ∨ (61 ≤ 89 ∧ 89 < 71)) from by omega)) (fun j => hGσ2 90 j (show ¬ ((56 ≤ 90 ∧ 90 < 58) ∨ (90 = 60 ∧ (j = 5 ∨ j = 6 ∨ j = 8 ∨ j = 10 ∨ j = 11)) ∨ (61 ≤ 90 ∧ 90 < 71)) from by omega)) (hGσ2 91 0 (show ¬ ((56 ≤ 91 ∧ 91 < 58) ∨ (91 = 60 ∧ (0 = 5 ∨ 0 = 6 ∨ 0 = 8 ∨ 0 = 10 ∨ 0 = 11)) ∨ (61 ≤ 91 ∧ 91 < 71)) from by omega)) hIτ
  have sσ2 : SR σ2 := SR_kept sτ (fun c j h => hGσ2 c j (show ¬ ((56 ≤ c ∧ c < 58) ∨ (c = 60 ∧ (j = 5 ∨ j = 6 ∨ j = 8 ∨ j = 10 ∨ j = 11)) ∨ (61 ≤ c ∧ c < 71)) from by omega)) (fun j => hGσ2 104 j (show ¬ ((56 ≤ 104 ∧ 104 < 58) ∨ (104 = 60 ∧ (j = 5 ∨ j = 6 ∨ j = 8 ∨ j = 10 ∨ j = 11)) ∨ (61 ≤ 104 ∧ 104 < 71)) from by omega)) (fun j => hGσ2 105 j (show ¬ ((56 ≤ 105 ∧ 105 < 58) ∨ (105 = 60 ∧ (j = 5 ∨ j = 6 ∨ j = 8 ∨ j = 10 ∨ j = 11)) ∨ (61 ≤ 105 ∧ 105 < 71)) from by omega))
  have tσ2 : TT σ2 := TT_kept tτ (fun c j h => hGσ2 c j (show ¬ ((56 ≤ c ∧ c < 58) ∨ (c = 60 ∧ (j = 5 ∨ j = 6 ∨ j = 8 ∨ j = 10 ∨ j = 11)) ∨ (61 ≤ c ∧ c < 71)) from by omega)) (fun j h => hGσ2 89 j (show ¬ ((56 ≤ 89 ∧ 89 < 58) ∨ (89 = 60 ∧ (j = 5 ∨ j = 6 ∨ j = 8 ∨ j = 10 ∨ j = 11)) ∨ (61 ≤ 89 ∧ 89 < 71)) from by omega))
  have stσ2 : ST σ2 := ST_P stτ (fun c j h => hGσ2 c j (show ¬ ((56 ≤ c ∧ c < 58) ∨ (c = 60 ∧ (j = 5 ∨ j = 6 ∨ j = 8 ∨ j = 10 ∨ j = 11)) ∨ (61 ≤ c ∧ c < 71)) from by unfold STR at h; omega)) (fun f nz => by rw [← stτ.1] at f ⊢; exact q3_0 (τ 3) (by rw [stτ.1]; exact WOK_M hIτ) (fun s _ _ => rfl) f nz)
  clear q3_0
  refine j_pop (pc := 673) dL_law_673 rfl ?_
  refine j_aload_n (pc := 674) dL_law_674 rfl rfl ?_
  refine j_aload_n (pc := 675) dL_law_675 rfl rfl ?_
  refine j_iload_n (pc := 676) dL_law_676 rfl rfl ?_
  refine j_iconst (pc := 677) dL_law_677 ?_
  refine j_iadd (pc := 678) dL_law_678 ?_
  refine j_scrAt (pc := 679) dL_law_679 (by omega) (by omega) (by omega) ?_
  refine j_topV (show _ = v1 from ev1.symm) ?_
  refine j_callV (pc := 680) (As := [vI v1]) (st := []) (c_X12_plan hM v1 ⟨by omega, by omega⟩ σ2 hIσ2) mv_L_90 rfl rfl rfl (a_88 hM) dL_law_680 ⟨Nat.le_of_ble_eq_true rfl, Nat.le_of_ble_eq_true rfl⟩ ⟨Nat.le_of_ble_eq_true rfl, Nat.le_of_ble_eq_true rfl⟩ rfl (Nat.le_of_ble_eq_true rfl) rfl (fun z7 σ8 hz7 => ?_)
  obtain ⟨r10, rfl, hr10, hIσ8, hGσ8, -⟩ := hz7
  refine j_st (st' := [vI r10]) rfl ?_
  have y11 : σ8 10 10 = τ 10 10 := ((hGσ8 10 10 (show ¬ ((10 = 88 ∧ (10 = 19 ∨ 10 = 20 ∨ 10 = 21 ∨ 10 = 22 ∨ 10 = 23 ∨ 10 = 24 ∨ 10 = 25 ∨ 10 = 26 ∨ 10 = 27)) ∨ (10 = 89 ∧ 300 ≤ 10)) from by omega))).trans (hGσ2 10 10 (show ¬ ((56 ≤ 10 ∧ 10 < 58) ∨ (10 = 60 ∧ (10 = 5 ∨ 10 = 6 ∨ 10 = 8 ∨ 10 = 10 ∨ 10 = 11)) ∨ (61 ≤ 10 ∧ 10 < 71)) from by omega))
  have bσ8 : BY σ8 := BY_kept bσ2 (fun j => hGσ8 11 j (show ¬ ((11 = 88 ∧ (j = 19 ∨ j = 20 ∨ j = 21 ∨ j = 22 ∨ j = 23 ∨ j = 24 ∨ j = 25 ∨ j = 26 ∨ j = 27)) ∨ (11 = 89 ∧ 300 ≤ j)) from by omega)) (fun j => hGσ8 98 j (show ¬ ((98 = 88 ∧ (j = 19 ∨ j = 20 ∨ j = 21 ∨ j = 22 ∨ j = 23 ∨ j = 24 ∨ j = 25 ∨ j = 26 ∨ j = 27)) ∨ (98 = 89 ∧ 300 ≤ j)) from by omega)) (by omega)
  have mσ8 : mI σ8 := mI_kept mσ2 (fun j hj => hGσ8 89 j (show ¬ ((89 = 88 ∧ (j = 19 ∨ j = 20 ∨ j = 21 ∨ j = 22 ∨ j = 23 ∨ j = 24 ∨ j = 25 ∨ j = 26 ∨ j = 27)) ∨ (89 = 89 ∧ 300 ≤ j)) from by omega)) (fun j => hGσ8 90 j (show ¬ ((90 = 88 ∧ (j = 19 ∨ j = 20 ∨ j = 21 ∨ j = 22 ∨ j = 23 ∨ j = 24 ∨ j = 25 ∨ j = 26 ∨ j = 27)) ∨ (90 = 89 ∧ 300 ≤ j)) from by omega)) (hGσ8 91 0 (show ¬ ((91 = 88 ∧ (0 = 19 ∨ 0 = 20 ∨ 0 = 21 ∨ 0 = 22 ∨ 0 = 23 ∨ 0 = 24 ∨ 0 = 25 ∨ 0 = 26 ∨ 0 = 27)) ∨ (91 = 89 ∧ 300 ≤ 0)) from by omega)) hIσ2
  have sσ8 : SR σ8 := SR_kept sσ2 (fun c j h => hGσ8 c j (show ¬ ((c = 88 ∧ (j = 19 ∨ j = 20 ∨ j = 21 ∨ j = 22 ∨ j = 23 ∨ j = 24 ∨ j = 25 ∨ j = 26 ∨ j = 27)) ∨ (c = 89 ∧ 300 ≤ j)) from by omega)) (fun j => hGσ8 104 j (show ¬ ((104 = 88 ∧ (j = 19 ∨ j = 20 ∨ j = 21 ∨ j = 22 ∨ j = 23 ∨ j = 24 ∨ j = 25 ∨ j = 26 ∨ j = 27)) ∨ (104 = 89 ∧ 300 ≤ j)) from by omega)) (fun j => hGσ8 105 j (show ¬ ((105 = 88 ∧ (j = 19 ∨ j = 20 ∨ j = 21 ∨ j = 22 ∨ j = 23 ∨ j = 24 ∨ j = 25 ∨ j = 26 ∨ j = 27)) ∨ (105 = 89 ∧ 300 ≤ j)) from by omega))
  have tσ8 : TT σ8 := TT_kept tσ2 (fun c j h => hGσ8 c j (show ¬ ((c = 88 ∧ (j = 19 ∨ j = 20 ∨ j = 21 ∨ j = 22 ∨ j = 23 ∨ j = 24 ∨ j = 25 ∨ j = 26 ∨ j = 27)) ∨ (c = 89 ∧ 300 ≤ j)) from by omega)) (fun j h => hGσ8 89 j (show ¬ ((89 = 88 ∧ (j = 19 ∨ j = 20 ∨ j = 21 ∨ j = 22 ∨ j = 23 ∨ j = 24 ∨ j = 25 ∨ j = 26 ∨ j = 27)) ∨ (89 = 89 ∧ 300 ≤ j)) from by omega))
  have stσ8 : ST σ8 := ST_F stσ2 (fun c j h => hGσ8 c j (show ¬ ((c = 88 ∧ (j = 19 ∨ j = 20 ∨ j = 21 ∨ j = 22 ∨ j = 23 ∨ j = 24 ∨ j = 25 ∨ j = 26 ∨ j = 27)) ∨ (c = 89 ∧ 300 ≤ j)) from by unfold STR at h; omega))
  refine j_pop (pc := 683) dL_law_683 rfl ?_
  refine j_goto (pc := 684) (tgt := 1352) dL_law_684 rfl ?_
  have y12 : σ8 10 10 = τ 10 10 := ((hGσ8 10 10 (show ¬ ((10 = 88 ∧ (10 = 19 ∨ 10 = 20 ∨ 10 = 21 ∨ 10 = 22 ∨ 10 = 23 ∨ 10 = 24 ∨ 10 = 25 ∨ 10 = 26 ∨ 10 = 27)) ∨ (10 = 89 ∧ 300 ≤ 10)) from by omega))).trans (hGσ2 10 10 (show ¬ ((56 ≤ 10 ∧ 10 < 58) ∨ (10 = 60 ∧ (10 = 5 ∨ 10 = 6 ∨ 10 = 8 ∨ 10 = 10 ∨ 10 = 11)) ∨ (61 ≤ 10 ∧ 10 < 71)) from by omega))
  have y13 : σ8 88 12 = τ 88 12 := ((hGσ8 88 12 (show ¬ ((88 = 88 ∧ (12 = 19 ∨ 12 = 20 ∨ 12 = 21 ∨ 12 = 22 ∨ 12 = 23 ∨ 12 = 24 ∨ 12 = 25 ∨ 12 = 26 ∨ 12 = 27)) ∨ (88 = 89 ∧ 300 ≤ 12)) from by omega))).trans (hGσ2 88 12 (show ¬ ((56 ≤ 88 ∧ 88 < 58) ∨ (88 = 60 ∧ (12 = 5 ∨ 12 = 6 ∨ 12 = 8 ∨ 12 = 10 ∨ 12 = 11)) ∨ (61 ≤ 88 ∧ 88 < 71)) from by omega))
  have f14 : (0 : Int) ≤ τ 88 12 ∧ τ 88 12 ≤ 400 := hIτ 88 12
  have y15 : σ8 0 13 = τ 0 13 := ((hGσ8 0 13 (show ¬ ((0 = 88 ∧ (13 = 19 ∨ 13 = 20 ∨ 13 = 21 ∨ 13 = 22 ∨ 13 = 23 ∨ 13 = 24 ∨ 13 = 25 ∨ 13 = 26 ∨ 13 = 27)) ∨ (0 = 89 ∧ 300 ≤ 13)) from by omega))).trans (hGσ2 0 13 (show ¬ ((56 ≤ 0 ∧ 0 < 58) ∨ (0 = 60 ∧ (13 = 5 ∨ 13 = 6 ∨ 13 = 8 ∨ 13 = 10 ∨ 13 = 11)) ∨ (61 ≤ 0 ∧ 0 < 71)) from by omega))
  have f16 : (-2147483648 : Int) ≤ τ 0 13 ∧ τ 0 13 ≤ 2147483647 := hIτ 0 13
  have y17 : σ8 88 17 = τ 88 17 := ((hGσ8 88 17 (show ¬ ((88 = 88 ∧ (17 = 19 ∨ 17 = 20 ∨ 17 = 21 ∨ 17 = 22 ∨ 17 = 23 ∨ 17 = 24 ∨ 17 = 25 ∨ 17 = 26 ∨ 17 = 27)) ∨ (88 = 89 ∧ 300 ≤ 17)) from by omega))).trans (hGσ2 88 17 (show ¬ ((56 ≤ 88 ∧ 88 < 58) ∨ (88 = 60 ∧ (17 = 5 ∨ 17 = 6 ∨ 17 = 8 ∨ 17 = 10 ∨ 17 = 11)) ∨ (61 ≤ 88 ∧ 88 < 71)) from by omega))
  have f18 : (0 : Int) ≤ τ 88 17 ∧ τ 88 17 ≤ 5 := hIτ 88 17
  have y19 : σ8 31 6 = τ 31 6 := ((hGσ8 31 6 (show ¬ ((31 = 88 ∧ (6 = 19 ∨ 6 = 20 ∨ 6 = 21 ∨ 6 = 22 ∨ 6 = 23 ∨ 6 = 24 ∨ 6 = 25 ∨ 6 = 26 ∨ 6 = 27)) ∨ (31 = 89 ∧ 300 ≤ 6)) from by omega))).trans (hGσ2 31 6 (show ¬ ((56 ≤ 31 ∧ 31 < 58) ∨ (31 = 60 ∧ (6 = 5 ∨ 6 = 6 ∨ 6 = 8 ∨ 6 = 10 ∨ 6 = 11)) ∨ (61 ≤ 31 ∧ 31 < 71)) from by omega))
  have f20 : (0 : Int) ≤ τ 31 6 ∧ τ 31 6 ≤ 1 := hIτ 31 6
  have y21 : σ8 39 6 = τ 39 6 := ((hGσ8 39 6 (show ¬ ((39 = 88 ∧ (6 = 19 ∨ 6 = 20 ∨ 6 = 21 ∨ 6 = 22 ∨ 6 = 23 ∨ 6 = 24 ∨ 6 = 25 ∨ 6 = 26 ∨ 6 = 27)) ∨ (39 = 89 ∧ 300 ≤ 6)) from by omega))).trans (hGσ2 39 6 (show ¬ ((56 ≤ 39 ∧ 39 < 58) ∨ (39 = 60 ∧ (6 = 5 ∨ 6 = 6 ∨ 6 = 8 ∨ 6 = 10 ∨ 6 = 11)) ∨ (61 ≤ 39 ∧ 39 < 71)) from by omega))
  have f22 : (0 : Int) ≤ τ 39 6 ∧ τ 39 6 ≤ 1 := hIτ 39 6
  have y23 : σ8 90 0 = τ 90 0 := ((hGσ8 90 0 (show ¬ ((90 = 88 ∧ (0 = 19 ∨ 0 = 20 ∨ 0 = 21 ∨ 0 = 22 ∨ 0 = 23 ∨ 0 = 24 ∨ 0 = 25 ∨ 0 = 26 ∨ 0 = 27)) ∨ (90 = 89 ∧ 300 ≤ 0)) from by omega))).trans (hGσ2 90 0 (show ¬ ((56 ≤ 90 ∧ 90 < 58) ∨ (90 = 60 ∧ (0 = 5 ∨ 0 = 6 ∨ 0 = 8 ∨ 0 = 10 ∨ 0 = 11)) ∨ (61 ≤ 90 ∧ 90 < 71)) from by omega))
  have f24 : (0 : Int) ≤ τ 90 0 ∧ τ 90 0 ≤ 1 := hIτ 90 0
  have y25 : σ8 90 1 = τ 90 1 := ((hGσ8 90 1 (show ¬ ((90 = 88 ∧ (1 = 19 ∨ 1 = 20 ∨ 1 = 21 ∨ 1 = 22 ∨ 1 = 23 ∨ 1 = 24 ∨ 1 = 25 ∨ 1 = 26 ∨ 1 = 27)) ∨ (90 = 89 ∧ 300 ≤ 1)) from by omega))).trans (hGσ2 90 1 (show ¬ ((56 ≤ 90 ∧ 90 < 58) ∨ (90 = 60 ∧ (1 = 5 ∨ 1 = 6 ∨ 1 = 8 ∨ 1 = 10 ∨ 1 = 11)) ∨ (61 ≤ 90 ∧ 90 < 71)) from by omega))
  have f26 : (0 : Int) ≤ τ 90 1 ∧ τ 90 1 ≤ 1 := hIτ 90 1
  exact K σ8 hIσ8 ⟨mσ8, by omega, sσ8, bσ8, by omega, by omega, by omega, tσ8, stσ8⟩
set_option maxHeartbeats 4000000 in
set_option maxRecDepth 100000 in
theorem w_case_17 {G : tw_G} (hX : tw_isX G) (hM : tw_isM G) {E : List Frame → Array Value → State → State → Prop} (hN : (gN G : Int) ≤ 2560) (i : Int) (hi : 0 ≤ i ∧ i + 5 ≤ (gN G : Int)) (τ : tw_M) (hIτ : tw_I τ) (hL : tw_LI τ) (K : ∀ τ' : tw_M, tw_I τ' → tw_LI τ' → tw_J G tw_ML E 1352 [(0, vR 300), (1, vR 0), (2, vR 88), (3, vI i)] [] τ') : tw_J G tw_ML E 687 [(0, vR 300), (1, vR 0), (2, vR 88), (3, vI i)] [] τ := by
  obtain ⟨mτ, zτ, sτ, bτ, fτ, kτ0, kτ1, tτ, stτ⟩ := hL
  have g9 : (0 : Int) ≤ τ 10 10 ∧ τ 10 10 ≤ 400 := hIτ 10 10
  obtain ⟨v1, ev1⟩ : ∃ v : Int, v = (gxs G (i + 1).toNat).toInt := ⟨_, rfl⟩
  have hv1 : (-2147483648 : Int) ≤ v1 ∧ v1 ≤ 2147483647 := by rw [ev1]; exact i32_in _
  obtain ⟨v2, ev2⟩ : ∃ v : Int, v = (gxs G (i + 2).toNat).toInt := ⟨_, rfl⟩
  have hv2 : (-2147483648 : Int) ≤ v2 ∧ v2 ≤ 2147483647 := by rw [ev2]; exact i32_in _
  obtain ⟨v3, ev3⟩ : ∃ v : Int, v = (gxs G (i + 3).toNat).toInt := ⟨_, rfl⟩
  have hv3 : (-2147483648 : Int) ≤ v3 ∧ v3 ≤ 2147483647 := by rw [ev3]; exact i32_in _
  obtain ⟨v4, ev4⟩ : ∃ v : Int, v = (gxs G (i + 4).toNat).toInt := ⟨_, rfl⟩
  have hv4 : (-2147483648 : Int) ≤ v4 ∧ v4 ≤ 2147483647 := by rw [ev4]; exact i32_in _
  refine j_aload_n (pc := 687) dL_law_687 rfl rfl ?_
  refine j_aload_n (pc := 688) dL_law_688 rfl rfl ?_
  refine j_iload_n (pc := 689) dL_law_689 rfl rfl ?_
  refine j_iconst (pc := 690) dL_law_690 ?_
  refine j_iadd (pc := 691) dL_law_691 ?_
  refine j_scrAt (pc := 692) dL_law_692 (by omega) (by omega) (by omega) ?_
  refine j_topV (show _ = v1 from ev1.symm) ?_
  refine j_aload_n (pc := 693) dL_law_693 rfl rfl ?_
  refine j_iload_n (pc := 694) dL_law_694 rfl rfl ?_
  refine j_iconst (pc := 695) dL_law_695 ?_
  refine j_iadd (pc := 696) dL_law_696 ?_
  refine j_scrAt (pc := 697) dL_law_697 (by omega) (by omega) (by omega) ?_
  refine j_topV (show _ = v2 from ev2.symm) ?_
  refine j_callV (pc := 698) (As := [vI v1, vI v2]) (st := []) (c_X11_keep hX v1 ⟨by omega, by omega⟩ v2 ⟨by omega, by omega⟩ τ hIτ) mv_L_91 rfl rfl rfl (a_0 hX) dL_law_698 ⟨Nat.le_of_ble_eq_true rfl, Nat.le_of_ble_eq_true rfl⟩ ⟨Nat.le_of_ble_eq_true rfl, Nat.le_of_ble_eq_true rfl⟩ rfl (Nat.le_of_ble_eq_true rfl) rfl (fun z1 σ2 hz1 => ?_)
  obtain ⟨r4, rfl, hr4, hIσ2, hGσ2, -⟩ := hz1
  refine j_st (st' := [vI r4]) rfl ?_
  have y5 : σ2 10 10 = τ 10 10 := (hGσ2 10 10 (show ¬ ((56 ≤ 10 ∧ 10 < 58) ∨ (10 = 60 ∧ (10 = 5)) ∨ (61 ≤ 10 ∧ 10 < 67)) from by omega))
  have f6 : (0 : Int) ≤ τ 10 10 ∧ τ 10 10 ≤ 400 := hIτ 10 10
  have bσ2 : BY σ2 := BY_kept bτ (fun j => hGσ2 11 j (show ¬ ((56 ≤ 11 ∧ 11 < 58) ∨ (11 = 60 ∧ (j = 5)) ∨ (61 ≤ 11 ∧ 11 < 67)) from by omega)) (fun j => hGσ2 98 j (show ¬ ((56 ≤ 98 ∧ 98 < 58) ∨ (98 = 60 ∧ (j = 5)) ∨ (61 ≤ 98 ∧ 98 < 67)) from by omega)) (by omega)
  have mσ2 : mI σ2 := mI_kept mτ (fun j hj => hGσ2 89 j (show ¬ ((56 ≤ 89 ∧ 89 < 58) ∨ (89 = 60 ∧ (j = 5)) ∨ (61 ≤ 89 ∧ 89 < 67)) from by omega)) (fun j => hGσ2 90 j (show ¬ ((56 ≤ 90 ∧ 90 < 58) ∨ (90 = 60 ∧ (j = 5)) ∨ (61 ≤ 90 ∧ 90 < 67)) from by omega)) (hGσ2 91 0 (show ¬ ((56 ≤ 91 ∧ 91 < 58) ∨ (91 = 60 ∧ (0 = 5)) ∨ (61 ≤ 91 ∧ 91 < 67)) from by omega)) hIτ
  have sσ2 : SR σ2 := SR_kept sτ (fun c j h => hGσ2 c j (show ¬ ((56 ≤ c ∧ c < 58) ∨ (c = 60 ∧ (j = 5)) ∨ (61 ≤ c ∧ c < 67)) from by omega)) (fun j => hGσ2 104 j (show ¬ ((56 ≤ 104 ∧ 104 < 58) ∨ (104 = 60 ∧ (j = 5)) ∨ (61 ≤ 104 ∧ 104 < 67)) from by omega)) (fun j => hGσ2 105 j (show ¬ ((56 ≤ 105 ∧ 105 < 58) ∨ (105 = 60 ∧ (j = 5)) ∨ (61 ≤ 105 ∧ 105 < 67)) from by omega))
  have tσ2 : TT σ2 := TT_kept tτ (fun c j h => hGσ2 c j (show ¬ ((56 ≤ c ∧ c < 58) ∨ (c = 60 ∧ (j = 5)) ∨ (61 ≤ c ∧ c < 67)) from by omega)) (fun j h => hGσ2 89 j (show ¬ ((56 ≤ 89 ∧ 89 < 58) ∨ (89 = 60 ∧ (j = 5)) ∨ (61 ≤ 89 ∧ 89 < 67)) from by omega))
  have stσ2 : ST σ2 := ST_P stτ (fun c j h => hGσ2 c j (show ¬ ((56 ≤ c ∧ c < 58) ∨ (c = 60 ∧ (j = 5)) ∨ (61 ≤ c ∧ c < 67)) from by unfold STR at h; omega)) (fun f nz => BST_G (f (fun z => nz ((hGσ2 60 6 (show ¬ ((56 ≤ 60 ∧ 60 < 58) ∨ (60 = 60 ∧ (6 = 5)) ∨ (61 ≤ 60 ∧ 60 < 67)) from by omega)).trans z))) (hGσ2 60 8 (show ¬ ((56 ≤ 60 ∧ 60 < 58) ∨ (60 = 60 ∧ (8 = 5)) ∨ (61 ≤ 60 ∧ 60 < 67)) from by omega)) (hGσ2 60 10 (show ¬ ((56 ≤ 60 ∧ 60 < 58) ∨ (60 = 60 ∧ (10 = 5)) ∨ (61 ≤ 60 ∧ 60 < 67)) from by omega)) (hGσ2 60 11 (show ¬ ((56 ≤ 60 ∧ 60 < 58) ∨ (60 = 60 ∧ (11 = 5)) ∨ (61 ≤ 60 ∧ 60 < 67)) from by omega)) (fun c j a b => (hGσ2 c j (show ¬ ((56 ≤ c ∧ c < 58) ∨ (c = 60 ∧ (j = 5)) ∨ (61 ≤ c ∧ c < 67)) from by omega))))
  refine j_pop (pc := 701) dL_law_701 rfl ?_
  refine j_aload_n (pc := 702) dL_law_702 rfl rfl ?_
  refine j_aload_n (pc := 703) dL_law_703 rfl rfl ?_
  refine j_iload_n (pc := 704) dL_law_704 rfl rfl ?_
  refine j_iconst (pc := 705) dL_law_705 ?_
  refine j_iadd (pc := 706) dL_law_706 ?_
  refine j_scrAt (pc := 707) dL_law_707 (by omega) (by omega) (by omega) ?_
  refine j_topV (show _ = v1 from ev1.symm) ?_
  refine j_aload_n (pc := 708) dL_law_708 rfl rfl ?_
  refine j_iload_n (pc := 709) dL_law_709 rfl rfl ?_
  refine j_iconst (pc := 710) dL_law_710 ?_
  refine j_iadd (pc := 711) dL_law_711 ?_
  refine j_scrAt (pc := 712) dL_law_712 (by omega) (by omega) (by omega) ?_
  refine j_topV (show _ = v2 from ev2.symm) ?_
  refine j_callV (pc := 713) (As := [vI v1, vI v2]) (st := []) (c_X12_keep hM v1 ⟨by omega, by omega⟩ v2 ⟨by omega, by omega⟩ σ2 hIσ2) mv_L_94 rfl rfl rfl (a_88 hM) dL_law_713 ⟨Nat.le_of_ble_eq_true rfl, Nat.le_of_ble_eq_true rfl⟩ ⟨Nat.le_of_ble_eq_true rfl, Nat.le_of_ble_eq_true rfl⟩ rfl (Nat.le_of_ble_eq_true rfl) rfl (fun z7 σ8 hz7 => ?_)
  obtain ⟨r10, rfl, hr10, hIσ8, hGσ8, -⟩ := hz7
  refine j_st (st' := [vI r10]) rfl ?_
  have y11 : σ8 10 10 = τ 10 10 := ((hGσ8 10 10 (show ¬ ((10 = 88 ∧ (10 = 19 ∨ 10 = 20 ∨ 10 = 21 ∨ 10 = 22 ∨ 10 = 23 ∨ 10 = 24 ∨ 10 = 25)) ∨ (10 = 89 ∧ 300 ≤ 10)) from by omega))).trans (hGσ2 10 10 (show ¬ ((56 ≤ 10 ∧ 10 < 58) ∨ (10 = 60 ∧ (10 = 5)) ∨ (61 ≤ 10 ∧ 10 < 67)) from by omega))
  have bσ8 : BY σ8 := BY_kept bσ2 (fun j => hGσ8 11 j (show ¬ ((11 = 88 ∧ (j = 19 ∨ j = 20 ∨ j = 21 ∨ j = 22 ∨ j = 23 ∨ j = 24 ∨ j = 25)) ∨ (11 = 89 ∧ 300 ≤ j)) from by omega)) (fun j => hGσ8 98 j (show ¬ ((98 = 88 ∧ (j = 19 ∨ j = 20 ∨ j = 21 ∨ j = 22 ∨ j = 23 ∨ j = 24 ∨ j = 25)) ∨ (98 = 89 ∧ 300 ≤ j)) from by omega)) (by omega)
  have mσ8 : mI σ8 := mI_kept mσ2 (fun j hj => hGσ8 89 j (show ¬ ((89 = 88 ∧ (j = 19 ∨ j = 20 ∨ j = 21 ∨ j = 22 ∨ j = 23 ∨ j = 24 ∨ j = 25)) ∨ (89 = 89 ∧ 300 ≤ j)) from by omega)) (fun j => hGσ8 90 j (show ¬ ((90 = 88 ∧ (j = 19 ∨ j = 20 ∨ j = 21 ∨ j = 22 ∨ j = 23 ∨ j = 24 ∨ j = 25)) ∨ (90 = 89 ∧ 300 ≤ j)) from by omega)) (hGσ8 91 0 (show ¬ ((91 = 88 ∧ (0 = 19 ∨ 0 = 20 ∨ 0 = 21 ∨ 0 = 22 ∨ 0 = 23 ∨ 0 = 24 ∨ 0 = 25)) ∨ (91 = 89 ∧ 300 ≤ 0)) from by omega)) hIσ2
  have sσ8 : SR σ8 := SR_kept sσ2 (fun c j h => hGσ8 c j (show ¬ ((c = 88 ∧ (j = 19 ∨ j = 20 ∨ j = 21 ∨ j = 22 ∨ j = 23 ∨ j = 24 ∨ j = 25)) ∨ (c = 89 ∧ 300 ≤ j)) from by omega)) (fun j => hGσ8 104 j (show ¬ ((104 = 88 ∧ (j = 19 ∨ j = 20 ∨ j = 21 ∨ j = 22 ∨ j = 23 ∨ j = 24 ∨ j = 25)) ∨ (104 = 89 ∧ 300 ≤ j)) from by omega)) (fun j => hGσ8 105 j (show ¬ ((105 = 88 ∧ (j = 19 ∨ j = 20 ∨ j = 21 ∨ j = 22 ∨ j = 23 ∨ j = 24 ∨ j = 25)) ∨ (105 = 89 ∧ 300 ≤ j)) from by omega))
  have tσ8 : TT σ8 := TT_kept tσ2 (fun c j h => hGσ8 c j (show ¬ ((c = 88 ∧ (j = 19 ∨ j = 20 ∨ j = 21 ∨ j = 22 ∨ j = 23 ∨ j = 24 ∨ j = 25)) ∨ (c = 89 ∧ 300 ≤ j)) from by omega)) (fun j h => hGσ8 89 j (show ¬ ((89 = 88 ∧ (j = 19 ∨ j = 20 ∨ j = 21 ∨ j = 22 ∨ j = 23 ∨ j = 24 ∨ j = 25)) ∨ (89 = 89 ∧ 300 ≤ j)) from by omega))
  have stσ8 : ST σ8 := ST_F stσ2 (fun c j h => hGσ8 c j (show ¬ ((c = 88 ∧ (j = 19 ∨ j = 20 ∨ j = 21 ∨ j = 22 ∨ j = 23 ∨ j = 24 ∨ j = 25)) ∨ (c = 89 ∧ 300 ≤ j)) from by unfold STR at h; omega))
  refine j_pop (pc := 716) dL_law_716 rfl ?_
  refine j_goto (pc := 717) (tgt := 1352) dL_law_717 rfl ?_
  have y12 : σ8 10 10 = τ 10 10 := ((hGσ8 10 10 (show ¬ ((10 = 88 ∧ (10 = 19 ∨ 10 = 20 ∨ 10 = 21 ∨ 10 = 22 ∨ 10 = 23 ∨ 10 = 24 ∨ 10 = 25)) ∨ (10 = 89 ∧ 300 ≤ 10)) from by omega))).trans (hGσ2 10 10 (show ¬ ((56 ≤ 10 ∧ 10 < 58) ∨ (10 = 60 ∧ (10 = 5)) ∨ (61 ≤ 10 ∧ 10 < 67)) from by omega))
  have y13 : σ8 88 12 = τ 88 12 := ((hGσ8 88 12 (show ¬ ((88 = 88 ∧ (12 = 19 ∨ 12 = 20 ∨ 12 = 21 ∨ 12 = 22 ∨ 12 = 23 ∨ 12 = 24 ∨ 12 = 25)) ∨ (88 = 89 ∧ 300 ≤ 12)) from by omega))).trans (hGσ2 88 12 (show ¬ ((56 ≤ 88 ∧ 88 < 58) ∨ (88 = 60 ∧ (12 = 5)) ∨ (61 ≤ 88 ∧ 88 < 67)) from by omega))
  have f14 : (0 : Int) ≤ τ 88 12 ∧ τ 88 12 ≤ 400 := hIτ 88 12
  have y15 : σ8 0 13 = τ 0 13 := ((hGσ8 0 13 (show ¬ ((0 = 88 ∧ (13 = 19 ∨ 13 = 20 ∨ 13 = 21 ∨ 13 = 22 ∨ 13 = 23 ∨ 13 = 24 ∨ 13 = 25)) ∨ (0 = 89 ∧ 300 ≤ 13)) from by omega))).trans (hGσ2 0 13 (show ¬ ((56 ≤ 0 ∧ 0 < 58) ∨ (0 = 60 ∧ (13 = 5)) ∨ (61 ≤ 0 ∧ 0 < 67)) from by omega))
  have f16 : (-2147483648 : Int) ≤ τ 0 13 ∧ τ 0 13 ≤ 2147483647 := hIτ 0 13
  have y17 : σ8 88 17 = τ 88 17 := ((hGσ8 88 17 (show ¬ ((88 = 88 ∧ (17 = 19 ∨ 17 = 20 ∨ 17 = 21 ∨ 17 = 22 ∨ 17 = 23 ∨ 17 = 24 ∨ 17 = 25)) ∨ (88 = 89 ∧ 300 ≤ 17)) from by omega))).trans (hGσ2 88 17 (show ¬ ((56 ≤ 88 ∧ 88 < 58) ∨ (88 = 60 ∧ (17 = 5)) ∨ (61 ≤ 88 ∧ 88 < 67)) from by omega))
  have f18 : (0 : Int) ≤ τ 88 17 ∧ τ 88 17 ≤ 5 := hIτ 88 17
  have y19 : σ8 31 6 = τ 31 6 := ((hGσ8 31 6 (show ¬ ((31 = 88 ∧ (6 = 19 ∨ 6 = 20 ∨ 6 = 21 ∨ 6 = 22 ∨ 6 = 23 ∨ 6 = 24 ∨ 6 = 25)) ∨ (31 = 89 ∧ 300 ≤ 6)) from by omega))).trans (hGσ2 31 6 (show ¬ ((56 ≤ 31 ∧ 31 < 58) ∨ (31 = 60 ∧ (6 = 5)) ∨ (61 ≤ 31 ∧ 31 < 67)) from by omega))
  have f20 : (0 : Int) ≤ τ 31 6 ∧ τ 31 6 ≤ 1 := hIτ 31 6
  have y21 : σ8 39 6 = τ 39 6 := ((hGσ8 39 6 (show ¬ ((39 = 88 ∧ (6 = 19 ∨ 6 = 20 ∨ 6 = 21 ∨ 6 = 22 ∨ 6 = 23 ∨ 6 = 24 ∨ 6 = 25)) ∨ (39 = 89 ∧ 300 ≤ 6)) from by omega))).trans (hGσ2 39 6 (show ¬ ((56 ≤ 39 ∧ 39 < 58) ∨ (39 = 60 ∧ (6 = 5)) ∨ (61 ≤ 39 ∧ 39 < 67)) from by omega))
  have f22 : (0 : Int) ≤ τ 39 6 ∧ τ 39 6 ≤ 1 := hIτ 39 6
  have y23 : σ8 90 0 = τ 90 0 := ((hGσ8 90 0 (show ¬ ((90 = 88 ∧ (0 = 19 ∨ 0 = 20 ∨ 0 = 21 ∨ 0 = 22 ∨ 0 = 23 ∨ 0 = 24 ∨ 0 = 25)) ∨ (90 = 89 ∧ 300 ≤ 0)) from by omega))).trans (hGσ2 90 0 (show ¬ ((56 ≤ 90 ∧ 90 < 58) ∨ (90 = 60 ∧ (0 = 5)) ∨ (61 ≤ 90 ∧ 90 < 67)) from by omega))
  have f24 : (0 : Int) ≤ τ 90 0 ∧ τ 90 0 ≤ 1 := hIτ 90 0
  have y25 : σ8 90 1 = τ 90 1 := ((hGσ8 90 1 (show ¬ ((90 = 88 ∧ (1 = 19 ∨ 1 = 20 ∨ 1 = 21 ∨ 1 = 22 ∨ 1 = 23 ∨ 1 = 24 ∨ 1 = 25)) ∨ (90 = 89 ∧ 300 ≤ 1)) from by omega))).trans (hGσ2 90 1 (show ¬ ((56 ≤ 90 ∧ 90 < 58) ∨ (90 = 60 ∧ (1 = 5)) ∨ (61 ≤ 90 ∧ 90 < 67)) from by omega))
  have f26 : (0 : Int) ≤ τ 90 1 ∧ τ 90 1 ≤ 1 := hIτ 90 1
  exact K σ8 hIσ8 ⟨mσ8, by omega, sσ8, bσ8, by omega, by omega, by omega, tσ8, stσ8⟩
set_option maxHeartbeats 4000000 in
set_option maxRecDepth 100000 in
theorem w_case_18 {G : tw_G} (hX : tw_isX G) (hM : tw_isM G) {E : List Frame → Array Value → State → State → Prop} (hN : (gN G : Int) ≤ 2560) (i : Int) (hi : 0 ≤ i ∧ i + 5 ≤ (gN G : Int)) (τ : tw_M) (hIτ : tw_I τ) (hL : tw_LI τ) (K : ∀ τ' : tw_M, tw_I τ' → tw_LI τ' → tw_J G tw_ML E 1352 [(0, vR 300), (1, vR 0), (2, vR 88), (3, vI i)] [] τ') : tw_J G tw_ML E 720 [(0, vR 300), (1, vR 0), (2, vR 88), (3, vI i)] [] τ := by
  obtain ⟨mτ, zτ, sτ, bτ, fτ, kτ0, kτ1, tτ, stτ⟩ := hL
  have g9 : (0 : Int) ≤ τ 10 10 ∧ τ 10 10 ≤ 400 := hIτ 10 10
  obtain ⟨v1, ev1⟩ : ∃ v : Int, v = (gxs G (i + 1).toNat).toInt := ⟨_, rfl⟩
  have hv1 : (-2147483648 : Int) ≤ v1 ∧ v1 ≤ 2147483647 := by rw [ev1]; exact i32_in _
  obtain ⟨v2, ev2⟩ : ∃ v : Int, v = (gxs G (i + 2).toNat).toInt := ⟨_, rfl⟩
  have hv2 : (-2147483648 : Int) ≤ v2 ∧ v2 ≤ 2147483647 := by rw [ev2]; exact i32_in _
  obtain ⟨v3, ev3⟩ : ∃ v : Int, v = (gxs G (i + 3).toNat).toInt := ⟨_, rfl⟩
  have hv3 : (-2147483648 : Int) ≤ v3 ∧ v3 ≤ 2147483647 := by rw [ev3]; exact i32_in _
  obtain ⟨v4, ev4⟩ : ∃ v : Int, v = (gxs G (i + 4).toNat).toInt := ⟨_, rfl⟩
  have hv4 : (-2147483648 : Int) ≤ v4 ∧ v4 ≤ 2147483647 := by rw [ev4]; exact i32_in _
  refine j_aload_n (pc := 720) dL_law_720 rfl rfl ?_
  refine j_aload_n (pc := 721) dL_law_721 rfl rfl ?_
  refine j_iload_n (pc := 722) dL_law_722 rfl rfl ?_
  refine j_iconst (pc := 723) dL_law_723 ?_
  refine j_iadd (pc := 724) dL_law_724 ?_
  refine j_scrAt (pc := 725) dL_law_725 (by omega) (by omega) (by omega) ?_
  refine j_topV (show _ = v1 from ev1.symm) ?_
  refine j_callV (pc := 726) (As := [vI v1]) (st := []) (c_X11_best hX v1 ⟨by omega, by omega⟩ τ hIτ) mv_L_95 rfl rfl rfl (a_0 hX) dL_law_726 ⟨Nat.le_of_ble_eq_true rfl, Nat.le_of_ble_eq_true rfl⟩ ⟨Nat.le_of_ble_eq_true rfl, Nat.le_of_ble_eq_true rfl⟩ rfl (Nat.le_of_ble_eq_true rfl) rfl (fun z1 σ2 hz1 => ?_)
  obtain ⟨r4, rfl, hr4, hIσ2, hGσ2, q3_0⟩ := hz1
  replace q3_0 : ∀ rk : Nat → Int, WOK (wW 1 τ) → (∀ s : Int, 1 ≤ s → s ≤ 10 → τ 3 s.toNat = rk s.toNat) → (¬ τ 60 6 = 0 → PLN (wW 1 τ) rk τ) → ¬ σ2 60 6 = 0 → PLN (wW 1 τ) rk σ2 := q3_0
  refine j_st (st' := [vI r4]) rfl ?_
  have y5 : σ2 10 10 = τ 10 10 := (hGσ2 10 10 (show ¬ ((56 ≤ 10 ∧ 10 < 58) ∨ (10 = 60 ∧ (10 = 5 ∨ 10 = 6 ∨ 10 = 7 ∨ 10 = 8 ∨ 10 = 10 ∨ 10 = 11 ∨ 10 = 12 ∨ 10 = 13)) ∨ (61 ≤ 10 ∧ 10 < 71)) from by omega))
  have f6 : (0 : Int) ≤ τ 10 10 ∧ τ 10 10 ≤ 400 := hIτ 10 10
  have bσ2 : BY σ2 := BY_kept bτ (fun j => hGσ2 11 j (show ¬ ((56 ≤ 11 ∧ 11 < 58) ∨ (11 = 60 ∧ (j = 5 ∨ j = 6 ∨ j = 7 ∨ j = 8 ∨ j = 10 ∨ j = 11 ∨ j = 12 ∨ j = 13)) ∨ (61 ≤ 11 ∧ 11 < 71)) from by omega)) (fun j => hGσ2 98 j (show ¬ ((56 ≤ 98 ∧ 98 < 58) ∨ (98 = 60 ∧ (j = 5 ∨ j = 6 ∨ j = 7 ∨ j = 8 ∨ j = 10 ∨ j = 11 ∨ j = 12 ∨ j = 13)) ∨ (61 ≤ 98 ∧ 98 < 71)) from by omega)) (by omega)
  have mσ2 : mI σ2 := mI_kept mτ (fun j hj => hGσ2 89 j (show ¬ ((56 ≤ 89 ∧ 89 < 58) ∨ (89 = 60 ∧ (j = 5 ∨ j = 6 ∨ j = 7 ∨ j = 8 ∨ j = 10 ∨ j = 11 ∨ j = 12 ∨ j = 13)) ∨ (61 ≤ 89 ∧ 89 < 71)) from by omega)) (fun j => hGσ2 90 j (show ¬ ((56 ≤ 90 ∧ 90 < 58) ∨ (90 = 60 ∧ (j = 5 ∨ j = 6 ∨ j = 7 ∨ j = 8 ∨ j = 10 ∨ j = 11 ∨ j = 12 ∨ j = 13)) ∨ (61 ≤ 90 ∧ 90 < 71)) from by omega)) (hGσ2 91 0 (show ¬ ((56 ≤ 91 ∧ 91 < 58) ∨ (91 = 60 ∧ (0 = 5 ∨ 0 = 6 ∨ 0 = 7 ∨ 0 = 8 ∨ 0 = 10 ∨ 0 = 11 ∨ 0 = 12 ∨ 0 = 13)) ∨ (61 ≤ 91 ∧ 91 < 71)) from by omega)) hIτ
  have sσ2 : SR σ2 := SR_kept sτ (fun c j h => hGσ2 c j (show ¬ ((56 ≤ c ∧ c < 58) ∨ (c = 60 ∧ (j = 5 ∨ j = 6 ∨ j = 7 ∨ j = 8 ∨ j = 10 ∨ j = 11 ∨ j = 12 ∨ j = 13)) ∨ (61 ≤ c ∧ c < 71)) from by omega)) (fun j => hGσ2 104 j (show ¬ ((56 ≤ 104 ∧ 104 < 58) ∨ (104 = 60 ∧ (j = 5 ∨ j = 6 ∨ j = 7 ∨ j = 8 ∨ j = 10 ∨ j = 11 ∨ j = 12 ∨ j = 13)) ∨ (61 ≤ 104 ∧ 104 < 71)) from by omega)) (fun j => hGσ2 105 j (show ¬ ((56 ≤ 105 ∧ 105 < 58) ∨ (105 = 60 ∧ (j = 5 ∨ j = 6 ∨ j = 7 ∨ j = 8 ∨ j = 10 ∨ j = 11 ∨ j = 12 ∨ j = 13)) ∨ (61 ≤ 105 ∧ 105 < 71)) from by omega))
  have tσ2 : TT σ2 := TT_kept tτ (fun c j h => hGσ2 c j (show ¬ ((56 ≤ c ∧ c < 58) ∨ (c = 60 ∧ (j = 5 ∨ j = 6 ∨ j = 7 ∨ j = 8 ∨ j = 10 ∨ j = 11 ∨ j = 12 ∨ j = 13)) ∨ (61 ≤ c ∧ c < 71)) from by omega)) (fun j h => hGσ2 89 j (show ¬ ((56 ≤ 89 ∧ 89 < 58) ∨ (89 = 60 ∧ (j = 5 ∨ j = 6 ∨ j = 7 ∨ j = 8 ∨ j = 10 ∨ j = 11 ∨ j = 12 ∨ j = 13)) ∨ (61 ≤ 89 ∧ 89 < 71)) from by omega))
  have stσ2 : ST σ2 := ST_P stτ (fun c j h => hGσ2 c j (show ¬ ((56 ≤ c ∧ c < 58) ∨ (c = 60 ∧ (j = 5 ∨ j = 6 ∨ j = 7 ∨ j = 8 ∨ j = 10 ∨ j = 11 ∨ j = 12 ∨ j = 13)) ∨ (61 ≤ c ∧ c < 71)) from by unfold STR at h; omega)) (fun f nz => by rw [← stτ.1] at f ⊢; exact q3_0 (τ 3) (by rw [stτ.1]; exact WOK_M hIτ) (fun s _ _ => rfl) f nz)
  clear q3_0
  refine j_pop (pc := 729) dL_law_729 rfl ?_
  refine j_aload_n (pc := 730) dL_law_730 rfl rfl ?_
  refine j_aload_n (pc := 731) dL_law_731 rfl rfl ?_
  refine j_iload_n (pc := 732) dL_law_732 rfl rfl ?_
  refine j_iconst (pc := 733) dL_law_733 ?_
  refine j_iadd (pc := 734) dL_law_734 ?_
  refine j_scrAt (pc := 735) dL_law_735 (by omega) (by omega) (by omega) ?_
  refine j_topV (show _ = v1 from ev1.symm) ?_
  refine j_callV (pc := 736) (As := [vI v1]) (st := []) (c_X12_best hM v1 ⟨by omega, by omega⟩ σ2 hIσ2) mv_L_98 rfl rfl rfl (a_88 hM) dL_law_736 ⟨Nat.le_of_ble_eq_true rfl, Nat.le_of_ble_eq_true rfl⟩ ⟨Nat.le_of_ble_eq_true rfl, Nat.le_of_ble_eq_true rfl⟩ rfl (Nat.le_of_ble_eq_true rfl) rfl (fun z7 σ8 hz7 => ?_)
  obtain ⟨r10, rfl, hr10, hIσ8, hGσ8, -⟩ := hz7
  refine j_st (st' := [vI r10]) rfl ?_
  have y11 : σ8 10 10 = τ 10 10 := ((hGσ8 10 10 (show ¬ ((10 = 88 ∧ (10 = 19 ∨ 10 = 20 ∨ 10 = 21 ∨ 10 = 22 ∨ 10 = 23 ∨ 10 = 24 ∨ 10 = 25 ∨ 10 = 26 ∨ 10 = 27)) ∨ (10 = 89 ∧ 300 ≤ 10)) from by omega))).trans (hGσ2 10 10 (show ¬ ((56 ≤ 10 ∧ 10 < 58) ∨ (10 = 60 ∧ (10 = 5 ∨ 10 = 6 ∨ 10 = 7 ∨ 10 = 8 ∨ 10 = 10 ∨ 10 = 11 ∨ 10 = 12 ∨ 10 = 13)) ∨ (61 ≤ 10 ∧ 10 < 71)) from by omega))
  have bσ8 : BY σ8 := BY_kept bσ2 (fun j => hGσ8 11 j (show ¬ ((11 = 88 ∧ (j = 19 ∨ j = 20 ∨ j = 21 ∨ j = 22 ∨ j = 23 ∨ j = 24 ∨ j = 25 ∨ j = 26 ∨ j = 27)) ∨ (11 = 89 ∧ 300 ≤ j)) from by omega)) (fun j => hGσ8 98 j (show ¬ ((98 = 88 ∧ (j = 19 ∨ j = 20 ∨ j = 21 ∨ j = 22 ∨ j = 23 ∨ j = 24 ∨ j = 25 ∨ j = 26 ∨ j = 27)) ∨ (98 = 89 ∧ 300 ≤ j)) from by omega)) (by omega)
  have mσ8 : mI σ8 := mI_kept mσ2 (fun j hj => hGσ8 89 j (show ¬ ((89 = 88 ∧ (j = 19 ∨ j = 20 ∨ j = 21 ∨ j = 22 ∨ j = 23 ∨ j = 24 ∨ j = 25 ∨ j = 26 ∨ j = 27)) ∨ (89 = 89 ∧ 300 ≤ j)) from by omega)) (fun j => hGσ8 90 j (show ¬ ((90 = 88 ∧ (j = 19 ∨ j = 20 ∨ j = 21 ∨ j = 22 ∨ j = 23 ∨ j = 24 ∨ j = 25 ∨ j = 26 ∨ j = 27)) ∨ (90 = 89 ∧ 300 ≤ j)) from by omega)) (hGσ8 91 0 (show ¬ ((91 = 88 ∧ (0 = 19 ∨ 0 = 20 ∨ 0 = 21 ∨ 0 = 22 ∨ 0 = 23 ∨ 0 = 24 ∨ 0 = 25 ∨ 0 = 26 ∨ 0 = 27)) ∨ (91 = 89 ∧ 300 ≤ 0)) from by omega)) hIσ2
  have sσ8 : SR σ8 := SR_kept sσ2 (fun c j h => hGσ8 c j (show ¬ ((c = 88 ∧ (j = 19 ∨ j = 20 ∨ j = 21 ∨ j = 22 ∨ j = 23 ∨ j = 24 ∨ j = 25 ∨ j = 26 ∨ j = 27)) ∨ (c = 89 ∧ 300 ≤ j)) from by omega)) (fun j => hGσ8 104 j (show ¬ ((104 = 88 ∧ (j = 19 ∨ j = 20 ∨ j = 21 ∨ j = 22 ∨ j = 23 ∨ j = 24 ∨ j = 25 ∨ j = 26 ∨ j = 27)) ∨ (104 = 89 ∧ 300 ≤ j)) from by omega)) (fun j => hGσ8 105 j (show ¬ ((105 = 88 ∧ (j = 19 ∨ j = 20 ∨ j = 21 ∨ j = 22 ∨ j = 23 ∨ j = 24 ∨ j = 25 ∨ j = 26 ∨ j = 27)) ∨ (105 = 89 ∧ 300 ≤ j)) from by omega))
  have tσ8 : TT σ8 := TT_kept tσ2 (fun c j h => hGσ8 c j (show ¬ ((c = 88 ∧ (j = 19 ∨ j = 20 ∨ j = 21 ∨ j = 22 ∨ j = 23 ∨ j = 24 ∨ j = 25 ∨ j = 26 ∨ j = 27)) ∨ (c = 89 ∧ 300 ≤ j)) from by omega)) (fun j h => hGσ8 89 j (show ¬ ((89 = 88 ∧ (j = 19 ∨ j = 20 ∨ j = 21 ∨ j = 22 ∨ j = 23 ∨ j = 24 ∨ j = 25 ∨ j = 26 ∨ j = 27)) ∨ (89 = 89 ∧ 300 ≤ j)) from by omega))
  have stσ8 : ST σ8 := ST_F stσ2 (fun c j h => hGσ8 c j (show ¬ ((c = 88 ∧ (j = 19 ∨ j = 20 ∨ j = 21 ∨ j = 22 ∨ j = 23 ∨ j = 24 ∨ j = 25 ∨ j = 26 ∨ j = 27)) ∨ (c = 89 ∧ 300 ≤ j)) from by unfold STR at h; omega))
  refine j_pop (pc := 739) dL_law_739 rfl ?_
  refine j_goto (pc := 740) (tgt := 1352) dL_law_740 rfl ?_
  have y12 : σ8 10 10 = τ 10 10 := ((hGσ8 10 10 (show ¬ ((10 = 88 ∧ (10 = 19 ∨ 10 = 20 ∨ 10 = 21 ∨ 10 = 22 ∨ 10 = 23 ∨ 10 = 24 ∨ 10 = 25 ∨ 10 = 26 ∨ 10 = 27)) ∨ (10 = 89 ∧ 300 ≤ 10)) from by omega))).trans (hGσ2 10 10 (show ¬ ((56 ≤ 10 ∧ 10 < 58) ∨ (10 = 60 ∧ (10 = 5 ∨ 10 = 6 ∨ 10 = 7 ∨ 10 = 8 ∨ 10 = 10 ∨ 10 = 11 ∨ 10 = 12 ∨ 10 = 13)) ∨ (61 ≤ 10 ∧ 10 < 71)) from by omega))
  have y13 : σ8 88 12 = τ 88 12 := ((hGσ8 88 12 (show ¬ ((88 = 88 ∧ (12 = 19 ∨ 12 = 20 ∨ 12 = 21 ∨ 12 = 22 ∨ 12 = 23 ∨ 12 = 24 ∨ 12 = 25 ∨ 12 = 26 ∨ 12 = 27)) ∨ (88 = 89 ∧ 300 ≤ 12)) from by omega))).trans (hGσ2 88 12 (show ¬ ((56 ≤ 88 ∧ 88 < 58) ∨ (88 = 60 ∧ (12 = 5 ∨ 12 = 6 ∨ 12 = 7 ∨ 12 = 8 ∨ 12 = 10 ∨ 12 = 11 ∨ 12 = 12 ∨ 12 = 13)) ∨ (61 ≤ 88 ∧ 88 < 71)) from by omega))
  have f14 : (0 : Int) ≤ τ 88 12 ∧ τ 88 12 ≤ 400 := hIτ 88 12
  have y15 : σ8 0 13 = τ 0 13 := ((hGσ8 0 13 (show ¬ ((0 = 88 ∧ (13 = 19 ∨ 13 = 20 ∨ 13 = 21 ∨ 13 = 22 ∨ 13 = 23 ∨ 13 = 24 ∨ 13 = 25 ∨ 13 = 26 ∨ 13 = 27)) ∨ (0 = 89 ∧ 300 ≤ 13)) from by omega))).trans (hGσ2 0 13 (show ¬ ((56 ≤ 0 ∧ 0 < 58) ∨ (0 = 60 ∧ (13 = 5 ∨ 13 = 6 ∨ 13 = 7 ∨ 13 = 8 ∨ 13 = 10 ∨ 13 = 11 ∨ 13 = 12 ∨ 13 = 13)) ∨ (61 ≤ 0 ∧ 0 < 71)) from by omega))
  have f16 : (-2147483648 : Int) ≤ τ 0 13 ∧ τ 0 13 ≤ 2147483647 := hIτ 0 13
  have y17 : σ8 88 17 = τ 88 17 := ((hGσ8 88 17 (show ¬ ((88 = 88 ∧ (17 = 19 ∨ 17 = 20 ∨ 17 = 21 ∨ 17 = 22 ∨ 17 = 23 ∨ 17 = 24 ∨ 17 = 25 ∨ 17 = 26 ∨ 17 = 27)) ∨ (88 = 89 ∧ 300 ≤ 17)) from by omega))).trans (hGσ2 88 17 (show ¬ ((56 ≤ 88 ∧ 88 < 58) ∨ (88 = 60 ∧ (17 = 5 ∨ 17 = 6 ∨ 17 = 7 ∨ 17 = 8 ∨ 17 = 10 ∨ 17 = 11 ∨ 17 = 12 ∨ 17 = 13)) ∨ (61 ≤ 88 ∧ 88 < 71)) from by omega))
  have f18 : (0 : Int) ≤ τ 88 17 ∧ τ 88 17 ≤ 5 := hIτ 88 17
  have y19 : σ8 31 6 = τ 31 6 := ((hGσ8 31 6 (show ¬ ((31 = 88 ∧ (6 = 19 ∨ 6 = 20 ∨ 6 = 21 ∨ 6 = 22 ∨ 6 = 23 ∨ 6 = 24 ∨ 6 = 25 ∨ 6 = 26 ∨ 6 = 27)) ∨ (31 = 89 ∧ 300 ≤ 6)) from by omega))).trans (hGσ2 31 6 (show ¬ ((56 ≤ 31 ∧ 31 < 58) ∨ (31 = 60 ∧ (6 = 5 ∨ 6 = 6 ∨ 6 = 7 ∨ 6 = 8 ∨ 6 = 10 ∨ 6 = 11 ∨ 6 = 12 ∨ 6 = 13)) ∨ (61 ≤ 31 ∧ 31 < 71)) from by omega))
  have f20 : (0 : Int) ≤ τ 31 6 ∧ τ 31 6 ≤ 1 := hIτ 31 6
  have y21 : σ8 39 6 = τ 39 6 := ((hGσ8 39 6 (show ¬ ((39 = 88 ∧ (6 = 19 ∨ 6 = 20 ∨ 6 = 21 ∨ 6 = 22 ∨ 6 = 23 ∨ 6 = 24 ∨ 6 = 25 ∨ 6 = 26 ∨ 6 = 27)) ∨ (39 = 89 ∧ 300 ≤ 6)) from by omega))).trans (hGσ2 39 6 (show ¬ ((56 ≤ 39 ∧ 39 < 58) ∨ (39 = 60 ∧ (6 = 5 ∨ 6 = 6 ∨ 6 = 7 ∨ 6 = 8 ∨ 6 = 10 ∨ 6 = 11 ∨ 6 = 12 ∨ 6 = 13)) ∨ (61 ≤ 39 ∧ 39 < 71)) from by omega))
  have f22 : (0 : Int) ≤ τ 39 6 ∧ τ 39 6 ≤ 1 := hIτ 39 6
  have y23 : σ8 90 0 = τ 90 0 := ((hGσ8 90 0 (show ¬ ((90 = 88 ∧ (0 = 19 ∨ 0 = 20 ∨ 0 = 21 ∨ 0 = 22 ∨ 0 = 23 ∨ 0 = 24 ∨ 0 = 25 ∨ 0 = 26 ∨ 0 = 27)) ∨ (90 = 89 ∧ 300 ≤ 0)) from by omega))).trans (hGσ2 90 0 (show ¬ ((56 ≤ 90 ∧ 90 < 58) ∨ (90 = 60 ∧ (0 = 5 ∨ 0 = 6 ∨ 0 = 7 ∨ 0 = 8 ∨ 0 = 10 ∨ 0 = 11 ∨ 0 = 12 ∨ 0 = 13)) ∨ (61 ≤ 90 ∧ 90 < 71)) from by omega))
  have f24 : (0 : Int) ≤ τ 90 0 ∧ τ 90 0 ≤ 1 := hIτ 90 0
  have y25 : σ8 90 1 = τ 90 1 := ((hGσ8 90 1 (show ¬ ((90 = 88 ∧ (1 = 19 ∨ 1 = 20 ∨ 1 = 21 ∨ 1 = 22 ∨ 1 = 23 ∨ 1 = 24 ∨ 1 = 25 ∨ 1 = 26 ∨ 1 = 27)) ∨ (90 = 89 ∧ 300 ≤ 1)) from by omega))).trans (hGσ2 90 1 (show ¬ ((56 ≤ 90 ∧ 90 < 58) ∨ (90 = 60 ∧ (1 = 5 ∨ 1 = 6 ∨ 1 = 7 ∨ 1 = 8 ∨ 1 = 10 ∨ 1 = 11 ∨ 1 = 12 ∨ 1 = 13)) ∨ (61 ≤ 90 ∧ 90 < 71)) from by omega))
  have f26 : (0 : Int) ≤ τ 90 1 ∧ τ 90 1 ≤ 1 := hIτ 90 1
  exact K σ8 hIσ8 ⟨mσ8, by omega, sσ8, bσ8, by omega, by omega, by omega, tσ8, stσ8⟩
set_option maxHeartbeats 4000000 in
set_option maxRecDepth 100000 in
theorem w_case_19 {G : tw_G} (hX : tw_isX G) (hM : tw_isM G) {E : List Frame → Array Value → State → State → Prop} (hN : (gN G : Int) ≤ 2560) (i : Int) (hi : 0 ≤ i ∧ i + 5 ≤ (gN G : Int)) (τ : tw_M) (hIτ : tw_I τ) (hL : tw_LI τ) (K : ∀ τ' : tw_M, tw_I τ' → tw_LI τ' → tw_J G tw_ML E 1352 [(0, vR 300), (1, vR 0), (2, vR 88), (3, vI i)] [] τ') : tw_J G tw_ML E 743 [(0, vR 300), (1, vR 0), (2, vR 88), (3, vI i)] [] τ := by
  obtain ⟨mτ, zτ, sτ, bτ, fτ, kτ0, kτ1, tτ, stτ⟩ := hL
  have g9 : (0 : Int) ≤ τ 10 10 ∧ τ 10 10 ≤ 400 := hIτ 10 10
  obtain ⟨v1, ev1⟩ : ∃ v : Int, v = (gxs G (i + 1).toNat).toInt := ⟨_, rfl⟩
  have hv1 : (-2147483648 : Int) ≤ v1 ∧ v1 ≤ 2147483647 := by rw [ev1]; exact i32_in _
  obtain ⟨v2, ev2⟩ : ∃ v : Int, v = (gxs G (i + 2).toNat).toInt := ⟨_, rfl⟩
  have hv2 : (-2147483648 : Int) ≤ v2 ∧ v2 ≤ 2147483647 := by rw [ev2]; exact i32_in _
  obtain ⟨v3, ev3⟩ : ∃ v : Int, v = (gxs G (i + 3).toNat).toInt := ⟨_, rfl⟩
  have hv3 : (-2147483648 : Int) ≤ v3 ∧ v3 ≤ 2147483647 := by rw [ev3]; exact i32_in _
  obtain ⟨v4, ev4⟩ : ∃ v : Int, v = (gxs G (i + 4).toNat).toInt := ⟨_, rfl⟩
  have hv4 : (-2147483648 : Int) ≤ v4 ∧ v4 ≤ 2147483647 := by rw [ev4]; exact i32_in _
  refine j_aload_n (pc := 743) dL_law_743 rfl rfl ?_
  refine j_callV (pc := 744) (As := []) (st := []) (c_X11_adopt hX τ hIτ) mv_L_99 rfl rfl rfl (a_0 hX) dL_law_744 ⟨Nat.le_of_ble_eq_true rfl, Nat.le_of_ble_eq_true rfl⟩ ⟨Nat.le_of_ble_eq_true rfl, Nat.le_of_ble_eq_true rfl⟩ rfl (Nat.le_of_ble_eq_true rfl) rfl (fun z1 σ2 hz1 => ?_)
  obtain ⟨r4, rfl, hr4, hIσ2, hGσ2, q3_0⟩ := hz1
  replace q3_0 : ∀ rk : Nat → Int, ADQ rk τ → ADE (wW 1 τ) rk r4 τ σ2 := q3_0
  refine j_st (st' := [vI r4]) rfl ?_
  have y5 : σ2 10 10 = τ 10 10 := (hGσ2 10 10 (show ¬ ((56 ≤ 10 ∧ 10 < 58) ∨ (10 = 60 ∧ (10 = 5 ∨ 10 = 6 ∨ 10 = 8 ∨ 10 = 10 ∨ 10 = 11)) ∨ (61 ≤ 10 ∧ 10 < 71) ∨ (24 ≤ 10 ∧ 10 < 29)) from by omega))
  have f6 : (0 : Int) ≤ τ 10 10 ∧ τ 10 10 ≤ 400 := hIτ 10 10
  have bσ2 : BY σ2 := BY_kept bτ (fun j => hGσ2 11 j (show ¬ ((56 ≤ 11 ∧ 11 < 58) ∨ (11 = 60 ∧ (j = 5 ∨ j = 6 ∨ j = 8 ∨ j = 10 ∨ j = 11)) ∨ (61 ≤ 11 ∧ 11 < 71) ∨ (24 ≤ 11 ∧ 11 < 29)) from by omega)) (fun j => hGσ2 98 j (show ¬ ((56 ≤ 98 ∧ 98 < 58) ∨ (98 = 60 ∧ (j = 5 ∨ j = 6 ∨ j = 8 ∨ j = 10 ∨ j = 11)) ∨ (61 ≤ 98 ∧ 98 < 71) ∨ (24 ≤ 98 ∧ 98 < 29)) from by omega)) (by omega)
  have mσ2 : mI σ2 := mI_kept mτ (fun j hj => hGσ2 89 j (show ¬ ((56 ≤ 89 ∧ 89 < 58) ∨ (89 = 60 ∧ (j = 5 ∨ j = 6 ∨ j = 8 ∨ j = 10 ∨ j = 11)) ∨ (61 ≤ 89 ∧ 89 < 71) ∨ (24 ≤ 89 ∧ 89 < 29)) from by omega)) (fun j => hGσ2 90 j (show ¬ ((56 ≤ 90 ∧ 90 < 58) ∨ (90 = 60 ∧ (j = 5 ∨ j = 6 ∨ j = 8 ∨ j = 10 ∨ j = 11)) ∨ (61 ≤ 90 ∧ 90 < 71) ∨ (24 ≤ 90 ∧ 90 < 29)) from by omega)) (hGσ2 91 0 (show ¬ ((56 ≤ 91 ∧ 91 < 58) ∨ (91 = 60 ∧ (0 = 5 ∨ 0 = 6 ∨ 0 = 8 ∨ 0 = 10 ∨ 0 = 11)) ∨ (61 ≤ 91 ∧ 91 < 71) ∨ (24 ≤ 91 ∧ 91 < 29)) from by omega)) hIτ
  have sσ2 : SR σ2 := SR_kept sτ (fun c j h => hGσ2 c j (show ¬ ((56 ≤ c ∧ c < 58) ∨ (c = 60 ∧ (j = 5 ∨ j = 6 ∨ j = 8 ∨ j = 10 ∨ j = 11)) ∨ (61 ≤ c ∧ c < 71) ∨ (24 ≤ c ∧ c < 29)) from by omega)) (fun j => hGσ2 104 j (show ¬ ((56 ≤ 104 ∧ 104 < 58) ∨ (104 = 60 ∧ (j = 5 ∨ j = 6 ∨ j = 8 ∨ j = 10 ∨ j = 11)) ∨ (61 ≤ 104 ∧ 104 < 71) ∨ (24 ≤ 104 ∧ 104 < 29)) from by omega)) (fun j => hGσ2 105 j (show ¬ ((56 ≤ 105 ∧ 105 < 58) ∨ (105 = 60 ∧ (j = 5 ∨ j = 6 ∨ j = 8 ∨ j = 10 ∨ j = 11)) ∨ (61 ≤ 105 ∧ 105 < 71) ∨ (24 ≤ 105 ∧ 105 < 29)) from by omega))
  have tσ2 : TT σ2 := TT_kept tτ (fun c j h => hGσ2 c j (show ¬ ((56 ≤ c ∧ c < 58) ∨ (c = 60 ∧ (j = 5 ∨ j = 6 ∨ j = 8 ∨ j = 10 ∨ j = 11)) ∨ (61 ≤ c ∧ c < 71) ∨ (24 ≤ c ∧ c < 29)) from by omega)) (fun j h => hGσ2 89 j (show ¬ ((56 ≤ 89 ∧ 89 < 58) ∨ (89 = 60 ∧ (j = 5 ∨ j = 6 ∨ j = 8 ∨ j = 10 ∨ j = 11)) ∨ (61 ≤ 89 ∧ 89 < 71) ∨ (24 ≤ 89 ∧ 89 < 29)) from by omega))
  refine j_pop (pc := 747) dL_law_747 rfl ?_
  refine j_aload_n (pc := 748) dL_law_748 rfl rfl ?_
  refine j_callV (pc := 749) (As := []) (st := []) (c_X12_adopt hM σ2 hIσ2 mσ2) mv_L_102 rfl rfl rfl (a_88 hM) dL_law_749 ⟨Nat.le_of_ble_eq_true rfl, Nat.le_of_ble_eq_true rfl⟩ ⟨Nat.le_of_ble_eq_true rfl, Nat.le_of_ble_eq_true rfl⟩ rfl (Nat.le_of_ble_eq_true rfl) rfl (fun z7 σ8 hz7 => ?_)
  obtain ⟨r10, rfl, hr10, hIσ8, hGσ8, q9_0, q9_1, q9_2, q9_3, q9_4, q9_5⟩ := hz7
  replace q9_0 : mI σ8 := q9_0
  replace q9_1 : σ8 89 93 = σ2 89 93 := q9_1
  have y11 : σ2 89 93 = τ 89 93 := (hGσ2 89 93 (show ¬ ((56 ≤ 89 ∧ 89 < 58) ∨ (89 = 60 ∧ (93 = 5 ∨ 93 = 6 ∨ 93 = 8 ∨ 93 = 10 ∨ 93 = 11)) ∨ (61 ≤ 89 ∧ 89 < 71) ∨ (24 ≤ 89 ∧ 89 < 29)) from by omega))
  have f12 : (0 : Int) ≤ τ 89 93 ∧ τ 89 93 ≤ 999 := hIτ 89 93
  replace q9_2 : σ8 89 94 = σ2 89 94 := q9_2
  have y13 : σ2 89 94 = τ 89 94 := (hGσ2 89 94 (show ¬ ((56 ≤ 89 ∧ 89 < 58) ∨ (89 = 60 ∧ (94 = 5 ∨ 94 = 6 ∨ 94 = 8 ∨ 94 = 10 ∨ 94 = 11)) ∨ (61 ≤ 89 ∧ 89 < 71) ∨ (24 ≤ 89 ∧ 89 < 29)) from by omega))
  have f14 : (-2147483648 : Int) ≤ τ 89 94 ∧ τ 89 94 ≤ 2147483647 := hIτ 89 94
  replace q9_3 : σ8 89 95 = σ2 89 95 := q9_3
  have y15 : σ2 89 95 = τ 89 95 := (hGσ2 89 95 (show ¬ ((56 ≤ 89 ∧ 89 < 58) ∨ (89 = 60 ∧ (95 = 5 ∨ 95 = 6 ∨ 95 = 8 ∨ 95 = 10 ∨ 95 = 11)) ∨ (61 ≤ 89 ∧ 89 < 71) ∨ (24 ≤ 89 ∧ 89 < 29)) from by omega))
  have f16 : (0 : Int) ≤ τ 89 95 ∧ τ 89 95 ≤ 999 := hIτ 89 95
  replace q9_4 : σ8 89 96 = σ2 89 96 := q9_4
  have y17 : σ2 89 96 = τ 89 96 := (hGσ2 89 96 (show ¬ ((56 ≤ 89 ∧ 89 < 58) ∨ (89 = 60 ∧ (96 = 5 ∨ 96 = 6 ∨ 96 = 8 ∨ 96 = 10 ∨ 96 = 11)) ∨ (61 ≤ 89 ∧ 89 < 71) ∨ (24 ≤ 89 ∧ 89 < 29)) from by omega))
  have f18 : (-2147483648 : Int) ≤ τ 89 96 ∧ τ 89 96 ≤ 2147483647 := hIτ 89 96
  replace q9_5 : ∀ rk : Nat → Int, MOB rk 0 σ2 → WOK (wM σ2) → ∃ p v : Int, BMS (wM σ2) rk (pt (kk (wM σ2))) p v ∧ ((p = -4 ∧ r10 = -4 ∧ ∀ j : Nat, j < 100 → σ8 89 j = σ2 89 j) ∨ (¬ p = -4 ∧ gM 0 σ8 = lay (wM σ2) p ∧ (∀ f : Int, 1 ≤ f → f ≤ 40 → σ8 89 (41 + f).toNat = 0) ∧ (∀ x : Int, 1 ≤ x → x ≤ 10 → σ8 89 (82 + x).toNat = rk x.toNat - csz (lay (wM σ2) p) x 40) ∧ r10 = cnt (lay (wM σ2) p) (σ2 91 0).toNat)) := q9_5
  have y19 : σ2 91 0 = τ 91 0 := (hGσ2 91 0 (show ¬ ((56 ≤ 91 ∧ 91 < 58) ∨ (91 = 60 ∧ (0 = 5 ∨ 0 = 6 ∨ 0 = 8 ∨ 0 = 10 ∨ 0 = 11)) ∨ (61 ≤ 91 ∧ 91 < 71) ∨ (24 ≤ 91 ∧ 91 < 29)) from by omega))
  have f20 : (1 : Int) ≤ τ 91 0 ∧ τ 91 0 ≤ 40 := hIτ 91 0
  refine j_st (st' := [vI r10]) rfl ?_
  have y21 : σ8 10 10 = τ 10 10 := ((hGσ8 10 10 (show ¬ ((10 = 88 ∧ (10 = 19 ∨ 10 = 20 ∨ 10 = 21 ∨ 10 = 22 ∨ 10 = 23 ∨ 10 = 24 ∨ 10 = 25 ∨ 10 = 26 ∨ 10 = 27)) ∨ (10 = 89 ∧ (10 < 100 ∨ 300 ≤ 10))) from by omega))).trans (hGσ2 10 10 (show ¬ ((56 ≤ 10 ∧ 10 < 58) ∨ (10 = 60 ∧ (10 = 5 ∨ 10 = 6 ∨ 10 = 8 ∨ 10 = 10 ∨ 10 = 11)) ∨ (61 ≤ 10 ∧ 10 < 71) ∨ (24 ≤ 10 ∧ 10 < 29)) from by omega))
  have bσ8 : BY σ8 := BY_kept bσ2 (fun j => hGσ8 11 j (show ¬ ((11 = 88 ∧ (j = 19 ∨ j = 20 ∨ j = 21 ∨ j = 22 ∨ j = 23 ∨ j = 24 ∨ j = 25 ∨ j = 26 ∨ j = 27)) ∨ (11 = 89 ∧ (j < 100 ∨ 300 ≤ j))) from by omega)) (fun j => hGσ8 98 j (show ¬ ((98 = 88 ∧ (j = 19 ∨ j = 20 ∨ j = 21 ∨ j = 22 ∨ j = 23 ∨ j = 24 ∨ j = 25 ∨ j = 26 ∨ j = 27)) ∨ (98 = 89 ∧ (j < 100 ∨ 300 ≤ j))) from by omega)) (by omega)
  have mσ8 : mI σ8 := q9_0
  have sσ8 : SR σ8 := SR_kept sσ2 (fun c j h => hGσ8 c j (show ¬ ((c = 88 ∧ (j = 19 ∨ j = 20 ∨ j = 21 ∨ j = 22 ∨ j = 23 ∨ j = 24 ∨ j = 25 ∨ j = 26 ∨ j = 27)) ∨ (c = 89 ∧ (j < 100 ∨ 300 ≤ j))) from by omega)) (fun j => hGσ8 104 j (show ¬ ((104 = 88 ∧ (j = 19 ∨ j = 20 ∨ j = 21 ∨ j = 22 ∨ j = 23 ∨ j = 24 ∨ j = 25 ∨ j = 26 ∨ j = 27)) ∨ (104 = 89 ∧ (j < 100 ∨ 300 ≤ j))) from by omega)) (fun j => hGσ8 105 j (show ¬ ((105 = 88 ∧ (j = 19 ∨ j = 20 ∨ j = 21 ∨ j = 22 ∨ j = 23 ∨ j = 24 ∨ j = 25 ∨ j = 26 ∨ j = 27)) ∨ (105 = 89 ∧ (j < 100 ∨ 300 ≤ j))) from by omega))
  have ht9 : (1 : Int) ≤ τ 91 0 ∧ τ 91 0 ≤ 40 := hIτ 91 0
  have st9 := ST_adopt stτ hIτ q3_0 q9_5 (fun c j h1 h2 h3 => hGσ2 c j (show ¬ ((56 ≤ c ∧ c < 58) ∨ (c = 60 ∧ (j = 5 ∨ j = 6 ∨ j = 8 ∨ j = 10 ∨ j = 11)) ∨ (61 ≤ c ∧ c < 71) ∨ (24 ≤ c ∧ c < 29)) from by omega)) (fun c j h1 h2 => hGσ8 c j (show ¬ ((c = 88 ∧ (j = 19 ∨ j = 20 ∨ j = 21 ∨ j = 22 ∨ j = 23 ∨ j = 24 ∨ j = 25 ∨ j = 26 ∨ j = 27)) ∨ (c = 89 ∧ (j < 100 ∨ 300 ≤ j))) from by omega))
  have rr9 := st9.2
  clear q3_0 q9_5
  refine j_pop (pc := 752) dL_law_752 rfl ?_
  refine j_goto (pc := 753) (tgt := 1352) dL_law_753 rfl ?_
  have y22 : σ8 10 10 = τ 10 10 := ((hGσ8 10 10 (show ¬ ((10 = 88 ∧ (10 = 19 ∨ 10 = 20 ∨ 10 = 21 ∨ 10 = 22 ∨ 10 = 23 ∨ 10 = 24 ∨ 10 = 25 ∨ 10 = 26 ∨ 10 = 27)) ∨ (10 = 89 ∧ (10 < 100 ∨ 300 ≤ 10))) from by omega))).trans (hGσ2 10 10 (show ¬ ((56 ≤ 10 ∧ 10 < 58) ∨ (10 = 60 ∧ (10 = 5 ∨ 10 = 6 ∨ 10 = 8 ∨ 10 = 10 ∨ 10 = 11)) ∨ (61 ≤ 10 ∧ 10 < 71) ∨ (24 ≤ 10 ∧ 10 < 29)) from by omega))
  have y23 : σ8 88 12 = τ 88 12 := ((hGσ8 88 12 (show ¬ ((88 = 88 ∧ (12 = 19 ∨ 12 = 20 ∨ 12 = 21 ∨ 12 = 22 ∨ 12 = 23 ∨ 12 = 24 ∨ 12 = 25 ∨ 12 = 26 ∨ 12 = 27)) ∨ (88 = 89 ∧ (12 < 100 ∨ 300 ≤ 12))) from by omega))).trans (hGσ2 88 12 (show ¬ ((56 ≤ 88 ∧ 88 < 58) ∨ (88 = 60 ∧ (12 = 5 ∨ 12 = 6 ∨ 12 = 8 ∨ 12 = 10 ∨ 12 = 11)) ∨ (61 ≤ 88 ∧ 88 < 71) ∨ (24 ≤ 88 ∧ 88 < 29)) from by omega))
  have f24 : (0 : Int) ≤ τ 88 12 ∧ τ 88 12 ≤ 400 := hIτ 88 12
  have y25 : σ8 0 13 = τ 0 13 := ((hGσ8 0 13 (show ¬ ((0 = 88 ∧ (13 = 19 ∨ 13 = 20 ∨ 13 = 21 ∨ 13 = 22 ∨ 13 = 23 ∨ 13 = 24 ∨ 13 = 25 ∨ 13 = 26 ∨ 13 = 27)) ∨ (0 = 89 ∧ (13 < 100 ∨ 300 ≤ 13))) from by omega))).trans (hGσ2 0 13 (show ¬ ((56 ≤ 0 ∧ 0 < 58) ∨ (0 = 60 ∧ (13 = 5 ∨ 13 = 6 ∨ 13 = 8 ∨ 13 = 10 ∨ 13 = 11)) ∨ (61 ≤ 0 ∧ 0 < 71) ∨ (24 ≤ 0 ∧ 0 < 29)) from by omega))
  have f26 : (-2147483648 : Int) ≤ τ 0 13 ∧ τ 0 13 ≤ 2147483647 := hIτ 0 13
  have y27 : σ8 88 17 = τ 88 17 := ((hGσ8 88 17 (show ¬ ((88 = 88 ∧ (17 = 19 ∨ 17 = 20 ∨ 17 = 21 ∨ 17 = 22 ∨ 17 = 23 ∨ 17 = 24 ∨ 17 = 25 ∨ 17 = 26 ∨ 17 = 27)) ∨ (88 = 89 ∧ (17 < 100 ∨ 300 ≤ 17))) from by omega))).trans (hGσ2 88 17 (show ¬ ((56 ≤ 88 ∧ 88 < 58) ∨ (88 = 60 ∧ (17 = 5 ∨ 17 = 6 ∨ 17 = 8 ∨ 17 = 10 ∨ 17 = 11)) ∨ (61 ≤ 88 ∧ 88 < 71) ∨ (24 ≤ 88 ∧ 88 < 29)) from by omega))
  have f28 : (0 : Int) ≤ τ 88 17 ∧ τ 88 17 ≤ 5 := hIτ 88 17
  have y29 : σ8 31 6 = τ 31 6 := ((hGσ8 31 6 (show ¬ ((31 = 88 ∧ (6 = 19 ∨ 6 = 20 ∨ 6 = 21 ∨ 6 = 22 ∨ 6 = 23 ∨ 6 = 24 ∨ 6 = 25 ∨ 6 = 26 ∨ 6 = 27)) ∨ (31 = 89 ∧ (6 < 100 ∨ 300 ≤ 6))) from by omega))).trans (hGσ2 31 6 (show ¬ ((56 ≤ 31 ∧ 31 < 58) ∨ (31 = 60 ∧ (6 = 5 ∨ 6 = 6 ∨ 6 = 8 ∨ 6 = 10 ∨ 6 = 11)) ∨ (61 ≤ 31 ∧ 31 < 71) ∨ (24 ≤ 31 ∧ 31 < 29)) from by omega))
  have f30 : (0 : Int) ≤ τ 31 6 ∧ τ 31 6 ≤ 1 := hIτ 31 6
  have y31 : σ8 39 6 = τ 39 6 := ((hGσ8 39 6 (show ¬ ((39 = 88 ∧ (6 = 19 ∨ 6 = 20 ∨ 6 = 21 ∨ 6 = 22 ∨ 6 = 23 ∨ 6 = 24 ∨ 6 = 25 ∨ 6 = 26 ∨ 6 = 27)) ∨ (39 = 89 ∧ (6 < 100 ∨ 300 ≤ 6))) from by omega))).trans (hGσ2 39 6 (show ¬ ((56 ≤ 39 ∧ 39 < 58) ∨ (39 = 60 ∧ (6 = 5 ∨ 6 = 6 ∨ 6 = 8 ∨ 6 = 10 ∨ 6 = 11)) ∨ (61 ≤ 39 ∧ 39 < 71) ∨ (24 ≤ 39 ∧ 39 < 29)) from by omega))
  have f32 : (0 : Int) ≤ τ 39 6 ∧ τ 39 6 ≤ 1 := hIτ 39 6
  have y33 : σ8 90 0 = τ 90 0 := ((hGσ8 90 0 (show ¬ ((90 = 88 ∧ (0 = 19 ∨ 0 = 20 ∨ 0 = 21 ∨ 0 = 22 ∨ 0 = 23 ∨ 0 = 24 ∨ 0 = 25 ∨ 0 = 26 ∨ 0 = 27)) ∨ (90 = 89 ∧ (0 < 100 ∨ 300 ≤ 0))) from by omega))).trans (hGσ2 90 0 (show ¬ ((56 ≤ 90 ∧ 90 < 58) ∨ (90 = 60 ∧ (0 = 5 ∨ 0 = 6 ∨ 0 = 8 ∨ 0 = 10 ∨ 0 = 11)) ∨ (61 ≤ 90 ∧ 90 < 71) ∨ (24 ≤ 90 ∧ 90 < 29)) from by omega))
  have f34 : (0 : Int) ≤ τ 90 0 ∧ τ 90 0 ≤ 1 := hIτ 90 0
  have y35 : σ8 90 1 = τ 90 1 := ((hGσ8 90 1 (show ¬ ((90 = 88 ∧ (1 = 19 ∨ 1 = 20 ∨ 1 = 21 ∨ 1 = 22 ∨ 1 = 23 ∨ 1 = 24 ∨ 1 = 25 ∨ 1 = 26 ∨ 1 = 27)) ∨ (90 = 89 ∧ (1 < 100 ∨ 300 ≤ 1))) from by omega))).trans (hGσ2 90 1 (show ¬ ((56 ≤ 90 ∧ 90 < 58) ∨ (90 = 60 ∧ (1 = 5 ∨ 1 = 6 ∨ 1 = 8 ∨ 1 = 10 ∨ 1 = 11)) ∨ (61 ≤ 90 ∧ 90 < 71) ∨ (24 ≤ 90 ∧ 90 < 29)) from by omega))
  have f36 : (0 : Int) ≤ τ 90 1 ∧ τ 90 1 ≤ 1 := hIτ 90 1
  obtain ⟨t0, t1, t2, t3, t4, t5, t6, t7, t8, t9, t10, t11, t12, t13, t14, t15, t16, t17⟩ := tτ
  have y37 : σ8 29 0 = τ 29 0 := ((hGσ8 29 0 (show ¬ ((29 = 88 ∧ (0 = 19 ∨ 0 = 20 ∨ 0 = 21 ∨ 0 = 22 ∨ 0 = 23 ∨ 0 = 24 ∨ 0 = 25 ∨ 0 = 26 ∨ 0 = 27)) ∨ (29 = 89 ∧ (0 < 100 ∨ 300 ≤ 0))) from by omega))).trans (hGσ2 29 0 (show ¬ ((56 ≤ 29 ∧ 29 < 58) ∨ (29 = 60 ∧ (0 = 5 ∨ 0 = 6 ∨ 0 = 8 ∨ 0 = 10 ∨ 0 = 11)) ∨ (61 ≤ 29 ∧ 29 < 71) ∨ (24 ≤ 29 ∧ 29 < 29)) from by omega))
  have f38 : (0 : Int) ≤ τ 29 0 ∧ τ 29 0 ≤ 999 := hIτ 29 0
  have y39 : σ8 30 0 = τ 30 0 := ((hGσ8 30 0 (show ¬ ((30 = 88 ∧ (0 = 19 ∨ 0 = 20 ∨ 0 = 21 ∨ 0 = 22 ∨ 0 = 23 ∨ 0 = 24 ∨ 0 = 25 ∨ 0 = 26 ∨ 0 = 27)) ∨ (30 = 89 ∧ (0 < 100 ∨ 300 ≤ 0))) from by omega))).trans (hGσ2 30 0 (show ¬ ((56 ≤ 30 ∧ 30 < 58) ∨ (30 = 60 ∧ (0 = 5 ∨ 0 = 6 ∨ 0 = 8 ∨ 0 = 10 ∨ 0 = 11)) ∨ (61 ≤ 30 ∧ 30 < 71) ∨ (24 ≤ 30 ∧ 30 < 29)) from by omega))
  have f40 : (-2147483648 : Int) ≤ τ 30 0 ∧ τ 30 0 ≤ 2147483647 := hIτ 30 0
  have y41 : σ8 29 1 = τ 29 1 := ((hGσ8 29 1 (show ¬ ((29 = 88 ∧ (1 = 19 ∨ 1 = 20 ∨ 1 = 21 ∨ 1 = 22 ∨ 1 = 23 ∨ 1 = 24 ∨ 1 = 25 ∨ 1 = 26 ∨ 1 = 27)) ∨ (29 = 89 ∧ (1 < 100 ∨ 300 ≤ 1))) from by omega))).trans (hGσ2 29 1 (show ¬ ((56 ≤ 29 ∧ 29 < 58) ∨ (29 = 60 ∧ (1 = 5 ∨ 1 = 6 ∨ 1 = 8 ∨ 1 = 10 ∨ 1 = 11)) ∨ (61 ≤ 29 ∧ 29 < 71) ∨ (24 ≤ 29 ∧ 29 < 29)) from by omega))
  have f42 : (0 : Int) ≤ τ 29 1 ∧ τ 29 1 ≤ 999 := hIτ 29 1
  have y43 : σ8 30 1 = τ 30 1 := ((hGσ8 30 1 (show ¬ ((30 = 88 ∧ (1 = 19 ∨ 1 = 20 ∨ 1 = 21 ∨ 1 = 22 ∨ 1 = 23 ∨ 1 = 24 ∨ 1 = 25 ∨ 1 = 26 ∨ 1 = 27)) ∨ (30 = 89 ∧ (1 < 100 ∨ 300 ≤ 1))) from by omega))).trans (hGσ2 30 1 (show ¬ ((56 ≤ 30 ∧ 30 < 58) ∨ (30 = 60 ∧ (1 = 5 ∨ 1 = 6 ∨ 1 = 8 ∨ 1 = 10 ∨ 1 = 11)) ∨ (61 ≤ 30 ∧ 30 < 71) ∨ (24 ≤ 30 ∧ 30 < 29)) from by omega))
  have f44 : (-2147483648 : Int) ≤ τ 30 1 ∧ τ 30 1 ≤ 2147483647 := hIτ 30 1
  have y45 : σ8 37 0 = τ 37 0 := ((hGσ8 37 0 (show ¬ ((37 = 88 ∧ (0 = 19 ∨ 0 = 20 ∨ 0 = 21 ∨ 0 = 22 ∨ 0 = 23 ∨ 0 = 24 ∨ 0 = 25 ∨ 0 = 26 ∨ 0 = 27)) ∨ (37 = 89 ∧ (0 < 100 ∨ 300 ≤ 0))) from by omega))).trans (hGσ2 37 0 (show ¬ ((56 ≤ 37 ∧ 37 < 58) ∨ (37 = 60 ∧ (0 = 5 ∨ 0 = 6 ∨ 0 = 8 ∨ 0 = 10 ∨ 0 = 11)) ∨ (61 ≤ 37 ∧ 37 < 71) ∨ (24 ≤ 37 ∧ 37 < 29)) from by omega))
  have f46 : (0 : Int) ≤ τ 37 0 ∧ τ 37 0 ≤ 999 := hIτ 37 0
  have y47 : σ8 38 0 = τ 38 0 := ((hGσ8 38 0 (show ¬ ((38 = 88 ∧ (0 = 19 ∨ 0 = 20 ∨ 0 = 21 ∨ 0 = 22 ∨ 0 = 23 ∨ 0 = 24 ∨ 0 = 25 ∨ 0 = 26 ∨ 0 = 27)) ∨ (38 = 89 ∧ (0 < 100 ∨ 300 ≤ 0))) from by omega))).trans (hGσ2 38 0 (show ¬ ((56 ≤ 38 ∧ 38 < 58) ∨ (38 = 60 ∧ (0 = 5 ∨ 0 = 6 ∨ 0 = 8 ∨ 0 = 10 ∨ 0 = 11)) ∨ (61 ≤ 38 ∧ 38 < 71) ∨ (24 ≤ 38 ∧ 38 < 29)) from by omega))
  have f48 : (-2147483648 : Int) ≤ τ 38 0 ∧ τ 38 0 ≤ 2147483647 := hIτ 38 0
  have y49 : σ8 37 1 = τ 37 1 := ((hGσ8 37 1 (show ¬ ((37 = 88 ∧ (1 = 19 ∨ 1 = 20 ∨ 1 = 21 ∨ 1 = 22 ∨ 1 = 23 ∨ 1 = 24 ∨ 1 = 25 ∨ 1 = 26 ∨ 1 = 27)) ∨ (37 = 89 ∧ (1 < 100 ∨ 300 ≤ 1))) from by omega))).trans (hGσ2 37 1 (show ¬ ((56 ≤ 37 ∧ 37 < 58) ∨ (37 = 60 ∧ (1 = 5 ∨ 1 = 6 ∨ 1 = 8 ∨ 1 = 10 ∨ 1 = 11)) ∨ (61 ≤ 37 ∧ 37 < 71) ∨ (24 ≤ 37 ∧ 37 < 29)) from by omega))
  have f50 : (0 : Int) ≤ τ 37 1 ∧ τ 37 1 ≤ 999 := hIτ 37 1
  have y51 : σ8 38 1 = τ 38 1 := ((hGσ8 38 1 (show ¬ ((38 = 88 ∧ (1 = 19 ∨ 1 = 20 ∨ 1 = 21 ∨ 1 = 22 ∨ 1 = 23 ∨ 1 = 24 ∨ 1 = 25 ∨ 1 = 26 ∨ 1 = 27)) ∨ (38 = 89 ∧ (1 < 100 ∨ 300 ≤ 1))) from by omega))).trans (hGσ2 38 1 (show ¬ ((56 ≤ 38 ∧ 38 < 58) ∨ (38 = 60 ∧ (1 = 5 ∨ 1 = 6 ∨ 1 = 8 ∨ 1 = 10 ∨ 1 = 11)) ∨ (61 ≤ 38 ∧ 38 < 71) ∨ (24 ≤ 38 ∧ 38 < 29)) from by omega))
  have f52 : (-2147483648 : Int) ≤ τ 38 1 ∧ τ 38 1 ≤ 2147483647 := hIτ 38 1
  have y53 : σ8 45 0 = τ 45 0 := ((hGσ8 45 0 (show ¬ ((45 = 88 ∧ (0 = 19 ∨ 0 = 20 ∨ 0 = 21 ∨ 0 = 22 ∨ 0 = 23 ∨ 0 = 24 ∨ 0 = 25 ∨ 0 = 26 ∨ 0 = 27)) ∨ (45 = 89 ∧ (0 < 100 ∨ 300 ≤ 0))) from by omega))).trans (hGσ2 45 0 (show ¬ ((56 ≤ 45 ∧ 45 < 58) ∨ (45 = 60 ∧ (0 = 5 ∨ 0 = 6 ∨ 0 = 8 ∨ 0 = 10 ∨ 0 = 11)) ∨ (61 ≤ 45 ∧ 45 < 71) ∨ (24 ≤ 45 ∧ 45 < 29)) from by omega))
  have f54 : (0 : Int) ≤ τ 45 0 ∧ τ 45 0 ≤ 999 := hIτ 45 0
  have y55 : σ8 46 0 = τ 46 0 := ((hGσ8 46 0 (show ¬ ((46 = 88 ∧ (0 = 19 ∨ 0 = 20 ∨ 0 = 21 ∨ 0 = 22 ∨ 0 = 23 ∨ 0 = 24 ∨ 0 = 25 ∨ 0 = 26 ∨ 0 = 27)) ∨ (46 = 89 ∧ (0 < 100 ∨ 300 ≤ 0))) from by omega))).trans (hGσ2 46 0 (show ¬ ((56 ≤ 46 ∧ 46 < 58) ∨ (46 = 60 ∧ (0 = 5 ∨ 0 = 6 ∨ 0 = 8 ∨ 0 = 10 ∨ 0 = 11)) ∨ (61 ≤ 46 ∧ 46 < 71) ∨ (24 ≤ 46 ∧ 46 < 29)) from by omega))
  have f56 : (-2147483648 : Int) ≤ τ 46 0 ∧ τ 46 0 ≤ 2147483647 := hIτ 46 0
  have y57 : σ8 45 1 = τ 45 1 := ((hGσ8 45 1 (show ¬ ((45 = 88 ∧ (1 = 19 ∨ 1 = 20 ∨ 1 = 21 ∨ 1 = 22 ∨ 1 = 23 ∨ 1 = 24 ∨ 1 = 25 ∨ 1 = 26 ∨ 1 = 27)) ∨ (45 = 89 ∧ (1 < 100 ∨ 300 ≤ 1))) from by omega))).trans (hGσ2 45 1 (show ¬ ((56 ≤ 45 ∧ 45 < 58) ∨ (45 = 60 ∧ (1 = 5 ∨ 1 = 6 ∨ 1 = 8 ∨ 1 = 10 ∨ 1 = 11)) ∨ (61 ≤ 45 ∧ 45 < 71) ∨ (24 ≤ 45 ∧ 45 < 29)) from by omega))
  have f58 : (0 : Int) ≤ τ 45 1 ∧ τ 45 1 ≤ 999 := hIτ 45 1
  have y59 : σ8 46 1 = τ 46 1 := ((hGσ8 46 1 (show ¬ ((46 = 88 ∧ (1 = 19 ∨ 1 = 20 ∨ 1 = 21 ∨ 1 = 22 ∨ 1 = 23 ∨ 1 = 24 ∨ 1 = 25 ∨ 1 = 26 ∨ 1 = 27)) ∨ (46 = 89 ∧ (1 < 100 ∨ 300 ≤ 1))) from by omega))).trans (hGσ2 46 1 (show ¬ ((56 ≤ 46 ∧ 46 < 58) ∨ (46 = 60 ∧ (1 = 5 ∨ 1 = 6 ∨ 1 = 8 ∨ 1 = 10 ∨ 1 = 11)) ∨ (61 ≤ 46 ∧ 46 < 71) ∨ (24 ≤ 46 ∧ 46 < 29)) from by omega))
  have f60 : (-2147483648 : Int) ≤ τ 46 1 ∧ τ 46 1 ≤ 2147483647 := hIτ 46 1
  have u193 : σ8 89 193 = τ 89 193 := ((hGσ8 89 193 (show ¬ ((89 = 88 ∧ (193 = 19 ∨ 193 = 20 ∨ 193 = 21 ∨ 193 = 22 ∨ 193 = 23 ∨ 193 = 24 ∨ 193 = 25 ∨ 193 = 26 ∨ 193 = 27)) ∨ (89 = 89 ∧ (193 < 100 ∨ 300 ≤ 193))) from by omega))).trans (hGσ2 89 193 (show ¬ ((56 ≤ 89 ∧ 89 < 58) ∨ (89 = 60 ∧ (193 = 5 ∨ 193 = 6 ∨ 193 = 8 ∨ 193 = 10 ∨ 193 = 11)) ∨ (61 ≤ 89 ∧ 89 < 71) ∨ (24 ≤ 89 ∧ 89 < 29)) from by omega))
  have u194 : σ8 89 194 = τ 89 194 := ((hGσ8 89 194 (show ¬ ((89 = 88 ∧ (194 = 19 ∨ 194 = 20 ∨ 194 = 21 ∨ 194 = 22 ∨ 194 = 23 ∨ 194 = 24 ∨ 194 = 25 ∨ 194 = 26 ∨ 194 = 27)) ∨ (89 = 89 ∧ (194 < 100 ∨ 300 ≤ 194))) from by omega))).trans (hGσ2 89 194 (show ¬ ((56 ≤ 89 ∧ 89 < 58) ∨ (89 = 60 ∧ (194 = 5 ∨ 194 = 6 ∨ 194 = 8 ∨ 194 = 10 ∨ 194 = 11)) ∨ (61 ≤ 89 ∧ 89 < 71) ∨ (24 ≤ 89 ∧ 89 < 29)) from by omega))
  have u195 : σ8 89 195 = τ 89 195 := ((hGσ8 89 195 (show ¬ ((89 = 88 ∧ (195 = 19 ∨ 195 = 20 ∨ 195 = 21 ∨ 195 = 22 ∨ 195 = 23 ∨ 195 = 24 ∨ 195 = 25 ∨ 195 = 26 ∨ 195 = 27)) ∨ (89 = 89 ∧ (195 < 100 ∨ 300 ≤ 195))) from by omega))).trans (hGσ2 89 195 (show ¬ ((56 ≤ 89 ∧ 89 < 58) ∨ (89 = 60 ∧ (195 = 5 ∨ 195 = 6 ∨ 195 = 8 ∨ 195 = 10 ∨ 195 = 11)) ∨ (61 ≤ 89 ∧ 89 < 71) ∨ (24 ≤ 89 ∧ 89 < 29)) from by omega))
  have u196 : σ8 89 196 = τ 89 196 := ((hGσ8 89 196 (show ¬ ((89 = 88 ∧ (196 = 19 ∨ 196 = 20 ∨ 196 = 21 ∨ 196 = 22 ∨ 196 = 23 ∨ 196 = 24 ∨ 196 = 25 ∨ 196 = 26 ∨ 196 = 27)) ∨ (89 = 89 ∧ (196 < 100 ∨ 300 ≤ 196))) from by omega))).trans (hGσ2 89 196 (show ¬ ((56 ≤ 89 ∧ 89 < 58) ∨ (89 = 60 ∧ (196 = 5 ∨ 196 = 6 ∨ 196 = 8 ∨ 196 = 10 ∨ 196 = 11)) ∨ (61 ≤ 89 ∧ 89 < 71) ∨ (24 ≤ 89 ∧ 89 < 29)) from by omega))
  have u293 : σ8 89 293 = τ 89 293 := ((hGσ8 89 293 (show ¬ ((89 = 88 ∧ (293 = 19 ∨ 293 = 20 ∨ 293 = 21 ∨ 293 = 22 ∨ 293 = 23 ∨ 293 = 24 ∨ 293 = 25 ∨ 293 = 26 ∨ 293 = 27)) ∨ (89 = 89 ∧ (293 < 100 ∨ 300 ≤ 293))) from by omega))).trans (hGσ2 89 293 (show ¬ ((56 ≤ 89 ∧ 89 < 58) ∨ (89 = 60 ∧ (293 = 5 ∨ 293 = 6 ∨ 293 = 8 ∨ 293 = 10 ∨ 293 = 11)) ∨ (61 ≤ 89 ∧ 89 < 71) ∨ (24 ≤ 89 ∧ 89 < 29)) from by omega))
  have u294 : σ8 89 294 = τ 89 294 := ((hGσ8 89 294 (show ¬ ((89 = 88 ∧ (294 = 19 ∨ 294 = 20 ∨ 294 = 21 ∨ 294 = 22 ∨ 294 = 23 ∨ 294 = 24 ∨ 294 = 25 ∨ 294 = 26 ∨ 294 = 27)) ∨ (89 = 89 ∧ (294 < 100 ∨ 300 ≤ 294))) from by omega))).trans (hGσ2 89 294 (show ¬ ((56 ≤ 89 ∧ 89 < 58) ∨ (89 = 60 ∧ (294 = 5 ∨ 294 = 6 ∨ 294 = 8 ∨ 294 = 10 ∨ 294 = 11)) ∨ (61 ≤ 89 ∧ 89 < 71) ∨ (24 ≤ 89 ∧ 89 < 29)) from by omega))
  have u295 : σ8 89 295 = τ 89 295 := ((hGσ8 89 295 (show ¬ ((89 = 88 ∧ (295 = 19 ∨ 295 = 20 ∨ 295 = 21 ∨ 295 = 22 ∨ 295 = 23 ∨ 295 = 24 ∨ 295 = 25 ∨ 295 = 26 ∨ 295 = 27)) ∨ (89 = 89 ∧ (295 < 100 ∨ 300 ≤ 295))) from by omega))).trans (hGσ2 89 295 (show ¬ ((56 ≤ 89 ∧ 89 < 58) ∨ (89 = 60 ∧ (295 = 5 ∨ 295 = 6 ∨ 295 = 8 ∨ 295 = 10 ∨ 295 = 11)) ∨ (61 ≤ 89 ∧ 89 < 71) ∨ (24 ≤ 89 ∧ 89 < 29)) from by omega))
  have u296 : σ8 89 296 = τ 89 296 := ((hGσ8 89 296 (show ¬ ((89 = 88 ∧ (296 = 19 ∨ 296 = 20 ∨ 296 = 21 ∨ 296 = 22 ∨ 296 = 23 ∨ 296 = 24 ∨ 296 = 25 ∨ 296 = 26 ∨ 296 = 27)) ∨ (89 = 89 ∧ (296 < 100 ∨ 300 ≤ 296))) from by omega))).trans (hGσ2 89 296 (show ¬ ((56 ≤ 89 ∧ 89 < 58) ∨ (89 = 60 ∧ (296 = 5 ∨ 296 = 6 ∨ 296 = 8 ∨ 296 = 10 ∨ 296 = 11)) ∨ (61 ≤ 89 ∧ 89 < 71) ∨ (24 ≤ 89 ∧ 89 < 29)) from by omega))
  exact K σ8 hIσ8 ⟨mσ8, by omega, sσ8, bσ8, by omega, by omega, by omega, ⟨by clear t1 t2 t3 t5 t6 t7 t9 t10 t11 t12 t13 t14 t15 t16 t17 q9_2 q9_3 q9_4; omega, by clear t0 t2 t3 t4 t6 t7 t8 t10 t11 t12 t13 t14 t15 t16 t17 q9_1 q9_3 q9_4; omega, by clear t0 t1 t3 t4 t5 t7 t8 t9 t11 t12 t13 t14 t15 t16 t17 q9_1 q9_2 q9_4; omega, by clear t0 t1 t2 t4 t5 t6 t8 t9 t10 t12 t13 t14 t15 t16 t17 q9_1 q9_2 q9_3; omega, by clear t1 t2 t3 t5 t6 t7 t9 t10 t11 t12 t13 t14 t15 t16 t17 q9_1 q9_2 q9_3 q9_4; omega, by clear t0 t2 t3 t4 t6 t7 t8 t10 t11 t12 t13 t14 t15 t16 t17 q9_1 q9_2 q9_3 q9_4; omega, by clear t0 t1 t3 t4 t5 t7 t8 t9 t11 t12 t13 t14 t15 t16 t17 q9_1 q9_2 q9_3 q9_4; omega, by clear t0 t1 t2 t4 t5 t6 t8 t9 t10 t12 t13 t14 t15 t16 t17 q9_1 q9_2 q9_3 q9_4; omega, by clear t1 t2 t3 t5 t6 t7 t9 t10 t11 t12 t13 t14 t15 t16 t17 q9_1 q9_2 q9_3 q9_4; omega, by clear t0 t2 t3 t4 t6 t7 t8 t10 t11 t12 t13 t14 t15 t16 t17 q9_1 q9_2 q9_3 q9_4; omega, by clear t0 t1 t3 t4 t5 t7 t8 t9 t11 t12 t13 t14 t15 t16 t17 q9_1 q9_2 q9_3 q9_4; omega, by clear t0 t1 t2 t4 t5 t6 t8 t9 t10 t12 t13 t14 t15 t16 t17 q9_1 q9_2 q9_3 q9_4; omega, by clear t2 t3 t6 t7 t10 t11 t13 t15 t17 q9_3 q9_4; omega, by clear t0 t1 t4 t5 t8 t9 t12 t14 t16 q9_1 q9_2; omega, by clear t2 t3 t6 t7 t10 t11 t13 t15 t17 q9_1 q9_2 q9_3 q9_4; omega, by clear t0 t1 t4 t5 t8 t9 t12 t14 t16 q9_1 q9_2 q9_3 q9_4; omega, by clear t2 t3 t6 t7 t10 t11 t13 t15 t17 q9_1 q9_2 q9_3 q9_4; omega, by clear t0 t1 t4 t5 t8 t9 t12 t14 t16 q9_1 q9_2 q9_3 q9_4; omega⟩, st9.1⟩
