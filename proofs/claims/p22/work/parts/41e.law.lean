set_option maxHeartbeats 4000000 in
set_option maxRecDepth 100000 in
theorem w_case_27 {G : tw_G} (hX : tw_isX G) (hM : tw_isM G) {E : List Frame → Array Value → State → State → Prop} (hN : (gN G : Int) ≤ 2560) (i : Int) (hi : 0 ≤ i ∧ i + 5 ≤ (gN G : Int)) (τ : tw_M) (hIτ : tw_I τ) (hL : tw_LI τ) (K : ∀ τ' : tw_M, tw_I τ' → tw_LI τ' → tw_J G tw_ML E 1352 [(0, vR 300), (1, vR 0), (2, vR 88), (3, vI i)] [] τ') : tw_J G tw_ML E 1009 [(0, vR 300), (1, vR 0), (2, vR 88), (3, vI i)] [] τ := by
  obtain ⟨mτ, zτ, sτ, bτ, fτ, kτ0, kτ1, tτ, stτ⟩ := hL
  have g9 : (0 : Int) ≤ τ 10 10 ∧ τ 10 10 ≤ 400 := hIτ 10 10
  obtain ⟨v1, ev1⟩ : ∃ v : Int, v = (gxs G (i + 1).toNat).toInt := ⟨_, rfl⟩
  have hv1 : (-2147483648 : Int) ≤ v1 ∧ v1 ≤ 2147483647 := by rw [ev1]; exact i32_in _
  obtain ⟨v2, ev2⟩ : ∃ v : Int, v = (gxs G (i + 2).toNat).toInt := ⟨_, rfl⟩
  have hv2 : (-2147483648 : Int) ≤ v2 ∧ v2 ≤ 2147483647 := by rw [ev2]; exact i32_in _
  obtain ⟨v3, ev3⟩ : ∃ v : Int, v = (gxs G (i + 3).toNat).toInt := ⟨_, rfl⟩
  have hv3 : (-2147483648 : Int) ≤ v3 ∧ v3 ≤ 2147483647 := by rw [ev3]; exact i32_in _
  obtain ⟨v4, ev4⟩ : ∃ v : Int, v = (gxs G (i + 4).toNat).toInt := ⟨_, rfl⟩
  have hv4 : (-2147483648 : Int) ≤ v4 ∧ v4 ≤ 2147483647 := by rw [ev4]; exact i32_in _
  refine j_aload_n (pc := 1009) dL_law_1009 rfl rfl ?_
  refine j_callV (pc := 1010) (As := []) (st := []) (c_X11_learn hX τ hIτ) mv_L_132 rfl rfl rfl (a_0 hX) dL_law_1010 ⟨Nat.le_of_ble_eq_true rfl, Nat.le_of_ble_eq_true rfl⟩ ⟨Nat.le_of_ble_eq_true rfl, Nat.le_of_ble_eq_true rfl⟩ rfl (Nat.le_of_ble_eq_true rfl) rfl (fun z1 σ2 hz1 => ?_)
  obtain ⟨r4, rfl, hr4, hIσ2, hGσ2, q3_0, q3_1, q3_2⟩ := hz1
  replace q3_0 : ((τ 29 0 = 0 ∧ σ2 23 4 = τ 23 4) ∨ (¬ τ 29 0 = 0 ∧ σ2 23 4 = lrn (τ 30 0) (τ 29 0))) := q3_0
  replace q3_1 : ((τ 29 1 = 0 ∧ σ2 23 5 = τ 23 5) ∨ (¬ τ 29 1 = 0 ∧ σ2 23 5 = lrn (τ 30 1) (τ 29 1))) := q3_1
  replace q3_2 : ((σ2 23 4 = τ 23 4 ∧ σ2 23 5 = τ 23 5 ∧ r4 = 0) ∨ (¬ σ2 23 4 = τ 23 4 ∧ σ2 23 5 = τ 23 5 ∧ r4 = 1) ∨ (σ2 23 4 = τ 23 4 ∧ ¬ σ2 23 5 = τ 23 5 ∧ r4 = 1) ∨ (¬ σ2 23 4 = τ 23 4 ∧ ¬ σ2 23 5 = τ 23 5 ∧ r4 = 2)) := q3_2
  refine j_st (st' := [vI r4]) rfl ?_
  have y5 : σ2 10 10 = τ 10 10 := (hGσ2 10 10 (show ¬ ((10 = 23 ∧ (10 = 4 ∨ 10 = 5))) from by omega))
  have f6 : (0 : Int) ≤ τ 10 10 ∧ τ 10 10 ≤ 400 := hIτ 10 10
  have bσ2 : BY σ2 := BY_kept bτ (fun j => hGσ2 11 j (show ¬ ((11 = 23 ∧ (j = 4 ∨ j = 5))) from by omega)) (fun j => hGσ2 98 j (show ¬ ((98 = 23 ∧ (j = 4 ∨ j = 5))) from by omega)) (by omega)
  have mσ2 : mI σ2 := mI_kept mτ (fun j hj => hGσ2 89 j (show ¬ ((89 = 23 ∧ (j = 4 ∨ j = 5))) from by omega)) (fun j => hGσ2 90 j (show ¬ ((90 = 23 ∧ (j = 4 ∨ j = 5))) from by omega)) (hGσ2 91 0 (show ¬ ((91 = 23 ∧ (0 = 4 ∨ 0 = 5))) from by omega)) hIτ
  have sσ2 : SR σ2 := SR_kept sτ (fun c j h => hGσ2 c j (show ¬ ((c = 23 ∧ (j = 4 ∨ j = 5))) from by omega)) (fun j => hGσ2 104 j (show ¬ ((104 = 23 ∧ (j = 4 ∨ j = 5))) from by omega)) (fun j => hGσ2 105 j (show ¬ ((105 = 23 ∧ (j = 4 ∨ j = 5))) from by omega))
  have tσ2 : TT σ2 := TT_kept tτ (fun c j h => hGσ2 c j (show ¬ ((c = 23 ∧ (j = 4 ∨ j = 5))) from by omega)) (fun j h => hGσ2 89 j (show ¬ ((89 = 23 ∧ (j = 4 ∨ j = 5))) from by omega))
  refine j_pop (pc := 1013) dL_law_1013 rfl ?_
  refine j_aload_n (pc := 1014) dL_law_1014 rfl rfl ?_
  refine j_callV (pc := 1015) (As := []) (st := []) (c_X12_learn hM σ2 hIσ2) mv_L_135 rfl rfl rfl (a_88 hM) dL_law_1015 ⟨Nat.le_of_ble_eq_true rfl, Nat.le_of_ble_eq_true rfl⟩ ⟨Nat.le_of_ble_eq_true rfl, Nat.le_of_ble_eq_true rfl⟩ rfl (Nat.le_of_ble_eq_true rfl) rfl (fun z7 σ8 hz7 => ?_)
  obtain ⟨r10, rfl, hr10, hIσ8, hGσ8, q9_0, q9_1, q9_2⟩ := hz7
  replace q9_0 : ((σ2 89 93 = 0 ∧ σ8 91 5 = σ2 91 5) ∨ (¬ σ2 89 93 = 0 ∧ σ8 91 5 = lrn (σ2 89 94) (σ2 89 93))) := q9_0
  have y11 : σ2 89 93 = τ 89 93 := (hGσ2 89 93 (show ¬ ((89 = 23 ∧ (93 = 4 ∨ 93 = 5))) from by omega))
  have f12 : (0 : Int) ≤ τ 89 93 ∧ τ 89 93 ≤ 999 := hIτ 89 93
  have y13 : σ2 91 5 = τ 91 5 := (hGσ2 91 5 (show ¬ ((91 = 23 ∧ (5 = 4 ∨ 5 = 5))) from by omega))
  have f14 : (-2147483648 : Int) ≤ τ 91 5 ∧ τ 91 5 ≤ 2147483647 := hIτ 91 5
  have y15 : σ2 89 94 = τ 89 94 := (hGσ2 89 94 (show ¬ ((89 = 23 ∧ (94 = 4 ∨ 94 = 5))) from by omega))
  have f16 : (-2147483648 : Int) ≤ τ 89 94 ∧ τ 89 94 ≤ 2147483647 := hIτ 89 94
  replace q9_1 : ((σ2 89 95 = 0 ∧ σ8 91 6 = σ2 91 6) ∨ (¬ σ2 89 95 = 0 ∧ σ8 91 6 = lrn (σ2 89 96) (σ2 89 95))) := q9_1
  have y17 : σ2 89 95 = τ 89 95 := (hGσ2 89 95 (show ¬ ((89 = 23 ∧ (95 = 4 ∨ 95 = 5))) from by omega))
  have f18 : (0 : Int) ≤ τ 89 95 ∧ τ 89 95 ≤ 999 := hIτ 89 95
  have y19 : σ2 91 6 = τ 91 6 := (hGσ2 91 6 (show ¬ ((91 = 23 ∧ (6 = 4 ∨ 6 = 5))) from by omega))
  have f20 : (-2147483648 : Int) ≤ τ 91 6 ∧ τ 91 6 ≤ 2147483647 := hIτ 91 6
  have y21 : σ2 89 96 = τ 89 96 := (hGσ2 89 96 (show ¬ ((89 = 23 ∧ (96 = 4 ∨ 96 = 5))) from by omega))
  have f22 : (-2147483648 : Int) ≤ τ 89 96 ∧ τ 89 96 ≤ 2147483647 := hIτ 89 96
  replace q9_2 : ((σ8 91 5 = σ2 91 5 ∧ σ8 91 6 = σ2 91 6 ∧ r10 = 0) ∨ (¬ σ8 91 5 = σ2 91 5 ∧ σ8 91 6 = σ2 91 6 ∧ r10 = 1) ∨ (σ8 91 5 = σ2 91 5 ∧ ¬ σ8 91 6 = σ2 91 6 ∧ r10 = 1) ∨ (¬ σ8 91 5 = σ2 91 5 ∧ ¬ σ8 91 6 = σ2 91 6 ∧ r10 = 2)) := q9_2
  have y23 : σ2 91 5 = τ 91 5 := (hGσ2 91 5 (show ¬ ((91 = 23 ∧ (5 = 4 ∨ 5 = 5))) from by omega))
  have y24 : σ2 91 6 = τ 91 6 := (hGσ2 91 6 (show ¬ ((91 = 23 ∧ (6 = 4 ∨ 6 = 5))) from by omega))
  refine j_st (st' := [vI r10]) rfl ?_
  have y25 : σ8 10 10 = τ 10 10 := ((hGσ8 10 10 (show ¬ ((10 = 91 ∧ (10 = 5 ∨ 10 = 6))) from by omega))).trans (hGσ2 10 10 (show ¬ ((10 = 23 ∧ (10 = 4 ∨ 10 = 5))) from by omega))
  have bσ8 : BY σ8 := BY_kept bσ2 (fun j => hGσ8 11 j (show ¬ ((11 = 91 ∧ (j = 5 ∨ j = 6))) from by omega)) (fun j => hGσ8 98 j (show ¬ ((98 = 91 ∧ (j = 5 ∨ j = 6))) from by omega)) (by omega)
  have mσ8 : mI σ8 := mI_kept mσ2 (fun j hj => hGσ8 89 j (show ¬ ((89 = 91 ∧ (j = 5 ∨ j = 6))) from by omega)) (fun j => hGσ8 90 j (show ¬ ((90 = 91 ∧ (j = 5 ∨ j = 6))) from by omega)) (hGσ8 91 0 (show ¬ ((91 = 91 ∧ (0 = 5 ∨ 0 = 6))) from by omega)) hIσ2
  have sσ8 : SR σ8 := SR_kept sσ2 (fun c j h => hGσ8 c j (show ¬ ((c = 91 ∧ (j = 5 ∨ j = 6))) from by omega)) (fun j => hGσ8 104 j (show ¬ ((104 = 91 ∧ (j = 5 ∨ j = 6))) from by omega)) (fun j => hGσ8 105 j (show ¬ ((105 = 91 ∧ (j = 5 ∨ j = 6))) from by omega))
  have tσ8 : TT σ8 := TT_kept tσ2 (fun c j h => hGσ8 c j (show ¬ ((c = 91 ∧ (j = 5 ∨ j = 6))) from by omega)) (fun j h => hGσ8 89 j (show ¬ ((89 = 91 ∧ (j = 5 ∨ j = 6))) from by omega))
  have ht9 : (1 : Int) ≤ τ 91 0 ∧ τ 91 0 ≤ 40 := hIτ 91 0
  have st9 := ST_learn2 stτ tτ.1 tτ.2.1 tτ.2.2.1 tτ.2.2.2.1 q3_0 q3_1 q3_2 q9_0 q9_1 q9_2 (fun c j h => hGσ2 c j (show ¬ ((c = 23 ∧ (j = 4 ∨ j = 5))) from by omega)) (fun c j h => hGσ8 c j (show ¬ ((c = 91 ∧ (j = 5 ∨ j = 6))) from by omega))
  have rr9 := st9.2
  clear q3_0 q3_1 q3_2 q9_0 q9_1 q9_2
  refine j_pop (pc := 1018) dL_law_1018 rfl ?_
  refine j_goto (pc := 1019) (tgt := 1352) dL_law_1019 rfl ?_
  have y26 : σ8 10 10 = τ 10 10 := ((hGσ8 10 10 (show ¬ ((10 = 91 ∧ (10 = 5 ∨ 10 = 6))) from by omega))).trans (hGσ2 10 10 (show ¬ ((10 = 23 ∧ (10 = 4 ∨ 10 = 5))) from by omega))
  have y27 : σ8 88 12 = τ 88 12 := ((hGσ8 88 12 (show ¬ ((88 = 91 ∧ (12 = 5 ∨ 12 = 6))) from by omega))).trans (hGσ2 88 12 (show ¬ ((88 = 23 ∧ (12 = 4 ∨ 12 = 5))) from by omega))
  have f28 : (0 : Int) ≤ τ 88 12 ∧ τ 88 12 ≤ 400 := hIτ 88 12
  have y29 : σ8 0 13 = τ 0 13 := ((hGσ8 0 13 (show ¬ ((0 = 91 ∧ (13 = 5 ∨ 13 = 6))) from by omega))).trans (hGσ2 0 13 (show ¬ ((0 = 23 ∧ (13 = 4 ∨ 13 = 5))) from by omega))
  have f30 : (-2147483648 : Int) ≤ τ 0 13 ∧ τ 0 13 ≤ 2147483647 := hIτ 0 13
  have y31 : σ8 88 17 = τ 88 17 := ((hGσ8 88 17 (show ¬ ((88 = 91 ∧ (17 = 5 ∨ 17 = 6))) from by omega))).trans (hGσ2 88 17 (show ¬ ((88 = 23 ∧ (17 = 4 ∨ 17 = 5))) from by omega))
  have f32 : (0 : Int) ≤ τ 88 17 ∧ τ 88 17 ≤ 5 := hIτ 88 17
  have y33 : σ8 31 6 = τ 31 6 := ((hGσ8 31 6 (show ¬ ((31 = 91 ∧ (6 = 5 ∨ 6 = 6))) from by omega))).trans (hGσ2 31 6 (show ¬ ((31 = 23 ∧ (6 = 4 ∨ 6 = 5))) from by omega))
  have f34 : (0 : Int) ≤ τ 31 6 ∧ τ 31 6 ≤ 1 := hIτ 31 6
  have y35 : σ8 39 6 = τ 39 6 := ((hGσ8 39 6 (show ¬ ((39 = 91 ∧ (6 = 5 ∨ 6 = 6))) from by omega))).trans (hGσ2 39 6 (show ¬ ((39 = 23 ∧ (6 = 4 ∨ 6 = 5))) from by omega))
  have f36 : (0 : Int) ≤ τ 39 6 ∧ τ 39 6 ≤ 1 := hIτ 39 6
  have y37 : σ8 90 0 = τ 90 0 := ((hGσ8 90 0 (show ¬ ((90 = 91 ∧ (0 = 5 ∨ 0 = 6))) from by omega))).trans (hGσ2 90 0 (show ¬ ((90 = 23 ∧ (0 = 4 ∨ 0 = 5))) from by omega))
  have f38 : (0 : Int) ≤ τ 90 0 ∧ τ 90 0 ≤ 1 := hIτ 90 0
  have y39 : σ8 90 1 = τ 90 1 := ((hGσ8 90 1 (show ¬ ((90 = 91 ∧ (1 = 5 ∨ 1 = 6))) from by omega))).trans (hGσ2 90 1 (show ¬ ((90 = 23 ∧ (1 = 4 ∨ 1 = 5))) from by omega))
  have f40 : (0 : Int) ≤ τ 90 1 ∧ τ 90 1 ≤ 1 := hIτ 90 1
  exact K σ8 hIσ8 ⟨mσ8, by omega, sσ8, bσ8, by omega, by omega, by omega, tσ8, st9.1⟩
set_option maxHeartbeats 4000000 in
set_option maxRecDepth 100000 in
theorem w_case_28 {G : tw_G} (hX : tw_isX G) (hM : tw_isM G) {E : List Frame → Array Value → State → State → Prop} (hN : (gN G : Int) ≤ 2560) (i : Int) (hi : 0 ≤ i ∧ i + 5 ≤ (gN G : Int)) (τ : tw_M) (hIτ : tw_I τ) (hL : tw_LI τ) (K : ∀ τ' : tw_M, tw_I τ' → tw_LI τ' → tw_J G tw_ML E 1352 [(0, vR 300), (1, vR 0), (2, vR 88), (3, vI i)] [] τ') : tw_J G tw_ML E 1022 [(0, vR 300), (1, vR 0), (2, vR 88), (3, vI i)] [] τ := by
  obtain ⟨mτ, zτ, sτ, bτ, fτ, kτ0, kτ1, tτ, stτ⟩ := hL
  have g9 : (0 : Int) ≤ τ 10 10 ∧ τ 10 10 ≤ 400 := hIτ 10 10
  obtain ⟨v1, ev1⟩ : ∃ v : Int, v = (gxs G (i + 1).toNat).toInt := ⟨_, rfl⟩
  have hv1 : (-2147483648 : Int) ≤ v1 ∧ v1 ≤ 2147483647 := by rw [ev1]; exact i32_in _
  obtain ⟨v2, ev2⟩ : ∃ v : Int, v = (gxs G (i + 2).toNat).toInt := ⟨_, rfl⟩
  have hv2 : (-2147483648 : Int) ≤ v2 ∧ v2 ≤ 2147483647 := by rw [ev2]; exact i32_in _
  obtain ⟨v3, ev3⟩ : ∃ v : Int, v = (gxs G (i + 3).toNat).toInt := ⟨_, rfl⟩
  have hv3 : (-2147483648 : Int) ≤ v3 ∧ v3 ≤ 2147483647 := by rw [ev3]; exact i32_in _
  obtain ⟨v4, ev4⟩ : ∃ v : Int, v = (gxs G (i + 4).toNat).toInt := ⟨_, rfl⟩
  have hv4 : (-2147483648 : Int) ≤ v4 ∧ v4 ≤ 2147483647 := by rw [ev4]; exact i32_in _
  refine j_aload_n (pc := 1022) dL_law_1022 rfl rfl ?_
  refine j_aload_n (pc := 1023) dL_law_1023 rfl rfl ?_
  refine j_iload_n (pc := 1024) dL_law_1024 rfl rfl ?_
  refine j_iconst (pc := 1025) dL_law_1025 ?_
  refine j_iadd (pc := 1026) dL_law_1026 ?_
  refine j_scrAt (pc := 1027) dL_law_1027 (by omega) (by omega) (by omega) ?_
  refine j_topV (show _ = v1 from ev1.symm) ?_
  refine j_aload_n (pc := 1028) dL_law_1028 rfl rfl ?_
  refine j_iload_n (pc := 1029) dL_law_1029 rfl rfl ?_
  refine j_iconst (pc := 1030) dL_law_1030 ?_
  refine j_iadd (pc := 1031) dL_law_1031 ?_
  refine j_scrAt (pc := 1032) dL_law_1032 (by omega) (by omega) (by omega) ?_
  refine j_topV (show _ = v2 from ev2.symm) ?_
  refine j_callV (pc := 1033) (As := [vI v1, vI v2]) (st := []) (c_X11_story hX v1 ⟨by omega, by omega⟩ v2 ⟨by omega, by omega⟩ τ hIτ) mv_L_136 rfl rfl rfl (a_0 hX) dL_law_1033 ⟨Nat.le_of_ble_eq_true rfl, Nat.le_of_ble_eq_true rfl⟩ ⟨Nat.le_of_ble_eq_true rfl, Nat.le_of_ble_eq_true rfl⟩ rfl (Nat.le_of_ble_eq_true rfl) rfl (fun z1 σ2 hz1 => ?_)
  obtain ⟨r4, rfl, hr4, hIσ2, hGσ2, -⟩ := hz1
  refine j_st (st' := [vL r4]) rfl ?_
  have y5 : σ2 10 10 = τ 10 10 := (hGσ2 10 10 (show ¬ (10 = 55) from by omega))
  have f6 : (0 : Int) ≤ τ 10 10 ∧ τ 10 10 ≤ 400 := hIτ 10 10
  have bσ2 : BY σ2 := BY_kept bτ (fun j => hGσ2 11 j (show ¬ (11 = 55) from by omega)) (fun j => hGσ2 98 j (show ¬ (98 = 55) from by omega)) (by omega)
  have mσ2 : mI σ2 := mI_kept mτ (fun j hj => hGσ2 89 j (show ¬ (89 = 55) from by omega)) (fun j => hGσ2 90 j (show ¬ (90 = 55) from by omega)) (hGσ2 91 0 (show ¬ (91 = 55) from by omega)) hIτ
  have sσ2 : SR σ2 := SR_kept sτ (fun c j h => hGσ2 c j (show ¬ (c = 55) from by omega)) (fun j => hGσ2 104 j (show ¬ (104 = 55) from by omega)) (fun j => hGσ2 105 j (show ¬ (105 = 55) from by omega))
  have tσ2 : TT σ2 := TT_kept tτ (fun c j h => hGσ2 c j (show ¬ (c = 55) from by omega)) (fun j h => hGσ2 89 j (show ¬ (89 = 55) from by omega))
  have stσ2 : ST σ2 := ST_F stτ (fun c j h => hGσ2 c j (show ¬ (c = 55) from by unfold STR at h; omega))
  refine j_pop2 (pc := 1036) dL_law_1036 rfl ?_
  refine j_aload_n (pc := 1037) dL_law_1037 rfl rfl ?_
  refine j_aload_n (pc := 1038) dL_law_1038 rfl rfl ?_
  refine j_iload_n (pc := 1039) dL_law_1039 rfl rfl ?_
  refine j_iconst (pc := 1040) dL_law_1040 ?_
  refine j_iadd (pc := 1041) dL_law_1041 ?_
  refine j_scrAt (pc := 1042) dL_law_1042 (by omega) (by omega) (by omega) ?_
  refine j_topV (show _ = v1 from ev1.symm) ?_
  refine j_aload_n (pc := 1043) dL_law_1043 rfl rfl ?_
  refine j_iload_n (pc := 1044) dL_law_1044 rfl rfl ?_
  refine j_iconst (pc := 1045) dL_law_1045 ?_
  refine j_iadd (pc := 1046) dL_law_1046 ?_
  refine j_scrAt (pc := 1047) dL_law_1047 (by omega) (by omega) (by omega) ?_
  refine j_topV (show _ = v2 from ev2.symm) ?_
  have y7 : σ2 0 ((σ2 91 0).toNat) = τ 0 ((σ2 91 0).toNat) := (hGσ2 0 ((σ2 91 0).toNat) (show ¬ (0 = 55) from by omega))
  refine j_callV (pc := 1048) (As := [vI v1, vI v2]) (st := []) (c_X12_story hM v1 ⟨by omega, by omega⟩ v2 ⟨by omega, by omega⟩ σ2 hIσ2 mσ2.1) mv_L_139 rfl rfl rfl (a_88 hM) dL_law_1048 ⟨Nat.le_of_ble_eq_true rfl, Nat.le_of_ble_eq_true rfl⟩ ⟨Nat.le_of_ble_eq_true rfl, Nat.le_of_ble_eq_true rfl⟩ rfl (Nat.le_of_ble_eq_true rfl) rfl (fun z8 σ9 hz8 => ?_)
  obtain ⟨r11, rfl, hr11, hIσ9, hGσ9, -⟩ := hz8
  refine j_st (st' := [vL r11]) rfl ?_
  have y12 : σ9 10 10 = τ 10 10 := ((hGσ9 10 10 (show ¬ ((10 = 88 ∧ (10 = 19 ∨ 10 = 20 ∨ 10 = 21 ∨ 10 = 22 ∨ 10 = 23))) from by omega))).trans (hGσ2 10 10 (show ¬ (10 = 55) from by omega))
  have bσ9 : BY σ9 := BY_kept bσ2 (fun j => hGσ9 11 j (show ¬ ((11 = 88 ∧ (j = 19 ∨ j = 20 ∨ j = 21 ∨ j = 22 ∨ j = 23))) from by omega)) (fun j => hGσ9 98 j (show ¬ ((98 = 88 ∧ (j = 19 ∨ j = 20 ∨ j = 21 ∨ j = 22 ∨ j = 23))) from by omega)) (by omega)
  have mσ9 : mI σ9 := mI_kept mσ2 (fun j hj => hGσ9 89 j (show ¬ ((89 = 88 ∧ (j = 19 ∨ j = 20 ∨ j = 21 ∨ j = 22 ∨ j = 23))) from by omega)) (fun j => hGσ9 90 j (show ¬ ((90 = 88 ∧ (j = 19 ∨ j = 20 ∨ j = 21 ∨ j = 22 ∨ j = 23))) from by omega)) (hGσ9 91 0 (show ¬ ((91 = 88 ∧ (0 = 19 ∨ 0 = 20 ∨ 0 = 21 ∨ 0 = 22 ∨ 0 = 23))) from by omega)) hIσ2
  have sσ9 : SR σ9 := SR_kept sσ2 (fun c j h => hGσ9 c j (show ¬ ((c = 88 ∧ (j = 19 ∨ j = 20 ∨ j = 21 ∨ j = 22 ∨ j = 23))) from by omega)) (fun j => hGσ9 104 j (show ¬ ((104 = 88 ∧ (j = 19 ∨ j = 20 ∨ j = 21 ∨ j = 22 ∨ j = 23))) from by omega)) (fun j => hGσ9 105 j (show ¬ ((105 = 88 ∧ (j = 19 ∨ j = 20 ∨ j = 21 ∨ j = 22 ∨ j = 23))) from by omega))
  have tσ9 : TT σ9 := TT_kept tσ2 (fun c j h => hGσ9 c j (show ¬ ((c = 88 ∧ (j = 19 ∨ j = 20 ∨ j = 21 ∨ j = 22 ∨ j = 23))) from by omega)) (fun j h => hGσ9 89 j (show ¬ ((89 = 88 ∧ (j = 19 ∨ j = 20 ∨ j = 21 ∨ j = 22 ∨ j = 23))) from by omega))
  have stσ9 : ST σ9 := ST_F stσ2 (fun c j h => hGσ9 c j (show ¬ ((c = 88 ∧ (j = 19 ∨ j = 20 ∨ j = 21 ∨ j = 22 ∨ j = 23))) from by unfold STR at h; omega))
  refine j_pop2 (pc := 1051) dL_law_1051 rfl ?_
  refine j_goto (pc := 1052) (tgt := 1352) dL_law_1052 rfl ?_
  have y13 : σ9 10 10 = τ 10 10 := ((hGσ9 10 10 (show ¬ ((10 = 88 ∧ (10 = 19 ∨ 10 = 20 ∨ 10 = 21 ∨ 10 = 22 ∨ 10 = 23))) from by omega))).trans (hGσ2 10 10 (show ¬ (10 = 55) from by omega))
  have y14 : σ9 88 12 = τ 88 12 := ((hGσ9 88 12 (show ¬ ((88 = 88 ∧ (12 = 19 ∨ 12 = 20 ∨ 12 = 21 ∨ 12 = 22 ∨ 12 = 23))) from by omega))).trans (hGσ2 88 12 (show ¬ (88 = 55) from by omega))
  have f15 : (0 : Int) ≤ τ 88 12 ∧ τ 88 12 ≤ 400 := hIτ 88 12
  have y16 : σ9 0 13 = τ 0 13 := ((hGσ9 0 13 (show ¬ ((0 = 88 ∧ (13 = 19 ∨ 13 = 20 ∨ 13 = 21 ∨ 13 = 22 ∨ 13 = 23))) from by omega))).trans (hGσ2 0 13 (show ¬ (0 = 55) from by omega))
  have f17 : (-2147483648 : Int) ≤ τ 0 13 ∧ τ 0 13 ≤ 2147483647 := hIτ 0 13
  have y18 : σ9 88 17 = τ 88 17 := ((hGσ9 88 17 (show ¬ ((88 = 88 ∧ (17 = 19 ∨ 17 = 20 ∨ 17 = 21 ∨ 17 = 22 ∨ 17 = 23))) from by omega))).trans (hGσ2 88 17 (show ¬ (88 = 55) from by omega))
  have f19 : (0 : Int) ≤ τ 88 17 ∧ τ 88 17 ≤ 5 := hIτ 88 17
  have y20 : σ9 31 6 = τ 31 6 := ((hGσ9 31 6 (show ¬ ((31 = 88 ∧ (6 = 19 ∨ 6 = 20 ∨ 6 = 21 ∨ 6 = 22 ∨ 6 = 23))) from by omega))).trans (hGσ2 31 6 (show ¬ (31 = 55) from by omega))
  have f21 : (0 : Int) ≤ τ 31 6 ∧ τ 31 6 ≤ 1 := hIτ 31 6
  have y22 : σ9 39 6 = τ 39 6 := ((hGσ9 39 6 (show ¬ ((39 = 88 ∧ (6 = 19 ∨ 6 = 20 ∨ 6 = 21 ∨ 6 = 22 ∨ 6 = 23))) from by omega))).trans (hGσ2 39 6 (show ¬ (39 = 55) from by omega))
  have f23 : (0 : Int) ≤ τ 39 6 ∧ τ 39 6 ≤ 1 := hIτ 39 6
  have y24 : σ9 90 0 = τ 90 0 := ((hGσ9 90 0 (show ¬ ((90 = 88 ∧ (0 = 19 ∨ 0 = 20 ∨ 0 = 21 ∨ 0 = 22 ∨ 0 = 23))) from by omega))).trans (hGσ2 90 0 (show ¬ (90 = 55) from by omega))
  have f25 : (0 : Int) ≤ τ 90 0 ∧ τ 90 0 ≤ 1 := hIτ 90 0
  have y26 : σ9 90 1 = τ 90 1 := ((hGσ9 90 1 (show ¬ ((90 = 88 ∧ (1 = 19 ∨ 1 = 20 ∨ 1 = 21 ∨ 1 = 22 ∨ 1 = 23))) from by omega))).trans (hGσ2 90 1 (show ¬ (90 = 55) from by omega))
  have f27 : (0 : Int) ≤ τ 90 1 ∧ τ 90 1 ≤ 1 := hIτ 90 1
  exact K σ9 hIσ9 ⟨mσ9, by omega, sσ9, bσ9, by omega, by omega, by omega, tσ9, stσ9⟩
set_option maxHeartbeats 4000000 in
set_option maxRecDepth 100000 in
theorem w_case_29 {G : tw_G} (hX : tw_isX G) (hM : tw_isM G) {E : List Frame → Array Value → State → State → Prop} (hN : (gN G : Int) ≤ 2560) (i : Int) (hi : 0 ≤ i ∧ i + 5 ≤ (gN G : Int)) (τ : tw_M) (hIτ : tw_I τ) (hL : tw_LI τ) (K : ∀ τ' : tw_M, tw_I τ' → tw_LI τ' → tw_J G tw_ML E 1352 [(0, vR 300), (1, vR 0), (2, vR 88), (3, vI i)] [] τ') : tw_J G tw_ML E 1055 [(0, vR 300), (1, vR 0), (2, vR 88), (3, vI i)] [] τ := by
  obtain ⟨mτ, zτ, sτ, bτ, fτ, kτ0, kτ1, tτ, stτ⟩ := hL
  have g9 : (0 : Int) ≤ τ 10 10 ∧ τ 10 10 ≤ 400 := hIτ 10 10
  obtain ⟨v1, ev1⟩ : ∃ v : Int, v = (gxs G (i + 1).toNat).toInt := ⟨_, rfl⟩
  have hv1 : (-2147483648 : Int) ≤ v1 ∧ v1 ≤ 2147483647 := by rw [ev1]; exact i32_in _
  obtain ⟨v2, ev2⟩ : ∃ v : Int, v = (gxs G (i + 2).toNat).toInt := ⟨_, rfl⟩
  have hv2 : (-2147483648 : Int) ≤ v2 ∧ v2 ≤ 2147483647 := by rw [ev2]; exact i32_in _
  obtain ⟨v3, ev3⟩ : ∃ v : Int, v = (gxs G (i + 3).toNat).toInt := ⟨_, rfl⟩
  have hv3 : (-2147483648 : Int) ≤ v3 ∧ v3 ≤ 2147483647 := by rw [ev3]; exact i32_in _
  obtain ⟨v4, ev4⟩ : ∃ v : Int, v = (gxs G (i + 4).toNat).toInt := ⟨_, rfl⟩
  have hv4 : (-2147483648 : Int) ≤ v4 ∧ v4 ≤ 2147483647 := by rw [ev4]; exact i32_in _
  refine j_aload_n (pc := 1055) dL_law_1055 rfl rfl ?_
  refine j_aload_n (pc := 1056) dL_law_1056 rfl rfl ?_
  refine j_iload_n (pc := 1057) dL_law_1057 rfl rfl ?_
  refine j_iconst (pc := 1058) dL_law_1058 ?_
  refine j_iadd (pc := 1059) dL_law_1059 ?_
  refine j_scrAt (pc := 1060) dL_law_1060 (by omega) (by omega) (by omega) ?_
  refine j_topV (show _ = v1 from ev1.symm) ?_
  refine j_aload_n (pc := 1061) dL_law_1061 rfl rfl ?_
  refine j_iload_n (pc := 1062) dL_law_1062 rfl rfl ?_
  refine j_iconst (pc := 1063) dL_law_1063 ?_
  refine j_iadd (pc := 1064) dL_law_1064 ?_
  refine j_scrAt (pc := 1065) dL_law_1065 (by omega) (by omega) (by omega) ?_
  refine j_topV (show _ = v2 from ev2.symm) ?_
  refine j_aload_n (pc := 1066) dL_law_1066 rfl rfl ?_
  refine j_iload_n (pc := 1067) dL_law_1067 rfl rfl ?_
  refine j_iconst (pc := 1068) dL_law_1068 ?_
  refine j_iadd (pc := 1069) dL_law_1069 ?_
  refine j_scrAt (pc := 1070) dL_law_1070 (by omega) (by omega) (by omega) ?_
  refine j_topV (show _ = v3 from ev3.symm) ?_
  refine j_aload_n (pc := 1071) dL_law_1071 rfl rfl ?_
  refine j_iload_n (pc := 1072) dL_law_1072 rfl rfl ?_
  refine j_iconst (pc := 1073) dL_law_1073 ?_
  refine j_iadd (pc := 1074) dL_law_1074 ?_
  refine j_scrAt (pc := 1075) dL_law_1075 (by omega) (by omega) (by omega) ?_
  refine j_topV (show _ = v4 from ev4.symm) ?_
  refine j_callV (pc := 1076) (As := [vI v1, vI v2, vI v3, vI v4]) (st := []) (c_X11_odds hX v1 ⟨by omega, by omega⟩ v2 ⟨by omega, by omega⟩ v3 ⟨by omega, by omega⟩ v4 ⟨by omega, by omega⟩ τ hIτ) mv_L_140 rfl rfl rfl (a_0 hX) dL_law_1076 ⟨Nat.le_of_ble_eq_true rfl, Nat.le_of_ble_eq_true rfl⟩ ⟨Nat.le_of_ble_eq_true rfl, Nat.le_of_ble_eq_true rfl⟩ rfl (Nat.le_of_ble_eq_true rfl) rfl (fun z1 σ2 hz1 => ?_)
  obtain ⟨r4, rfl, hr4, hIσ2, hGσ2, -⟩ := hz1
  refine j_st (st' := [vL r4]) rfl ?_
  have y5 : σ2 10 10 = τ 10 10 := (hGσ2 10 10 (show ¬ ((10 = 58 ∧ (10 = 2 ∨ 10 = 3)) ∨ 10 = 59) from by omega))
  have f6 : (0 : Int) ≤ τ 10 10 ∧ τ 10 10 ≤ 400 := hIτ 10 10
  have bσ2 : BY σ2 := BY_kept bτ (fun j => hGσ2 11 j (show ¬ ((11 = 58 ∧ (j = 2 ∨ j = 3)) ∨ 11 = 59) from by omega)) (fun j => hGσ2 98 j (show ¬ ((98 = 58 ∧ (j = 2 ∨ j = 3)) ∨ 98 = 59) from by omega)) (by omega)
  have mσ2 : mI σ2 := mI_kept mτ (fun j hj => hGσ2 89 j (show ¬ ((89 = 58 ∧ (j = 2 ∨ j = 3)) ∨ 89 = 59) from by omega)) (fun j => hGσ2 90 j (show ¬ ((90 = 58 ∧ (j = 2 ∨ j = 3)) ∨ 90 = 59) from by omega)) (hGσ2 91 0 (show ¬ ((91 = 58 ∧ (0 = 2 ∨ 0 = 3)) ∨ 91 = 59) from by omega)) hIτ
  have sσ2 : SR σ2 := SR_kept sτ (fun c j h => hGσ2 c j (show ¬ ((c = 58 ∧ (j = 2 ∨ j = 3)) ∨ c = 59) from by omega)) (fun j => hGσ2 104 j (show ¬ ((104 = 58 ∧ (j = 2 ∨ j = 3)) ∨ 104 = 59) from by omega)) (fun j => hGσ2 105 j (show ¬ ((105 = 58 ∧ (j = 2 ∨ j = 3)) ∨ 105 = 59) from by omega))
  have tσ2 : TT σ2 := TT_kept tτ (fun c j h => hGσ2 c j (show ¬ ((c = 58 ∧ (j = 2 ∨ j = 3)) ∨ c = 59) from by omega)) (fun j h => hGσ2 89 j (show ¬ ((89 = 58 ∧ (j = 2 ∨ j = 3)) ∨ 89 = 59) from by omega))
  have stσ2 : ST σ2 := ST_F stτ (fun c j h => hGσ2 c j (show ¬ ((c = 58 ∧ (j = 2 ∨ j = 3)) ∨ c = 59) from by unfold STR at h; omega))
  refine j_pop2 (pc := 1079) dL_law_1079 rfl ?_
  refine j_aload_n (pc := 1080) dL_law_1080 rfl rfl ?_
  refine j_aload_n (pc := 1081) dL_law_1081 rfl rfl ?_
  refine j_iload_n (pc := 1082) dL_law_1082 rfl rfl ?_
  refine j_iconst (pc := 1083) dL_law_1083 ?_
  refine j_iadd (pc := 1084) dL_law_1084 ?_
  refine j_scrAt (pc := 1085) dL_law_1085 (by omega) (by omega) (by omega) ?_
  refine j_topV (show _ = v1 from ev1.symm) ?_
  refine j_aload_n (pc := 1086) dL_law_1086 rfl rfl ?_
  refine j_iload_n (pc := 1087) dL_law_1087 rfl rfl ?_
  refine j_iconst (pc := 1088) dL_law_1088 ?_
  refine j_iadd (pc := 1089) dL_law_1089 ?_
  refine j_scrAt (pc := 1090) dL_law_1090 (by omega) (by omega) (by omega) ?_
  refine j_topV (show _ = v2 from ev2.symm) ?_
  refine j_aload_n (pc := 1091) dL_law_1091 rfl rfl ?_
  refine j_iload_n (pc := 1092) dL_law_1092 rfl rfl ?_
  refine j_iconst (pc := 1093) dL_law_1093 ?_
  refine j_iadd (pc := 1094) dL_law_1094 ?_
  refine j_scrAt (pc := 1095) dL_law_1095 (by omega) (by omega) (by omega) ?_
  refine j_topV (show _ = v3 from ev3.symm) ?_
  refine j_aload_n (pc := 1096) dL_law_1096 rfl rfl ?_
  refine j_iload_n (pc := 1097) dL_law_1097 rfl rfl ?_
  refine j_iconst (pc := 1098) dL_law_1098 ?_
  refine j_iadd (pc := 1099) dL_law_1099 ?_
  refine j_scrAt (pc := 1100) dL_law_1100 (by omega) (by omega) (by omega) ?_
  refine j_topV (show _ = v4 from ev4.symm) ?_
  have y7 : σ2 0 ((σ2 91 0).toNat) = τ 0 ((σ2 91 0).toNat) := (hGσ2 0 ((σ2 91 0).toNat) (show ¬ ((0 = 58 ∧ ((σ2 91 0).toNat = 2 ∨ (σ2 91 0).toNat = 3)) ∨ 0 = 59) from by omega))
  refine j_callV (pc := 1101) (As := [vI v1, vI v2, vI v3, vI v4]) (st := []) (c_X12_odds hM v1 ⟨by omega, by omega⟩ v2 ⟨by omega, by omega⟩ v3 ⟨by omega, by omega⟩ v4 ⟨by omega, by omega⟩ σ2 hIσ2 mσ2.1) mv_L_144 rfl rfl rfl (a_88 hM) dL_law_1101 ⟨Nat.le_of_ble_eq_true rfl, Nat.le_of_ble_eq_true rfl⟩ ⟨Nat.le_of_ble_eq_true rfl, Nat.le_of_ble_eq_true rfl⟩ rfl (Nat.le_of_ble_eq_true rfl) rfl (fun z8 σ9 hz8 => ?_)
  obtain ⟨r11, rfl, hr11, hIσ9, hGσ9, -⟩ := hz8
  refine j_st (st' := [vL r11]) rfl ?_
  have y12 : σ9 10 10 = τ 10 10 := ((hGσ9 10 10 (show ¬ ((10 = 88 ∧ (10 = 19 ∨ 10 = 20 ∨ 10 = 21 ∨ 10 = 22 ∨ 10 = 23))) from by omega))).trans (hGσ2 10 10 (show ¬ ((10 = 58 ∧ (10 = 2 ∨ 10 = 3)) ∨ 10 = 59) from by omega))
  have bσ9 : BY σ9 := BY_kept bσ2 (fun j => hGσ9 11 j (show ¬ ((11 = 88 ∧ (j = 19 ∨ j = 20 ∨ j = 21 ∨ j = 22 ∨ j = 23))) from by omega)) (fun j => hGσ9 98 j (show ¬ ((98 = 88 ∧ (j = 19 ∨ j = 20 ∨ j = 21 ∨ j = 22 ∨ j = 23))) from by omega)) (by omega)
  have mσ9 : mI σ9 := mI_kept mσ2 (fun j hj => hGσ9 89 j (show ¬ ((89 = 88 ∧ (j = 19 ∨ j = 20 ∨ j = 21 ∨ j = 22 ∨ j = 23))) from by omega)) (fun j => hGσ9 90 j (show ¬ ((90 = 88 ∧ (j = 19 ∨ j = 20 ∨ j = 21 ∨ j = 22 ∨ j = 23))) from by omega)) (hGσ9 91 0 (show ¬ ((91 = 88 ∧ (0 = 19 ∨ 0 = 20 ∨ 0 = 21 ∨ 0 = 22 ∨ 0 = 23))) from by omega)) hIσ2
  have sσ9 : SR σ9 := SR_kept sσ2 (fun c j h => hGσ9 c j (show ¬ ((c = 88 ∧ (j = 19 ∨ j = 20 ∨ j = 21 ∨ j = 22 ∨ j = 23))) from by omega)) (fun j => hGσ9 104 j (show ¬ ((104 = 88 ∧ (j = 19 ∨ j = 20 ∨ j = 21 ∨ j = 22 ∨ j = 23))) from by omega)) (fun j => hGσ9 105 j (show ¬ ((105 = 88 ∧ (j = 19 ∨ j = 20 ∨ j = 21 ∨ j = 22 ∨ j = 23))) from by omega))
  have tσ9 : TT σ9 := TT_kept tσ2 (fun c j h => hGσ9 c j (show ¬ ((c = 88 ∧ (j = 19 ∨ j = 20 ∨ j = 21 ∨ j = 22 ∨ j = 23))) from by omega)) (fun j h => hGσ9 89 j (show ¬ ((89 = 88 ∧ (j = 19 ∨ j = 20 ∨ j = 21 ∨ j = 22 ∨ j = 23))) from by omega))
  have stσ9 : ST σ9 := ST_F stσ2 (fun c j h => hGσ9 c j (show ¬ ((c = 88 ∧ (j = 19 ∨ j = 20 ∨ j = 21 ∨ j = 22 ∨ j = 23))) from by unfold STR at h; omega))
  refine j_pop2 (pc := 1104) dL_law_1104 rfl ?_
  refine j_goto (pc := 1105) (tgt := 1352) dL_law_1105 rfl ?_
  have y13 : σ9 10 10 = τ 10 10 := ((hGσ9 10 10 (show ¬ ((10 = 88 ∧ (10 = 19 ∨ 10 = 20 ∨ 10 = 21 ∨ 10 = 22 ∨ 10 = 23))) from by omega))).trans (hGσ2 10 10 (show ¬ ((10 = 58 ∧ (10 = 2 ∨ 10 = 3)) ∨ 10 = 59) from by omega))
  have y14 : σ9 88 12 = τ 88 12 := ((hGσ9 88 12 (show ¬ ((88 = 88 ∧ (12 = 19 ∨ 12 = 20 ∨ 12 = 21 ∨ 12 = 22 ∨ 12 = 23))) from by omega))).trans (hGσ2 88 12 (show ¬ ((88 = 58 ∧ (12 = 2 ∨ 12 = 3)) ∨ 88 = 59) from by omega))
  have f15 : (0 : Int) ≤ τ 88 12 ∧ τ 88 12 ≤ 400 := hIτ 88 12
  have y16 : σ9 0 13 = τ 0 13 := ((hGσ9 0 13 (show ¬ ((0 = 88 ∧ (13 = 19 ∨ 13 = 20 ∨ 13 = 21 ∨ 13 = 22 ∨ 13 = 23))) from by omega))).trans (hGσ2 0 13 (show ¬ ((0 = 58 ∧ (13 = 2 ∨ 13 = 3)) ∨ 0 = 59) from by omega))
  have f17 : (-2147483648 : Int) ≤ τ 0 13 ∧ τ 0 13 ≤ 2147483647 := hIτ 0 13
  have y18 : σ9 88 17 = τ 88 17 := ((hGσ9 88 17 (show ¬ ((88 = 88 ∧ (17 = 19 ∨ 17 = 20 ∨ 17 = 21 ∨ 17 = 22 ∨ 17 = 23))) from by omega))).trans (hGσ2 88 17 (show ¬ ((88 = 58 ∧ (17 = 2 ∨ 17 = 3)) ∨ 88 = 59) from by omega))
  have f19 : (0 : Int) ≤ τ 88 17 ∧ τ 88 17 ≤ 5 := hIτ 88 17
  have y20 : σ9 31 6 = τ 31 6 := ((hGσ9 31 6 (show ¬ ((31 = 88 ∧ (6 = 19 ∨ 6 = 20 ∨ 6 = 21 ∨ 6 = 22 ∨ 6 = 23))) from by omega))).trans (hGσ2 31 6 (show ¬ ((31 = 58 ∧ (6 = 2 ∨ 6 = 3)) ∨ 31 = 59) from by omega))
  have f21 : (0 : Int) ≤ τ 31 6 ∧ τ 31 6 ≤ 1 := hIτ 31 6
  have y22 : σ9 39 6 = τ 39 6 := ((hGσ9 39 6 (show ¬ ((39 = 88 ∧ (6 = 19 ∨ 6 = 20 ∨ 6 = 21 ∨ 6 = 22 ∨ 6 = 23))) from by omega))).trans (hGσ2 39 6 (show ¬ ((39 = 58 ∧ (6 = 2 ∨ 6 = 3)) ∨ 39 = 59) from by omega))
  have f23 : (0 : Int) ≤ τ 39 6 ∧ τ 39 6 ≤ 1 := hIτ 39 6
  have y24 : σ9 90 0 = τ 90 0 := ((hGσ9 90 0 (show ¬ ((90 = 88 ∧ (0 = 19 ∨ 0 = 20 ∨ 0 = 21 ∨ 0 = 22 ∨ 0 = 23))) from by omega))).trans (hGσ2 90 0 (show ¬ ((90 = 58 ∧ (0 = 2 ∨ 0 = 3)) ∨ 90 = 59) from by omega))
  have f25 : (0 : Int) ≤ τ 90 0 ∧ τ 90 0 ≤ 1 := hIτ 90 0
  have y26 : σ9 90 1 = τ 90 1 := ((hGσ9 90 1 (show ¬ ((90 = 88 ∧ (1 = 19 ∨ 1 = 20 ∨ 1 = 21 ∨ 1 = 22 ∨ 1 = 23))) from by omega))).trans (hGσ2 90 1 (show ¬ ((90 = 58 ∧ (1 = 2 ∨ 1 = 3)) ∨ 90 = 59) from by omega))
  have f27 : (0 : Int) ≤ τ 90 1 ∧ τ 90 1 ≤ 1 := hIτ 90 1
  exact K σ9 hIσ9 ⟨mσ9, by omega, sσ9, bσ9, by omega, by omega, by omega, tσ9, stσ9⟩
set_option maxHeartbeats 4000000 in
set_option maxRecDepth 100000 in
theorem w_case_30 {G : tw_G} (hX : tw_isX G) (hM : tw_isM G) {E : List Frame → Array Value → State → State → Prop} (hN : (gN G : Int) ≤ 2560) (i : Int) (hi : 0 ≤ i ∧ i + 5 ≤ (gN G : Int)) (τ : tw_M) (hIτ : tw_I τ) (hL : tw_LI τ) (K : ∀ τ' : tw_M, tw_I τ' → tw_LI τ' → tw_J G tw_ML E 1352 [(0, vR 300), (1, vR 0), (2, vR 88), (3, vI i)] [] τ') : tw_J G tw_ML E 1108 [(0, vR 300), (1, vR 0), (2, vR 88), (3, vI i)] [] τ := by
  obtain ⟨mτ, zτ, sτ, bτ, fτ, kτ0, kτ1, tτ, stτ⟩ := hL
  have g9 : (0 : Int) ≤ τ 10 10 ∧ τ 10 10 ≤ 400 := hIτ 10 10
  obtain ⟨v1, ev1⟩ : ∃ v : Int, v = (gxs G (i + 1).toNat).toInt := ⟨_, rfl⟩
  have hv1 : (-2147483648 : Int) ≤ v1 ∧ v1 ≤ 2147483647 := by rw [ev1]; exact i32_in _
  obtain ⟨v2, ev2⟩ : ∃ v : Int, v = (gxs G (i + 2).toNat).toInt := ⟨_, rfl⟩
  have hv2 : (-2147483648 : Int) ≤ v2 ∧ v2 ≤ 2147483647 := by rw [ev2]; exact i32_in _
  obtain ⟨v3, ev3⟩ : ∃ v : Int, v = (gxs G (i + 3).toNat).toInt := ⟨_, rfl⟩
  have hv3 : (-2147483648 : Int) ≤ v3 ∧ v3 ≤ 2147483647 := by rw [ev3]; exact i32_in _
  obtain ⟨v4, ev4⟩ : ∃ v : Int, v = (gxs G (i + 4).toNat).toInt := ⟨_, rfl⟩
  have hv4 : (-2147483648 : Int) ≤ v4 ∧ v4 ≤ 2147483647 := by rw [ev4]; exact i32_in _
  refine j_aload_n (pc := 1108) dL_law_1108 rfl rfl ?_
  refine j_aload_n (pc := 1109) dL_law_1109 rfl rfl ?_
  refine j_iload_n (pc := 1110) dL_law_1110 rfl rfl ?_
  refine j_iconst (pc := 1111) dL_law_1111 ?_
  refine j_iadd (pc := 1112) dL_law_1112 ?_
  refine j_scrAt (pc := 1113) dL_law_1113 (by omega) (by omega) (by omega) ?_
  refine j_topV (show _ = v1 from ev1.symm) ?_
  refine j_callV (pc := 1114) (As := [vI v1]) (st := []) (c_X11_bolts hX v1 ⟨by omega, by omega⟩ τ hIτ) mv_L_145 rfl rfl rfl (a_0 hX) dL_law_1114 ⟨Nat.le_of_ble_eq_true rfl, Nat.le_of_ble_eq_true rfl⟩ ⟨Nat.le_of_ble_eq_true rfl, Nat.le_of_ble_eq_true rfl⟩ rfl (Nat.le_of_ble_eq_true rfl) rfl (fun z1 σ2 hz1 => ?_)
  obtain ⟨r4, rfl, hr4, hIσ2, hGσ2, -⟩ := hz1
  refine j_st (st' := [vI r4]) rfl ?_
  have y5 : σ2 10 10 = τ 10 10 := (hGσ2 10 10 (show ¬ ((10 = 76 ∧ (10 = 1 ∨ 10 = 4 ∨ 10 = 5)) ∨ (77 ≤ 10 ∧ 10 < 79)) from by omega))
  have f6 : (0 : Int) ≤ τ 10 10 ∧ τ 10 10 ≤ 400 := hIτ 10 10
  have bσ2 : BY σ2 := BY_kept bτ (fun j => hGσ2 11 j (show ¬ ((11 = 76 ∧ (j = 1 ∨ j = 4 ∨ j = 5)) ∨ (77 ≤ 11 ∧ 11 < 79)) from by omega)) (fun j => hGσ2 98 j (show ¬ ((98 = 76 ∧ (j = 1 ∨ j = 4 ∨ j = 5)) ∨ (77 ≤ 98 ∧ 98 < 79)) from by omega)) (by omega)
  have mσ2 : mI σ2 := mI_kept mτ (fun j hj => hGσ2 89 j (show ¬ ((89 = 76 ∧ (j = 1 ∨ j = 4 ∨ j = 5)) ∨ (77 ≤ 89 ∧ 89 < 79)) from by omega)) (fun j => hGσ2 90 j (show ¬ ((90 = 76 ∧ (j = 1 ∨ j = 4 ∨ j = 5)) ∨ (77 ≤ 90 ∧ 90 < 79)) from by omega)) (hGσ2 91 0 (show ¬ ((91 = 76 ∧ (0 = 1 ∨ 0 = 4 ∨ 0 = 5)) ∨ (77 ≤ 91 ∧ 91 < 79)) from by omega)) hIτ
  have sσ2 : SR σ2 := SR_kept sτ (fun c j h => hGσ2 c j (show ¬ ((c = 76 ∧ (j = 1 ∨ j = 4 ∨ j = 5)) ∨ (77 ≤ c ∧ c < 79)) from by omega)) (fun j => hGσ2 104 j (show ¬ ((104 = 76 ∧ (j = 1 ∨ j = 4 ∨ j = 5)) ∨ (77 ≤ 104 ∧ 104 < 79)) from by omega)) (fun j => hGσ2 105 j (show ¬ ((105 = 76 ∧ (j = 1 ∨ j = 4 ∨ j = 5)) ∨ (77 ≤ 105 ∧ 105 < 79)) from by omega))
  have tσ2 : TT σ2 := TT_kept tτ (fun c j h => hGσ2 c j (show ¬ ((c = 76 ∧ (j = 1 ∨ j = 4 ∨ j = 5)) ∨ (77 ≤ c ∧ c < 79)) from by omega)) (fun j h => hGσ2 89 j (show ¬ ((89 = 76 ∧ (j = 1 ∨ j = 4 ∨ j = 5)) ∨ (77 ≤ 89 ∧ 89 < 79)) from by omega))
  have stσ2 : ST σ2 := ST_F stτ (fun c j h => hGσ2 c j (show ¬ ((c = 76 ∧ (j = 1 ∨ j = 4 ∨ j = 5)) ∨ (77 ≤ c ∧ c < 79)) from by unfold STR at h; omega))
  refine j_pop (pc := 1117) dL_law_1117 rfl ?_
  refine j_aload_n (pc := 1118) dL_law_1118 rfl rfl ?_
  refine j_aload_n (pc := 1119) dL_law_1119 rfl rfl ?_
  refine j_iload_n (pc := 1120) dL_law_1120 rfl rfl ?_
  refine j_iconst (pc := 1121) dL_law_1121 ?_
  refine j_iadd (pc := 1122) dL_law_1122 ?_
  refine j_scrAt (pc := 1123) dL_law_1123 (by omega) (by omega) (by omega) ?_
  refine j_topV (show _ = v1 from ev1.symm) ?_
  refine j_callV (pc := 1124) (As := [vI v1]) (st := []) (c_X12_bolts hM v1 ⟨by omega, by omega⟩ σ2 hIσ2) mv_L_148 rfl rfl rfl (a_88 hM) dL_law_1124 ⟨Nat.le_of_ble_eq_true rfl, Nat.le_of_ble_eq_true rfl⟩ ⟨Nat.le_of_ble_eq_true rfl, Nat.le_of_ble_eq_true rfl⟩ rfl (Nat.le_of_ble_eq_true rfl) rfl (fun z7 σ8 hz7 => ?_)
  obtain ⟨r10, rfl, hr10, hIσ8, hGσ8, -⟩ := hz7
  refine j_st (st' := [vI r10]) rfl ?_
  have y11 : σ8 10 10 = τ 10 10 := ((hGσ8 10 10 (show ¬ ((10 = 88 ∧ (10 = 19 ∨ 10 = 23 ∨ 10 = 34)) ∨ (102 ≤ 10 ∧ 10 < 104)) from by omega))).trans (hGσ2 10 10 (show ¬ ((10 = 76 ∧ (10 = 1 ∨ 10 = 4 ∨ 10 = 5)) ∨ (77 ≤ 10 ∧ 10 < 79)) from by omega))
  have bσ8 : BY σ8 := BY_kept bσ2 (fun j => hGσ8 11 j (show ¬ ((11 = 88 ∧ (j = 19 ∨ j = 23 ∨ j = 34)) ∨ (102 ≤ 11 ∧ 11 < 104)) from by omega)) (fun j => hGσ8 98 j (show ¬ ((98 = 88 ∧ (j = 19 ∨ j = 23 ∨ j = 34)) ∨ (102 ≤ 98 ∧ 98 < 104)) from by omega)) (by omega)
  have mσ8 : mI σ8 := mI_kept mσ2 (fun j hj => hGσ8 89 j (show ¬ ((89 = 88 ∧ (j = 19 ∨ j = 23 ∨ j = 34)) ∨ (102 ≤ 89 ∧ 89 < 104)) from by omega)) (fun j => hGσ8 90 j (show ¬ ((90 = 88 ∧ (j = 19 ∨ j = 23 ∨ j = 34)) ∨ (102 ≤ 90 ∧ 90 < 104)) from by omega)) (hGσ8 91 0 (show ¬ ((91 = 88 ∧ (0 = 19 ∨ 0 = 23 ∨ 0 = 34)) ∨ (102 ≤ 91 ∧ 91 < 104)) from by omega)) hIσ2
  have sσ8 : SR σ8 := SR_kept sσ2 (fun c j h => hGσ8 c j (show ¬ ((c = 88 ∧ (j = 19 ∨ j = 23 ∨ j = 34)) ∨ (102 ≤ c ∧ c < 104)) from by omega)) (fun j => hGσ8 104 j (show ¬ ((104 = 88 ∧ (j = 19 ∨ j = 23 ∨ j = 34)) ∨ (102 ≤ 104 ∧ 104 < 104)) from by omega)) (fun j => hGσ8 105 j (show ¬ ((105 = 88 ∧ (j = 19 ∨ j = 23 ∨ j = 34)) ∨ (102 ≤ 105 ∧ 105 < 104)) from by omega))
  have tσ8 : TT σ8 := TT_kept tσ2 (fun c j h => hGσ8 c j (show ¬ ((c = 88 ∧ (j = 19 ∨ j = 23 ∨ j = 34)) ∨ (102 ≤ c ∧ c < 104)) from by omega)) (fun j h => hGσ8 89 j (show ¬ ((89 = 88 ∧ (j = 19 ∨ j = 23 ∨ j = 34)) ∨ (102 ≤ 89 ∧ 89 < 104)) from by omega))
  have stσ8 : ST σ8 := ST_F stσ2 (fun c j h => hGσ8 c j (show ¬ ((c = 88 ∧ (j = 19 ∨ j = 23 ∨ j = 34)) ∨ (102 ≤ c ∧ c < 104)) from by unfold STR at h; omega))
  refine j_pop (pc := 1127) dL_law_1127 rfl ?_
  refine j_goto (pc := 1128) (tgt := 1352) dL_law_1128 rfl ?_
  have y12 : σ8 10 10 = τ 10 10 := ((hGσ8 10 10 (show ¬ ((10 = 88 ∧ (10 = 19 ∨ 10 = 23 ∨ 10 = 34)) ∨ (102 ≤ 10 ∧ 10 < 104)) from by omega))).trans (hGσ2 10 10 (show ¬ ((10 = 76 ∧ (10 = 1 ∨ 10 = 4 ∨ 10 = 5)) ∨ (77 ≤ 10 ∧ 10 < 79)) from by omega))
  have y13 : σ8 88 12 = τ 88 12 := ((hGσ8 88 12 (show ¬ ((88 = 88 ∧ (12 = 19 ∨ 12 = 23 ∨ 12 = 34)) ∨ (102 ≤ 88 ∧ 88 < 104)) from by omega))).trans (hGσ2 88 12 (show ¬ ((88 = 76 ∧ (12 = 1 ∨ 12 = 4 ∨ 12 = 5)) ∨ (77 ≤ 88 ∧ 88 < 79)) from by omega))
  have f14 : (0 : Int) ≤ τ 88 12 ∧ τ 88 12 ≤ 400 := hIτ 88 12
  have y15 : σ8 0 13 = τ 0 13 := ((hGσ8 0 13 (show ¬ ((0 = 88 ∧ (13 = 19 ∨ 13 = 23 ∨ 13 = 34)) ∨ (102 ≤ 0 ∧ 0 < 104)) from by omega))).trans (hGσ2 0 13 (show ¬ ((0 = 76 ∧ (13 = 1 ∨ 13 = 4 ∨ 13 = 5)) ∨ (77 ≤ 0 ∧ 0 < 79)) from by omega))
  have f16 : (-2147483648 : Int) ≤ τ 0 13 ∧ τ 0 13 ≤ 2147483647 := hIτ 0 13
  have y17 : σ8 88 17 = τ 88 17 := ((hGσ8 88 17 (show ¬ ((88 = 88 ∧ (17 = 19 ∨ 17 = 23 ∨ 17 = 34)) ∨ (102 ≤ 88 ∧ 88 < 104)) from by omega))).trans (hGσ2 88 17 (show ¬ ((88 = 76 ∧ (17 = 1 ∨ 17 = 4 ∨ 17 = 5)) ∨ (77 ≤ 88 ∧ 88 < 79)) from by omega))
  have f18 : (0 : Int) ≤ τ 88 17 ∧ τ 88 17 ≤ 5 := hIτ 88 17
  have y19 : σ8 31 6 = τ 31 6 := ((hGσ8 31 6 (show ¬ ((31 = 88 ∧ (6 = 19 ∨ 6 = 23 ∨ 6 = 34)) ∨ (102 ≤ 31 ∧ 31 < 104)) from by omega))).trans (hGσ2 31 6 (show ¬ ((31 = 76 ∧ (6 = 1 ∨ 6 = 4 ∨ 6 = 5)) ∨ (77 ≤ 31 ∧ 31 < 79)) from by omega))
  have f20 : (0 : Int) ≤ τ 31 6 ∧ τ 31 6 ≤ 1 := hIτ 31 6
  have y21 : σ8 39 6 = τ 39 6 := ((hGσ8 39 6 (show ¬ ((39 = 88 ∧ (6 = 19 ∨ 6 = 23 ∨ 6 = 34)) ∨ (102 ≤ 39 ∧ 39 < 104)) from by omega))).trans (hGσ2 39 6 (show ¬ ((39 = 76 ∧ (6 = 1 ∨ 6 = 4 ∨ 6 = 5)) ∨ (77 ≤ 39 ∧ 39 < 79)) from by omega))
  have f22 : (0 : Int) ≤ τ 39 6 ∧ τ 39 6 ≤ 1 := hIτ 39 6
  have y23 : σ8 90 0 = τ 90 0 := ((hGσ8 90 0 (show ¬ ((90 = 88 ∧ (0 = 19 ∨ 0 = 23 ∨ 0 = 34)) ∨ (102 ≤ 90 ∧ 90 < 104)) from by omega))).trans (hGσ2 90 0 (show ¬ ((90 = 76 ∧ (0 = 1 ∨ 0 = 4 ∨ 0 = 5)) ∨ (77 ≤ 90 ∧ 90 < 79)) from by omega))
  have f24 : (0 : Int) ≤ τ 90 0 ∧ τ 90 0 ≤ 1 := hIτ 90 0
  have y25 : σ8 90 1 = τ 90 1 := ((hGσ8 90 1 (show ¬ ((90 = 88 ∧ (1 = 19 ∨ 1 = 23 ∨ 1 = 34)) ∨ (102 ≤ 90 ∧ 90 < 104)) from by omega))).trans (hGσ2 90 1 (show ¬ ((90 = 76 ∧ (1 = 1 ∨ 1 = 4 ∨ 1 = 5)) ∨ (77 ≤ 90 ∧ 90 < 79)) from by omega))
  have f26 : (0 : Int) ≤ τ 90 1 ∧ τ 90 1 ≤ 1 := hIτ 90 1
  exact K σ8 hIσ8 ⟨mσ8, by omega, sσ8, bσ8, by omega, by omega, by omega, tσ8, stσ8⟩
set_option maxHeartbeats 4000000 in
set_option maxRecDepth 100000 in
theorem w_case_31 {G : tw_G} (hX : tw_isX G) (hM : tw_isM G) {E : List Frame → Array Value → State → State → Prop} (hN : (gN G : Int) ≤ 2560) (i : Int) (hi : 0 ≤ i ∧ i + 5 ≤ (gN G : Int)) (τ : tw_M) (hIτ : tw_I τ) (hL : tw_LI τ) (K : ∀ τ' : tw_M, tw_I τ' → tw_LI τ' → tw_J G tw_ML E 1352 [(0, vR 300), (1, vR 0), (2, vR 88), (3, vI i)] [] τ') : tw_J G tw_ML E 1131 [(0, vR 300), (1, vR 0), (2, vR 88), (3, vI i)] [] τ := by
  obtain ⟨mτ, zτ, sτ, bτ, fτ, kτ0, kτ1, tτ, stτ⟩ := hL
  have g9 : (0 : Int) ≤ τ 10 10 ∧ τ 10 10 ≤ 400 := hIτ 10 10
  obtain ⟨v1, ev1⟩ : ∃ v : Int, v = (gxs G (i + 1).toNat).toInt := ⟨_, rfl⟩
  have hv1 : (-2147483648 : Int) ≤ v1 ∧ v1 ≤ 2147483647 := by rw [ev1]; exact i32_in _
  obtain ⟨v2, ev2⟩ : ∃ v : Int, v = (gxs G (i + 2).toNat).toInt := ⟨_, rfl⟩
  have hv2 : (-2147483648 : Int) ≤ v2 ∧ v2 ≤ 2147483647 := by rw [ev2]; exact i32_in _
  obtain ⟨v3, ev3⟩ : ∃ v : Int, v = (gxs G (i + 3).toNat).toInt := ⟨_, rfl⟩
  have hv3 : (-2147483648 : Int) ≤ v3 ∧ v3 ≤ 2147483647 := by rw [ev3]; exact i32_in _
  obtain ⟨v4, ev4⟩ : ∃ v : Int, v = (gxs G (i + 4).toNat).toInt := ⟨_, rfl⟩
  have hv4 : (-2147483648 : Int) ≤ v4 ∧ v4 ≤ 2147483647 := by rw [ev4]; exact i32_in _
  refine j_aload_n (pc := 1131) dL_law_1131 rfl rfl ?_
  refine j_aload_n (pc := 1132) dL_law_1132 rfl rfl ?_
  refine j_iload_n (pc := 1133) dL_law_1133 rfl rfl ?_
  refine j_iconst (pc := 1134) dL_law_1134 ?_
  refine j_iadd (pc := 1135) dL_law_1135 ?_
  refine j_scrAt (pc := 1136) dL_law_1136 (by omega) (by omega) (by omega) ?_
  refine j_topV (show _ = v1 from ev1.symm) ?_
  refine j_callV (pc := 1137) (As := [vI v1]) (st := []) (c_X11_image hX v1 ⟨by omega, by omega⟩ τ hIτ) mv_L_149 rfl rfl rfl (a_0 hX) dL_law_1137 ⟨Nat.le_of_ble_eq_true rfl, Nat.le_of_ble_eq_true rfl⟩ ⟨Nat.le_of_ble_eq_true rfl, Nat.le_of_ble_eq_true rfl⟩ rfl (Nat.le_of_ble_eq_true rfl) rfl (fun z1 σ2 hz1 => ?_)
  obtain ⟨r4, rfl, hr4, hIσ2, hGσ2, q3_0, q3_1, q3_2, q3_3, q3_4, q3_5, q3_6, q3_7, q3_8, q3_9⟩ := hz1
  replace q3_0 : (r4 = -1 ∧ ¬ (v1 = 0 ∨ v1 = 1) ∧ σ2 31 6 = τ 31 6 ∧ σ2 39 6 = τ 39 6) ∨ (v1 = 0 ∧ r4 = τ 31 6 ∧ σ2 31 6 = 1 ∧ σ2 39 6 = τ 39 6) ∨ (v1 = 1 ∧ r4 = τ 39 6 ∧ σ2 39 6 = 1 ∧ σ2 31 6 = τ 31 6) := q3_0
  replace q3_1 : (v1 = 0 ∧ σ2 37 0 = τ 29 0) ∨ (¬ v1 = 0 ∧ σ2 37 0 = τ 37 0) := q3_1
  replace q3_2 : (v1 = 0 ∧ σ2 38 0 = τ 30 0) ∨ (¬ v1 = 0 ∧ σ2 38 0 = τ 38 0) := q3_2
  replace q3_3 : (v1 = 0 ∧ σ2 37 1 = τ 29 1) ∨ (¬ v1 = 0 ∧ σ2 37 1 = τ 37 1) := q3_3
  replace q3_4 : (v1 = 0 ∧ σ2 38 1 = τ 30 1) ∨ (¬ v1 = 0 ∧ σ2 38 1 = τ 38 1) := q3_4
  replace q3_5 : (v1 = 1 ∧ σ2 45 0 = τ 29 0) ∨ (¬ v1 = 1 ∧ σ2 45 0 = τ 45 0) := q3_5
  replace q3_6 : (v1 = 1 ∧ σ2 46 0 = τ 30 0) ∨ (¬ v1 = 1 ∧ σ2 46 0 = τ 46 0) := q3_6
  replace q3_7 : (v1 = 1 ∧ σ2 45 1 = τ 29 1) ∨ (¬ v1 = 1 ∧ σ2 45 1 = τ 45 1) := q3_7
  replace q3_8 : (v1 = 1 ∧ σ2 46 1 = τ 30 1) ∨ (¬ v1 = 1 ∧ σ2 46 1 = τ 46 1) := q3_8
  replace q3_9 : ((v1 = 0 ∧ CPY 31 23 τ σ2 ∧ ∀ c j : Nat, 39 ≤ c → σ2 c j = τ c j) ∨ (v1 = 1 ∧ CPY 39 23 τ σ2 ∧ ∀ c j : Nat, c < 39 → σ2 c j = τ c j) ∨ (¬ (v1 = 0 ∨ v1 = 1) ∧ ∀ c j, σ2 c j = τ c j)) := q3_9
  refine j_st (st' := [vI r4]) rfl ?_
  have y5 : σ2 10 10 = τ 10 10 := (hGσ2 10 10 (show ¬ ((31 ≤ 10 ∧ 10 < 47)) from by omega))
  have f6 : (0 : Int) ≤ τ 10 10 ∧ τ 10 10 ≤ 400 := hIτ 10 10
  have bσ2 : BY σ2 := BY_kept bτ (fun j => hGσ2 11 j (show ¬ ((31 ≤ 11 ∧ 11 < 47)) from by omega)) (fun j => hGσ2 98 j (show ¬ ((31 ≤ 98 ∧ 98 < 47)) from by omega)) (by omega)
  have mσ2 : mI σ2 := mI_kept mτ (fun j hj => hGσ2 89 j (show ¬ ((31 ≤ 89 ∧ 89 < 47)) from by omega)) (fun j => hGσ2 90 j (show ¬ ((31 ≤ 90 ∧ 90 < 47)) from by omega)) (hGσ2 91 0 (show ¬ ((31 ≤ 91 ∧ 91 < 47)) from by omega)) hIτ
  have sσ2 : SR σ2 := SR_kept sτ (fun c j h => hGσ2 c j (show ¬ ((31 ≤ c ∧ c < 47)) from by omega)) (fun j => hGσ2 104 j (show ¬ ((31 ≤ 104 ∧ 104 < 47)) from by omega)) (fun j => hGσ2 105 j (show ¬ ((31 ≤ 105 ∧ 105 < 47)) from by omega))
  refine j_pop (pc := 1140) dL_law_1140 rfl ?_
  refine j_aload_n (pc := 1141) dL_law_1141 rfl rfl ?_
  refine j_aload_n (pc := 1142) dL_law_1142 rfl rfl ?_
  refine j_iload_n (pc := 1143) dL_law_1143 rfl rfl ?_
  refine j_iconst (pc := 1144) dL_law_1144 ?_
  refine j_iadd (pc := 1145) dL_law_1145 ?_
  refine j_scrAt (pc := 1146) dL_law_1146 (by omega) (by omega) (by omega) ?_
  refine j_topV (show _ = v1 from ev1.symm) ?_
  refine j_callV (pc := 1147) (As := [vI v1]) (st := []) (c_X12_image hM v1 ⟨by omega, by omega⟩ σ2 hIσ2 mσ2) mv_L_152 rfl rfl rfl (a_88 hM) dL_law_1147 ⟨Nat.le_of_ble_eq_true rfl, Nat.le_of_ble_eq_true rfl⟩ ⟨Nat.le_of_ble_eq_true rfl, Nat.le_of_ble_eq_true rfl⟩ rfl (Nat.le_of_ble_eq_true rfl) rfl (fun z7 σ8 hz7 => ?_)
  obtain ⟨r10, rfl, hr10, hIσ8, hGσ8, q9_0, q9_1, q9_2, q9_3, q9_4, q9_5, q9_6, q9_7, q9_8, q9_9, q9_10⟩ := hz7
  replace q9_0 : mI σ8 := q9_0
  replace q9_1 : (r10 = -1 ∧ ¬ (v1 = 0 ∨ v1 = 1) ∧ σ8 90 0 = σ2 90 0 ∧ σ8 90 1 = σ2 90 1) ∨ (v1 = 0 ∧ r10 = σ2 90 0 ∧ σ8 90 0 = 1 ∧ σ8 90 1 = σ2 90 1) ∨ (v1 = 1 ∧ r10 = σ2 90 1 ∧ σ8 90 1 = 1 ∧ σ8 90 0 = σ2 90 0) := q9_1
  have y11 : σ2 90 0 = τ 90 0 := (hGσ2 90 0 (show ¬ ((31 ≤ 90 ∧ 90 < 47)) from by omega))
  have f12 : (0 : Int) ≤ τ 90 0 ∧ τ 90 0 ≤ 1 := hIτ 90 0
  have y13 : σ2 90 1 = τ 90 1 := (hGσ2 90 1 (show ¬ ((31 ≤ 90 ∧ 90 < 47)) from by omega))
  have f14 : (0 : Int) ≤ τ 90 1 ∧ τ 90 1 ≤ 1 := hIτ 90 1
  replace q9_2 : (v1 = 0 ∧ σ8 89 193 = σ2 89 93) ∨ (¬ v1 = 0 ∧ σ8 89 193 = σ2 89 193) := q9_2
  have y15 : σ2 89 93 = τ 89 93 := (hGσ2 89 93 (show ¬ ((31 ≤ 89 ∧ 89 < 47)) from by omega))
  have f16 : (0 : Int) ≤ τ 89 93 ∧ τ 89 93 ≤ 999 := hIτ 89 93
  have y17 : σ2 89 193 = τ 89 193 := (hGσ2 89 193 (show ¬ ((31 ≤ 89 ∧ 89 < 47)) from by omega))
  have f18 : (0 : Int) ≤ τ 89 193 ∧ τ 89 193 ≤ 999 := hIτ 89 193
  replace q9_3 : (v1 = 0 ∧ σ8 89 194 = σ2 89 94) ∨ (¬ v1 = 0 ∧ σ8 89 194 = σ2 89 194) := q9_3
  have y19 : σ2 89 94 = τ 89 94 := (hGσ2 89 94 (show ¬ ((31 ≤ 89 ∧ 89 < 47)) from by omega))
  have f20 : (-2147483648 : Int) ≤ τ 89 94 ∧ τ 89 94 ≤ 2147483647 := hIτ 89 94
  have y21 : σ2 89 194 = τ 89 194 := (hGσ2 89 194 (show ¬ ((31 ≤ 89 ∧ 89 < 47)) from by omega))
  have f22 : (-2147483648 : Int) ≤ τ 89 194 ∧ τ 89 194 ≤ 2147483647 := hIτ 89 194
  replace q9_4 : (v1 = 0 ∧ σ8 89 195 = σ2 89 95) ∨ (¬ v1 = 0 ∧ σ8 89 195 = σ2 89 195) := q9_4
  have y23 : σ2 89 95 = τ 89 95 := (hGσ2 89 95 (show ¬ ((31 ≤ 89 ∧ 89 < 47)) from by omega))
  have f24 : (0 : Int) ≤ τ 89 95 ∧ τ 89 95 ≤ 999 := hIτ 89 95
  have y25 : σ2 89 195 = τ 89 195 := (hGσ2 89 195 (show ¬ ((31 ≤ 89 ∧ 89 < 47)) from by omega))
  have f26 : (0 : Int) ≤ τ 89 195 ∧ τ 89 195 ≤ 999 := hIτ 89 195
  replace q9_5 : (v1 = 0 ∧ σ8 89 196 = σ2 89 96) ∨ (¬ v1 = 0 ∧ σ8 89 196 = σ2 89 196) := q9_5
  have y27 : σ2 89 96 = τ 89 96 := (hGσ2 89 96 (show ¬ ((31 ≤ 89 ∧ 89 < 47)) from by omega))
  have f28 : (-2147483648 : Int) ≤ τ 89 96 ∧ τ 89 96 ≤ 2147483647 := hIτ 89 96
  have y29 : σ2 89 196 = τ 89 196 := (hGσ2 89 196 (show ¬ ((31 ≤ 89 ∧ 89 < 47)) from by omega))
  have f30 : (-2147483648 : Int) ≤ τ 89 196 ∧ τ 89 196 ≤ 2147483647 := hIτ 89 196
  replace q9_6 : (v1 = 1 ∧ σ8 89 293 = σ2 89 93) ∨ (¬ v1 = 1 ∧ σ8 89 293 = σ2 89 293) := q9_6
  have y31 : σ2 89 93 = τ 89 93 := (hGσ2 89 93 (show ¬ ((31 ≤ 89 ∧ 89 < 47)) from by omega))
  have y32 : σ2 89 293 = τ 89 293 := (hGσ2 89 293 (show ¬ ((31 ≤ 89 ∧ 89 < 47)) from by omega))
  have f33 : (0 : Int) ≤ τ 89 293 ∧ τ 89 293 ≤ 999 := hIτ 89 293
  replace q9_7 : (v1 = 1 ∧ σ8 89 294 = σ2 89 94) ∨ (¬ v1 = 1 ∧ σ8 89 294 = σ2 89 294) := q9_7
  have y34 : σ2 89 94 = τ 89 94 := (hGσ2 89 94 (show ¬ ((31 ≤ 89 ∧ 89 < 47)) from by omega))
  have y35 : σ2 89 294 = τ 89 294 := (hGσ2 89 294 (show ¬ ((31 ≤ 89 ∧ 89 < 47)) from by omega))
  have f36 : (-2147483648 : Int) ≤ τ 89 294 ∧ τ 89 294 ≤ 2147483647 := hIτ 89 294
  replace q9_8 : (v1 = 1 ∧ σ8 89 295 = σ2 89 95) ∨ (¬ v1 = 1 ∧ σ8 89 295 = σ2 89 295) := q9_8
  have y37 : σ2 89 95 = τ 89 95 := (hGσ2 89 95 (show ¬ ((31 ≤ 89 ∧ 89 < 47)) from by omega))
  have y38 : σ2 89 295 = τ 89 295 := (hGσ2 89 295 (show ¬ ((31 ≤ 89 ∧ 89 < 47)) from by omega))
  have f39 : (0 : Int) ≤ τ 89 295 ∧ τ 89 295 ≤ 999 := hIτ 89 295
  replace q9_9 : (v1 = 1 ∧ σ8 89 296 = σ2 89 96) ∨ (¬ v1 = 1 ∧ σ8 89 296 = σ2 89 296) := q9_9
  have y40 : σ2 89 96 = τ 89 96 := (hGσ2 89 96 (show ¬ ((31 ≤ 89 ∧ 89 < 47)) from by omega))
  have y41 : σ2 89 296 = τ 89 296 := (hGσ2 89 296 (show ¬ ((31 ≤ 89 ∧ 89 < 47)) from by omega))
  have f42 : (-2147483648 : Int) ≤ τ 89 296 ∧ τ 89 296 ≤ 2147483647 := hIτ 89 296
  replace q9_10 : ((¬ (v1 = 0 ∨ v1 = 1) ∧ ∀ c j, σ8 c j = σ2 c j) ∨ ((v1 = 0 ∨ v1 = 1) ∧ (∀ j : Int, 0 ≤ j → j < 97 → σ8 89 (100 + 100 * v1 + j).toNat = σ2 89 j.toNat) ∧ σ8 89 (197 + 100 * v1).toNat = σ2 91 5 ∧ σ8 89 (198 + 100 * v1).toNat = σ2 91 6 ∧ (∀ j : Nat, (j < 97 ∨ (100 ≤ j ∧ ((j : Int) < 100 + 100 * v1 ∨ 200 + 100 * v1 ≤ (j : Int)))) → σ8 89 j = σ2 89 j))) := q9_10
  have y43 : σ2 91 5 = τ 91 5 := (hGσ2 91 5 (show ¬ ((31 ≤ 91 ∧ 91 < 47)) from by omega))
  have f44 : (-2147483648 : Int) ≤ τ 91 5 ∧ τ 91 5 ≤ 2147483647 := hIτ 91 5
  have y45 : σ2 91 6 = τ 91 6 := (hGσ2 91 6 (show ¬ ((31 ≤ 91 ∧ 91 < 47)) from by omega))
  have f46 : (-2147483648 : Int) ≤ τ 91 6 ∧ τ 91 6 ≤ 2147483647 := hIτ 91 6
  refine j_st (st' := [vI r10]) rfl ?_
  have y47 : σ8 10 10 = τ 10 10 := ((hGσ8 10 10 (show ¬ ((10 = 90) ∨ (10 = 89 ∧ (10 = 97 ∨ 10 = 98 ∨ (100 ≤ 10 ∧ 10 < 300)))) from by omega))).trans (hGσ2 10 10 (show ¬ ((31 ≤ 10 ∧ 10 < 47)) from by omega))
  have bσ8 : BY σ8 := BY_kept bσ2 (fun j => hGσ8 11 j (show ¬ ((11 = 90) ∨ (11 = 89 ∧ (j = 97 ∨ j = 98 ∨ (100 ≤ j ∧ j < 300)))) from by omega)) (fun j => hGσ8 98 j (show ¬ ((98 = 90) ∨ (98 = 89 ∧ (j = 97 ∨ j = 98 ∨ (100 ≤ j ∧ j < 300)))) from by omega)) (by omega)
  have mσ8 : mI σ8 := q9_0
  have sσ8 : SR σ8 := SR_kept sσ2 (fun c j h => hGσ8 c j (show ¬ ((c = 90) ∨ (c = 89 ∧ (j = 97 ∨ j = 98 ∨ (100 ≤ j ∧ j < 300)))) from by omega)) (fun j => hGσ8 104 j (show ¬ ((104 = 90) ∨ (104 = 89 ∧ (j = 97 ∨ j = 98 ∨ (100 ≤ j ∧ j < 300)))) from by omega)) (fun j => hGσ8 105 j (show ¬ ((105 = 90) ∨ (105 = 89 ∧ (j = 97 ∨ j = 98 ∨ (100 ≤ j ∧ j < 300)))) from by omega))
  have ht9 : (1 : Int) ≤ τ 91 0 ∧ τ 91 0 ≤ 40 := hIτ 91 0
  have st9 := ST_image stτ q3_9 q9_10 (fun c j h => hGσ2 c j (show ¬ ((31 ≤ c ∧ c < 47)) from by omega)) (fun c j h1 h2 => hGσ8 c j (show ¬ ((c = 90) ∨ (c = 89 ∧ (j = 97 ∨ j = 98 ∨ (100 ≤ j ∧ j < 300)))) from by omega))
  clear q3_9 q9_10
  refine j_pop (pc := 1150) dL_law_1150 rfl ?_
  refine j_goto (pc := 1151) (tgt := 1352) dL_law_1151 rfl ?_
  have y48 : σ8 10 10 = τ 10 10 := ((hGσ8 10 10 (show ¬ ((10 = 90) ∨ (10 = 89 ∧ (10 = 97 ∨ 10 = 98 ∨ (100 ≤ 10 ∧ 10 < 300)))) from by omega))).trans (hGσ2 10 10 (show ¬ ((31 ≤ 10 ∧ 10 < 47)) from by omega))
  have y49 : σ8 88 12 = τ 88 12 := ((hGσ8 88 12 (show ¬ ((88 = 90) ∨ (88 = 89 ∧ (12 = 97 ∨ 12 = 98 ∨ (100 ≤ 12 ∧ 12 < 300)))) from by omega))).trans (hGσ2 88 12 (show ¬ ((31 ≤ 88 ∧ 88 < 47)) from by omega))
  have f50 : (0 : Int) ≤ τ 88 12 ∧ τ 88 12 ≤ 400 := hIτ 88 12
  have y51 : σ8 0 13 = τ 0 13 := ((hGσ8 0 13 (show ¬ ((0 = 90) ∨ (0 = 89 ∧ (13 = 97 ∨ 13 = 98 ∨ (100 ≤ 13 ∧ 13 < 300)))) from by omega))).trans (hGσ2 0 13 (show ¬ ((31 ≤ 0 ∧ 0 < 47)) from by omega))
  have f52 : (-2147483648 : Int) ≤ τ 0 13 ∧ τ 0 13 ≤ 2147483647 := hIτ 0 13
  have y53 : σ8 88 17 = τ 88 17 := ((hGσ8 88 17 (show ¬ ((88 = 90) ∨ (88 = 89 ∧ (17 = 97 ∨ 17 = 98 ∨ (100 ≤ 17 ∧ 17 < 300)))) from by omega))).trans (hGσ2 88 17 (show ¬ ((31 ≤ 88 ∧ 88 < 47)) from by omega))
  have f54 : (0 : Int) ≤ τ 88 17 ∧ τ 88 17 ≤ 5 := hIτ 88 17
  have y55 : σ8 31 6 = σ2 31 6 := (hGσ8 31 6 (show ¬ ((31 = 90) ∨ (31 = 89 ∧ (6 = 97 ∨ 6 = 98 ∨ (100 ≤ 6 ∧ 6 < 300)))) from by omega))
  have f56 : (0 : Int) ≤ σ2 31 6 ∧ σ2 31 6 ≤ 1 := hIσ2 31 6
  have y57 : σ8 39 6 = σ2 39 6 := (hGσ8 39 6 (show ¬ ((39 = 90) ∨ (39 = 89 ∧ (6 = 97 ∨ 6 = 98 ∨ (100 ≤ 6 ∧ 6 < 300)))) from by omega))
  have f58 : (0 : Int) ≤ σ2 39 6 ∧ σ2 39 6 ≤ 1 := hIσ2 39 6
  obtain ⟨t0, t1, t2, t3, t4, t5, t6, t7, t8, t9, t10, t11, t12, t13, t14, t15, t16, t17⟩ := tτ
  have y59 : σ8 29 0 = τ 29 0 := ((hGσ8 29 0 (show ¬ ((29 = 90) ∨ (29 = 89 ∧ (0 = 97 ∨ 0 = 98 ∨ (100 ≤ 0 ∧ 0 < 300)))) from by omega))).trans (hGσ2 29 0 (show ¬ ((31 ≤ 29 ∧ 29 < 47)) from by omega))
  have f60 : (0 : Int) ≤ τ 29 0 ∧ τ 29 0 ≤ 999 := hIτ 29 0
  have y61 : σ8 30 0 = τ 30 0 := ((hGσ8 30 0 (show ¬ ((30 = 90) ∨ (30 = 89 ∧ (0 = 97 ∨ 0 = 98 ∨ (100 ≤ 0 ∧ 0 < 300)))) from by omega))).trans (hGσ2 30 0 (show ¬ ((31 ≤ 30 ∧ 30 < 47)) from by omega))
  have f62 : (-2147483648 : Int) ≤ τ 30 0 ∧ τ 30 0 ≤ 2147483647 := hIτ 30 0
  have y63 : σ8 29 1 = τ 29 1 := ((hGσ8 29 1 (show ¬ ((29 = 90) ∨ (29 = 89 ∧ (1 = 97 ∨ 1 = 98 ∨ (100 ≤ 1 ∧ 1 < 300)))) from by omega))).trans (hGσ2 29 1 (show ¬ ((31 ≤ 29 ∧ 29 < 47)) from by omega))
  have f64 : (0 : Int) ≤ τ 29 1 ∧ τ 29 1 ≤ 999 := hIτ 29 1
  have y65 : σ8 30 1 = τ 30 1 := ((hGσ8 30 1 (show ¬ ((30 = 90) ∨ (30 = 89 ∧ (1 = 97 ∨ 1 = 98 ∨ (100 ≤ 1 ∧ 1 < 300)))) from by omega))).trans (hGσ2 30 1 (show ¬ ((31 ≤ 30 ∧ 30 < 47)) from by omega))
  have f66 : (-2147483648 : Int) ≤ τ 30 1 ∧ τ 30 1 ≤ 2147483647 := hIτ 30 1
  have y67 : σ8 37 0 = σ2 37 0 := (hGσ8 37 0 (show ¬ ((37 = 90) ∨ (37 = 89 ∧ (0 = 97 ∨ 0 = 98 ∨ (100 ≤ 0 ∧ 0 < 300)))) from by omega))
  have f68 : (0 : Int) ≤ σ2 37 0 ∧ σ2 37 0 ≤ 999 := hIσ2 37 0
  have y69 : σ8 38 0 = σ2 38 0 := (hGσ8 38 0 (show ¬ ((38 = 90) ∨ (38 = 89 ∧ (0 = 97 ∨ 0 = 98 ∨ (100 ≤ 0 ∧ 0 < 300)))) from by omega))
  have f70 : (-2147483648 : Int) ≤ σ2 38 0 ∧ σ2 38 0 ≤ 2147483647 := hIσ2 38 0
  have y71 : σ8 37 1 = σ2 37 1 := (hGσ8 37 1 (show ¬ ((37 = 90) ∨ (37 = 89 ∧ (1 = 97 ∨ 1 = 98 ∨ (100 ≤ 1 ∧ 1 < 300)))) from by omega))
  have f72 : (0 : Int) ≤ σ2 37 1 ∧ σ2 37 1 ≤ 999 := hIσ2 37 1
  have y73 : σ8 38 1 = σ2 38 1 := (hGσ8 38 1 (show ¬ ((38 = 90) ∨ (38 = 89 ∧ (1 = 97 ∨ 1 = 98 ∨ (100 ≤ 1 ∧ 1 < 300)))) from by omega))
  have f74 : (-2147483648 : Int) ≤ σ2 38 1 ∧ σ2 38 1 ≤ 2147483647 := hIσ2 38 1
  have y75 : σ8 45 0 = σ2 45 0 := (hGσ8 45 0 (show ¬ ((45 = 90) ∨ (45 = 89 ∧ (0 = 97 ∨ 0 = 98 ∨ (100 ≤ 0 ∧ 0 < 300)))) from by omega))
  have f76 : (0 : Int) ≤ σ2 45 0 ∧ σ2 45 0 ≤ 999 := hIσ2 45 0
  have y77 : σ8 46 0 = σ2 46 0 := (hGσ8 46 0 (show ¬ ((46 = 90) ∨ (46 = 89 ∧ (0 = 97 ∨ 0 = 98 ∨ (100 ≤ 0 ∧ 0 < 300)))) from by omega))
  have f78 : (-2147483648 : Int) ≤ σ2 46 0 ∧ σ2 46 0 ≤ 2147483647 := hIσ2 46 0
  have y79 : σ8 45 1 = σ2 45 1 := (hGσ8 45 1 (show ¬ ((45 = 90) ∨ (45 = 89 ∧ (1 = 97 ∨ 1 = 98 ∨ (100 ≤ 1 ∧ 1 < 300)))) from by omega))
  have f80 : (0 : Int) ≤ σ2 45 1 ∧ σ2 45 1 ≤ 999 := hIσ2 45 1
  have y81 : σ8 46 1 = σ2 46 1 := (hGσ8 46 1 (show ¬ ((46 = 90) ∨ (46 = 89 ∧ (1 = 97 ∨ 1 = 98 ∨ (100 ≤ 1 ∧ 1 < 300)))) from by omega))
  have f82 : (-2147483648 : Int) ≤ σ2 46 1 ∧ σ2 46 1 ≤ 2147483647 := hIσ2 46 1
  have u93 : σ8 89 93 = τ 89 93 := ((hGσ8 89 93 (show ¬ ((89 = 90) ∨ (89 = 89 ∧ (93 = 97 ∨ 93 = 98 ∨ (100 ≤ 93 ∧ 93 < 300)))) from by omega))).trans (hGσ2 89 93 (show ¬ ((31 ≤ 89 ∧ 89 < 47)) from by omega))
  have u94 : σ8 89 94 = τ 89 94 := ((hGσ8 89 94 (show ¬ ((89 = 90) ∨ (89 = 89 ∧ (94 = 97 ∨ 94 = 98 ∨ (100 ≤ 94 ∧ 94 < 300)))) from by omega))).trans (hGσ2 89 94 (show ¬ ((31 ≤ 89 ∧ 89 < 47)) from by omega))
  have u95 : σ8 89 95 = τ 89 95 := ((hGσ8 89 95 (show ¬ ((89 = 90) ∨ (89 = 89 ∧ (95 = 97 ∨ 95 = 98 ∨ (100 ≤ 95 ∧ 95 < 300)))) from by omega))).trans (hGσ2 89 95 (show ¬ ((31 ≤ 89 ∧ 89 < 47)) from by omega))
  have u96 : σ8 89 96 = τ 89 96 := ((hGσ8 89 96 (show ¬ ((89 = 90) ∨ (89 = 89 ∧ (96 = 97 ∨ 96 = 98 ∨ (100 ≤ 96 ∧ 96 < 300)))) from by omega))).trans (hGσ2 89 96 (show ¬ ((31 ≤ 89 ∧ 89 < 47)) from by omega))
  exact K σ8 hIσ8 ⟨mσ8, by omega, sσ8, bσ8, by omega, by omega, by omega, ⟨by clear t1 t2 t3 t5 t6 t7 t9 t10 t11 t12 t13 t14 t15 t16 t17 q3_0 q3_1 q3_2 q3_3 q3_4 q3_5 q3_6 q3_7 q3_8 q9_1 q9_2 q9_3 q9_4 q9_5 q9_6 q9_7 q9_8 q9_9; omega, by clear t0 t2 t3 t4 t6 t7 t8 t10 t11 t12 t13 t14 t15 t16 t17 q3_0 q3_1 q3_2 q3_3 q3_4 q3_5 q3_6 q3_7 q3_8 q9_1 q9_2 q9_3 q9_4 q9_5 q9_6 q9_7 q9_8 q9_9; omega, by clear t0 t1 t3 t4 t5 t7 t8 t9 t11 t12 t13 t14 t15 t16 t17 q3_0 q3_1 q3_2 q3_3 q3_4 q3_5 q3_6 q3_7 q3_8 q9_1 q9_2 q9_3 q9_4 q9_5 q9_6 q9_7 q9_8 q9_9; omega, by clear t0 t1 t2 t4 t5 t6 t8 t9 t10 t12 t13 t14 t15 t16 t17 q3_0 q3_1 q3_2 q3_3 q3_4 q3_5 q3_6 q3_7 q3_8 q9_1 q9_2 q9_3 q9_4 q9_5 q9_6 q9_7 q9_8 q9_9; omega, by clear t1 t2 t3 t5 t6 t7 t9 t10 t11 t12 t13 t14 t15 t16 t17 q3_0 q3_2 q3_3 q3_4 q3_5 q3_6 q3_7 q3_8 q9_1 q9_3 q9_4 q9_5 q9_6 q9_7 q9_8 q9_9; omega, by clear t0 t2 t3 t4 t6 t7 t8 t10 t11 t12 t13 t14 t15 t16 t17 q3_0 q3_1 q3_3 q3_4 q3_5 q3_6 q3_7 q3_8 q9_1 q9_2 q9_4 q9_5 q9_6 q9_7 q9_8 q9_9; omega, by clear t0 t1 t3 t4 t5 t7 t8 t9 t11 t12 t13 t14 t15 t16 t17 q3_0 q3_1 q3_2 q3_4 q3_5 q3_6 q3_7 q3_8 q9_1 q9_2 q9_3 q9_5 q9_6 q9_7 q9_8 q9_9; omega, by clear t0 t1 t2 t4 t5 t6 t8 t9 t10 t12 t13 t14 t15 t16 t17 q3_0 q3_1 q3_2 q3_3 q3_5 q3_6 q3_7 q3_8 q9_1 q9_2 q9_3 q9_4 q9_6 q9_7 q9_8 q9_9; omega, by clear t1 t2 t3 t5 t6 t7 t9 t10 t11 t12 t13 t14 t15 t16 t17 q3_0 q3_1 q3_2 q3_3 q3_4 q3_6 q3_7 q3_8 q9_1 q9_2 q9_3 q9_4 q9_5 q9_7 q9_8 q9_9; omega, by clear t0 t2 t3 t4 t6 t7 t8 t10 t11 t12 t13 t14 t15 t16 t17 q3_0 q3_1 q3_2 q3_3 q3_4 q3_5 q3_7 q3_8 q9_1 q9_2 q9_3 q9_4 q9_5 q9_6 q9_8 q9_9; omega, by clear t0 t1 t3 t4 t5 t7 t8 t9 t11 t12 t13 t14 t15 t16 t17 q3_0 q3_1 q3_2 q3_3 q3_4 q3_5 q3_6 q3_8 q9_1 q9_2 q9_3 q9_4 q9_5 q9_6 q9_7 q9_9; omega, by clear t0 t1 t2 t4 t5 t6 t8 t9 t10 t12 t13 t14 t15 t16 t17 q3_0 q3_1 q3_2 q3_3 q3_4 q3_5 q3_6 q3_7 q9_1 q9_2 q9_3 q9_4 q9_5 q9_6 q9_7 q9_8; omega, by clear t2 t3 t6 t7 t10 t11 t13 t15 t17 q3_0 q3_1 q3_2 q3_3 q3_4 q3_5 q3_6 q3_7 q3_8 q9_1 q9_2 q9_3 q9_4 q9_5 q9_6 q9_7 q9_8 q9_9; omega, by clear t0 t1 t4 t5 t8 t9 t12 t14 t16 q3_0 q3_1 q3_2 q3_3 q3_4 q3_5 q3_6 q3_7 q3_8 q9_1 q9_2 q9_3 q9_4 q9_5 q9_6 q9_7 q9_8 q9_9; omega, by clear t2 t3 t6 t7 t10 t11 t13 t15 t17 q3_0 q3_3 q3_4 q3_5 q3_6 q3_7 q3_8 q9_1 q9_4 q9_5 q9_6 q9_7 q9_8 q9_9; omega, by clear t0 t1 t4 t5 t8 t9 t12 t14 t16 q3_0 q3_1 q3_2 q3_5 q3_6 q3_7 q3_8 q9_1 q9_2 q9_3 q9_6 q9_7 q9_8 q9_9; omega, by clear t2 t3 t6 t7 t10 t11 t13 t15 t17 q3_0 q3_1 q3_2 q3_3 q3_4 q3_7 q3_8 q9_1 q9_2 q9_3 q9_4 q9_5 q9_8 q9_9; omega, by clear t0 t1 t4 t5 t8 t9 t12 t14 t16 q3_0 q3_1 q3_2 q3_3 q3_4 q3_5 q3_6 q9_1 q9_2 q9_3 q9_4 q9_5 q9_6 q9_7; omega⟩, st9⟩
set_option maxHeartbeats 4000000 in
set_option maxRecDepth 100000 in
theorem w_case_32 {G : tw_G} (hX : tw_isX G) (hM : tw_isM G) {E : List Frame → Array Value → State → State → Prop} (hN : (gN G : Int) ≤ 2560) (i : Int) (hi : 0 ≤ i ∧ i + 5 ≤ (gN G : Int)) (τ : tw_M) (hIτ : tw_I τ) (hL : tw_LI τ) (K : ∀ τ' : tw_M, tw_I τ' → tw_LI τ' → tw_J G tw_ML E 1352 [(0, vR 300), (1, vR 0), (2, vR 88), (3, vI i)] [] τ') : tw_J G tw_ML E 1154 [(0, vR 300), (1, vR 0), (2, vR 88), (3, vI i)] [] τ := by
  obtain ⟨mτ, zτ, sτ, bτ, fτ, kτ0, kτ1, tτ, stτ⟩ := hL
  have g9 : (0 : Int) ≤ τ 10 10 ∧ τ 10 10 ≤ 400 := hIτ 10 10
  obtain ⟨v1, ev1⟩ : ∃ v : Int, v = (gxs G (i + 1).toNat).toInt := ⟨_, rfl⟩
  have hv1 : (-2147483648 : Int) ≤ v1 ∧ v1 ≤ 2147483647 := by rw [ev1]; exact i32_in _
  obtain ⟨v2, ev2⟩ : ∃ v : Int, v = (gxs G (i + 2).toNat).toInt := ⟨_, rfl⟩
  have hv2 : (-2147483648 : Int) ≤ v2 ∧ v2 ≤ 2147483647 := by rw [ev2]; exact i32_in _
  obtain ⟨v3, ev3⟩ : ∃ v : Int, v = (gxs G (i + 3).toNat).toInt := ⟨_, rfl⟩
  have hv3 : (-2147483648 : Int) ≤ v3 ∧ v3 ≤ 2147483647 := by rw [ev3]; exact i32_in _
  obtain ⟨v4, ev4⟩ : ∃ v : Int, v = (gxs G (i + 4).toNat).toInt := ⟨_, rfl⟩
  have hv4 : (-2147483648 : Int) ≤ v4 ∧ v4 ≤ 2147483647 := by rw [ev4]; exact i32_in _
  refine j_aload_n (pc := 1154) dL_law_1154 rfl rfl ?_
  refine j_aload_n (pc := 1155) dL_law_1155 rfl rfl ?_
  refine j_iload_n (pc := 1156) dL_law_1156 rfl rfl ?_
  refine j_iconst (pc := 1157) dL_law_1157 ?_
  refine j_iadd (pc := 1158) dL_law_1158 ?_
  refine j_scrAt (pc := 1159) dL_law_1159 (by omega) (by omega) (by omega) ?_
  refine j_topV (show _ = v1 from ev1.symm) ?_
  refine j_callV (pc := 1160) (As := [vI v1]) (st := []) (c_X11_back hX v1 ⟨by omega, by omega⟩ τ hIτ) mv_L_153 rfl rfl rfl (a_0 hX) dL_law_1160 ⟨Nat.le_of_ble_eq_true rfl, Nat.le_of_ble_eq_true rfl⟩ ⟨Nat.le_of_ble_eq_true rfl, Nat.le_of_ble_eq_true rfl⟩ rfl (Nat.le_of_ble_eq_true rfl) rfl (fun z1 σ2 hz1 => ?_)
  obtain ⟨r4, rfl, hr4, hIσ2, hGσ2, q3_0, q3_1, q3_2, q3_3, q3_4⟩ := hz1
  replace q3_0 : (σ2 29 0 = τ 29 0 ∧ (¬ (v1 = 0 ∨ v1 = 1) ∨ (v1 = 0 ∧ τ 31 6 = 0) ∨ (v1 = 1 ∧ τ 39 6 = 0))) ∨ (v1 = 0 ∧ ¬ τ 31 6 = 0 ∧ σ2 29 0 = τ 37 0) ∨ (v1 = 1 ∧ ¬ τ 39 6 = 0 ∧ σ2 29 0 = τ 45 0) := q3_0
  replace q3_1 : (σ2 30 0 = τ 30 0 ∧ (¬ (v1 = 0 ∨ v1 = 1) ∨ (v1 = 0 ∧ τ 31 6 = 0) ∨ (v1 = 1 ∧ τ 39 6 = 0))) ∨ (v1 = 0 ∧ ¬ τ 31 6 = 0 ∧ σ2 30 0 = τ 38 0) ∨ (v1 = 1 ∧ ¬ τ 39 6 = 0 ∧ σ2 30 0 = τ 46 0) := q3_1
  replace q3_2 : (σ2 29 1 = τ 29 1 ∧ (¬ (v1 = 0 ∨ v1 = 1) ∨ (v1 = 0 ∧ τ 31 6 = 0) ∨ (v1 = 1 ∧ τ 39 6 = 0))) ∨ (v1 = 0 ∧ ¬ τ 31 6 = 0 ∧ σ2 29 1 = τ 37 1) ∨ (v1 = 1 ∧ ¬ τ 39 6 = 0 ∧ σ2 29 1 = τ 45 1) := q3_2
  replace q3_3 : (σ2 30 1 = τ 30 1 ∧ (¬ (v1 = 0 ∨ v1 = 1) ∨ (v1 = 0 ∧ τ 31 6 = 0) ∨ (v1 = 1 ∧ τ 39 6 = 0))) ∨ (v1 = 0 ∧ ¬ τ 31 6 = 0 ∧ σ2 30 1 = τ 38 1) ∨ (v1 = 1 ∧ ¬ τ 39 6 = 0 ∧ σ2 30 1 = τ 46 1) := q3_3
  replace q3_4 : ((r4 = -1 ∧ ¬ (v1 = 0 ∨ v1 = 1) ∧ ∀ c j, σ2 c j = τ c j) ∨ (r4 = -2 ∧ ((v1 = 0 ∧ τ 31 6 = 0) ∨ (v1 = 1 ∧ τ 39 6 = 0)) ∧ ∀ c j, σ2 c j = τ c j) ∨ (v1 = 0 ∧ ¬ τ 31 6 = 0 ∧ CPY 23 31 τ σ2 ∧ r4 = σ2 24 0) ∨ (v1 = 1 ∧ ¬ τ 39 6 = 0 ∧ CPY 23 39 τ σ2 ∧ r4 = σ2 24 0)) := q3_4
  refine j_st (st' := [vI r4]) rfl ?_
  have y5 : σ2 10 10 = τ 10 10 := (hGσ2 10 10 (show ¬ ((23 ≤ 10 ∧ 10 < 31)) from by omega))
  have f6 : (0 : Int) ≤ τ 10 10 ∧ τ 10 10 ≤ 400 := hIτ 10 10
  have bσ2 : BY σ2 := BY_kept bτ (fun j => hGσ2 11 j (show ¬ ((23 ≤ 11 ∧ 11 < 31)) from by omega)) (fun j => hGσ2 98 j (show ¬ ((23 ≤ 98 ∧ 98 < 31)) from by omega)) (by omega)
  have mσ2 : mI σ2 := mI_kept mτ (fun j hj => hGσ2 89 j (show ¬ ((23 ≤ 89 ∧ 89 < 31)) from by omega)) (fun j => hGσ2 90 j (show ¬ ((23 ≤ 90 ∧ 90 < 31)) from by omega)) (hGσ2 91 0 (show ¬ ((23 ≤ 91 ∧ 91 < 31)) from by omega)) hIτ
  have sσ2 : SR σ2 := SR_kept sτ (fun c j h => hGσ2 c j (show ¬ ((23 ≤ c ∧ c < 31)) from by omega)) (fun j => hGσ2 104 j (show ¬ ((23 ≤ 104 ∧ 104 < 31)) from by omega)) (fun j => hGσ2 105 j (show ¬ ((23 ≤ 105 ∧ 105 < 31)) from by omega))
  refine j_pop (pc := 1163) dL_law_1163 rfl ?_
  refine j_aload_n (pc := 1164) dL_law_1164 rfl rfl ?_
  refine j_aload_n (pc := 1165) dL_law_1165 rfl rfl ?_
  refine j_iload_n (pc := 1166) dL_law_1166 rfl rfl ?_
  refine j_iconst (pc := 1167) dL_law_1167 ?_
  refine j_iadd (pc := 1168) dL_law_1168 ?_
  refine j_scrAt (pc := 1169) dL_law_1169 (by omega) (by omega) (by omega) ?_
  refine j_topV (show _ = v1 from ev1.symm) ?_
  refine j_callV (pc := 1170) (As := [vI v1]) (st := []) (c_X12_back hM v1 ⟨by omega, by omega⟩ σ2 hIσ2 mσ2) mv_L_156 rfl rfl rfl (a_88 hM) dL_law_1170 ⟨Nat.le_of_ble_eq_true rfl, Nat.le_of_ble_eq_true rfl⟩ ⟨Nat.le_of_ble_eq_true rfl, Nat.le_of_ble_eq_true rfl⟩ rfl (Nat.le_of_ble_eq_true rfl) rfl (fun z7 σ8 hz7 => ?_)
  obtain ⟨r10, rfl, hr10, hIσ8, hGσ8, q9_0, q9_1, q9_2, q9_3, q9_4, q9_5⟩ := hz7
  replace q9_0 : mI σ8 := q9_0
  replace q9_1 : (σ8 89 93 = σ2 89 93 ∧ (¬ (v1 = 0 ∨ v1 = 1) ∨ (v1 = 0 ∧ σ2 90 0 = 0) ∨ (v1 = 1 ∧ σ2 90 1 = 0))) ∨ (v1 = 0 ∧ ¬ σ2 90 0 = 0 ∧ σ8 89 93 = σ2 89 193) ∨ (v1 = 1 ∧ ¬ σ2 90 1 = 0 ∧ σ8 89 93 = σ2 89 293) := q9_1
  have y11 : σ2 89 93 = τ 89 93 := (hGσ2 89 93 (show ¬ ((23 ≤ 89 ∧ 89 < 31)) from by omega))
  have f12 : (0 : Int) ≤ τ 89 93 ∧ τ 89 93 ≤ 999 := hIτ 89 93
  have y13 : σ2 90 0 = τ 90 0 := (hGσ2 90 0 (show ¬ ((23 ≤ 90 ∧ 90 < 31)) from by omega))
  have f14 : (0 : Int) ≤ τ 90 0 ∧ τ 90 0 ≤ 1 := hIτ 90 0
  have y15 : σ2 90 1 = τ 90 1 := (hGσ2 90 1 (show ¬ ((23 ≤ 90 ∧ 90 < 31)) from by omega))
  have f16 : (0 : Int) ≤ τ 90 1 ∧ τ 90 1 ≤ 1 := hIτ 90 1
  have y17 : σ2 89 193 = τ 89 193 := (hGσ2 89 193 (show ¬ ((23 ≤ 89 ∧ 89 < 31)) from by omega))
  have f18 : (0 : Int) ≤ τ 89 193 ∧ τ 89 193 ≤ 999 := hIτ 89 193
  have y19 : σ2 89 293 = τ 89 293 := (hGσ2 89 293 (show ¬ ((23 ≤ 89 ∧ 89 < 31)) from by omega))
  have f20 : (0 : Int) ≤ τ 89 293 ∧ τ 89 293 ≤ 999 := hIτ 89 293
  replace q9_2 : (σ8 89 94 = σ2 89 94 ∧ (¬ (v1 = 0 ∨ v1 = 1) ∨ (v1 = 0 ∧ σ2 90 0 = 0) ∨ (v1 = 1 ∧ σ2 90 1 = 0))) ∨ (v1 = 0 ∧ ¬ σ2 90 0 = 0 ∧ σ8 89 94 = σ2 89 194) ∨ (v1 = 1 ∧ ¬ σ2 90 1 = 0 ∧ σ8 89 94 = σ2 89 294) := q9_2
  have y21 : σ2 89 94 = τ 89 94 := (hGσ2 89 94 (show ¬ ((23 ≤ 89 ∧ 89 < 31)) from by omega))
  have f22 : (-2147483648 : Int) ≤ τ 89 94 ∧ τ 89 94 ≤ 2147483647 := hIτ 89 94
  have y23 : σ2 90 0 = τ 90 0 := (hGσ2 90 0 (show ¬ ((23 ≤ 90 ∧ 90 < 31)) from by omega))
  have y24 : σ2 90 1 = τ 90 1 := (hGσ2 90 1 (show ¬ ((23 ≤ 90 ∧ 90 < 31)) from by omega))
  have y25 : σ2 89 194 = τ 89 194 := (hGσ2 89 194 (show ¬ ((23 ≤ 89 ∧ 89 < 31)) from by omega))
  have f26 : (-2147483648 : Int) ≤ τ 89 194 ∧ τ 89 194 ≤ 2147483647 := hIτ 89 194
  have y27 : σ2 89 294 = τ 89 294 := (hGσ2 89 294 (show ¬ ((23 ≤ 89 ∧ 89 < 31)) from by omega))
  have f28 : (-2147483648 : Int) ≤ τ 89 294 ∧ τ 89 294 ≤ 2147483647 := hIτ 89 294
  replace q9_3 : (σ8 89 95 = σ2 89 95 ∧ (¬ (v1 = 0 ∨ v1 = 1) ∨ (v1 = 0 ∧ σ2 90 0 = 0) ∨ (v1 = 1 ∧ σ2 90 1 = 0))) ∨ (v1 = 0 ∧ ¬ σ2 90 0 = 0 ∧ σ8 89 95 = σ2 89 195) ∨ (v1 = 1 ∧ ¬ σ2 90 1 = 0 ∧ σ8 89 95 = σ2 89 295) := q9_3
  have y29 : σ2 89 95 = τ 89 95 := (hGσ2 89 95 (show ¬ ((23 ≤ 89 ∧ 89 < 31)) from by omega))
  have f30 : (0 : Int) ≤ τ 89 95 ∧ τ 89 95 ≤ 999 := hIτ 89 95
  have y31 : σ2 90 0 = τ 90 0 := (hGσ2 90 0 (show ¬ ((23 ≤ 90 ∧ 90 < 31)) from by omega))
  have y32 : σ2 90 1 = τ 90 1 := (hGσ2 90 1 (show ¬ ((23 ≤ 90 ∧ 90 < 31)) from by omega))
  have y33 : σ2 89 195 = τ 89 195 := (hGσ2 89 195 (show ¬ ((23 ≤ 89 ∧ 89 < 31)) from by omega))
  have f34 : (0 : Int) ≤ τ 89 195 ∧ τ 89 195 ≤ 999 := hIτ 89 195
  have y35 : σ2 89 295 = τ 89 295 := (hGσ2 89 295 (show ¬ ((23 ≤ 89 ∧ 89 < 31)) from by omega))
  have f36 : (0 : Int) ≤ τ 89 295 ∧ τ 89 295 ≤ 999 := hIτ 89 295
  replace q9_4 : (σ8 89 96 = σ2 89 96 ∧ (¬ (v1 = 0 ∨ v1 = 1) ∨ (v1 = 0 ∧ σ2 90 0 = 0) ∨ (v1 = 1 ∧ σ2 90 1 = 0))) ∨ (v1 = 0 ∧ ¬ σ2 90 0 = 0 ∧ σ8 89 96 = σ2 89 196) ∨ (v1 = 1 ∧ ¬ σ2 90 1 = 0 ∧ σ8 89 96 = σ2 89 296) := q9_4
  have y37 : σ2 89 96 = τ 89 96 := (hGσ2 89 96 (show ¬ ((23 ≤ 89 ∧ 89 < 31)) from by omega))
  have f38 : (-2147483648 : Int) ≤ τ 89 96 ∧ τ 89 96 ≤ 2147483647 := hIτ 89 96
  have y39 : σ2 90 0 = τ 90 0 := (hGσ2 90 0 (show ¬ ((23 ≤ 90 ∧ 90 < 31)) from by omega))
  have y40 : σ2 90 1 = τ 90 1 := (hGσ2 90 1 (show ¬ ((23 ≤ 90 ∧ 90 < 31)) from by omega))
  have y41 : σ2 89 196 = τ 89 196 := (hGσ2 89 196 (show ¬ ((23 ≤ 89 ∧ 89 < 31)) from by omega))
  have f42 : (-2147483648 : Int) ≤ τ 89 196 ∧ τ 89 196 ≤ 2147483647 := hIτ 89 196
  have y43 : σ2 89 296 = τ 89 296 := (hGσ2 89 296 (show ¬ ((23 ≤ 89 ∧ 89 < 31)) from by omega))
  have f44 : (-2147483648 : Int) ≤ τ 89 296 ∧ τ 89 296 ≤ 2147483647 := hIτ 89 296
  replace q9_5 : ((r10 = -1 ∧ ¬ (v1 = 0 ∨ v1 = 1) ∧ ∀ c j, σ8 c j = σ2 c j) ∨ (r10 = -2 ∧ (v1 = 0 ∨ v1 = 1) ∧ σ2 90 v1.toNat = 0 ∧ ∀ c j, σ8 c j = σ2 c j) ∨ ((v1 = 0 ∨ v1 = 1) ∧ ¬ σ2 90 v1.toNat = 0 ∧ (∀ j : Int, 0 ≤ j → j < 97 → σ8 89 j.toNat = σ2 89 (100 + 100 * v1 + j).toNat) ∧ σ8 91 5 = σ2 89 (197 + 100 * v1).toNat ∧ σ8 91 6 = σ2 89 (198 + 100 * v1).toNat ∧ r10 = cnt (gM 0 σ8) (σ2 91 0).toNat)) := q9_5
  have y45 : σ2 90 (v1.toNat) = τ 90 (v1.toNat) := (hGσ2 90 (v1.toNat) (show ¬ ((23 ≤ 90 ∧ 90 < 31)) from by omega))
  have y46 : σ2 89 ((197 + 100 * v1).toNat) = τ 89 ((197 + 100 * v1).toNat) := (hGσ2 89 ((197 + 100 * v1).toNat) (show ¬ ((23 ≤ 89 ∧ 89 < 31)) from by omega))
  have y47 : σ2 89 ((198 + 100 * v1).toNat) = τ 89 ((198 + 100 * v1).toNat) := (hGσ2 89 ((198 + 100 * v1).toNat) (show ¬ ((23 ≤ 89 ∧ 89 < 31)) from by omega))
  have y48 : σ2 91 0 = τ 91 0 := (hGσ2 91 0 (show ¬ ((23 ≤ 91 ∧ 91 < 31)) from by omega))
  have f49 : (1 : Int) ≤ τ 91 0 ∧ τ 91 0 ≤ 40 := hIτ 91 0
  refine j_st (st' := [vI r10]) rfl ?_
  have y50 : σ8 10 10 = τ 10 10 := ((hGσ8 10 10 (show ¬ ((10 = 89 ∧ 10 < 100) ∨ (10 = 91 ∧ (10 = 5 ∨ 10 = 6))) from by omega))).trans (hGσ2 10 10 (show ¬ ((23 ≤ 10 ∧ 10 < 31)) from by omega))
  have bσ8 : BY σ8 := BY_kept bσ2 (fun j => hGσ8 11 j (show ¬ ((11 = 89 ∧ j < 100) ∨ (11 = 91 ∧ (j = 5 ∨ j = 6))) from by omega)) (fun j => hGσ8 98 j (show ¬ ((98 = 89 ∧ j < 100) ∨ (98 = 91 ∧ (j = 5 ∨ j = 6))) from by omega)) (by omega)
  have mσ8 : mI σ8 := q9_0
  have sσ8 : SR σ8 := SR_kept sσ2 (fun c j h => hGσ8 c j (show ¬ ((c = 89 ∧ j < 100) ∨ (c = 91 ∧ (j = 5 ∨ j = 6))) from by omega)) (fun j => hGσ8 104 j (show ¬ ((104 = 89 ∧ j < 100) ∨ (104 = 91 ∧ (j = 5 ∨ j = 6))) from by omega)) (fun j => hGσ8 105 j (show ¬ ((105 = 89 ∧ j < 100) ∨ (105 = 91 ∧ (j = 5 ∨ j = 6))) from by omega))
  have ht9 : (1 : Int) ≤ τ 91 0 ∧ τ 91 0 ≤ 40 := hIτ 91 0
  have st9 := ST_back stτ ht9 ⟨kτ0, kτ1⟩ q3_4 q9_5 (fun c j h => hGσ2 c j (show ¬ ((23 ≤ c ∧ c < 31)) from by omega)) (fun c j h1 h2 => hGσ8 c j (show ¬ ((c = 89 ∧ j < 100) ∨ (c = 91 ∧ (j = 5 ∨ j = 6))) from by omega))
  have rr9 := st9.2
  clear q3_4 q9_5
  refine j_pop (pc := 1173) dL_law_1173 rfl ?_
  refine j_goto (pc := 1174) (tgt := 1352) dL_law_1174 rfl ?_
  have y51 : σ8 10 10 = τ 10 10 := ((hGσ8 10 10 (show ¬ ((10 = 89 ∧ 10 < 100) ∨ (10 = 91 ∧ (10 = 5 ∨ 10 = 6))) from by omega))).trans (hGσ2 10 10 (show ¬ ((23 ≤ 10 ∧ 10 < 31)) from by omega))
  have y52 : σ8 88 12 = τ 88 12 := ((hGσ8 88 12 (show ¬ ((88 = 89 ∧ 12 < 100) ∨ (88 = 91 ∧ (12 = 5 ∨ 12 = 6))) from by omega))).trans (hGσ2 88 12 (show ¬ ((23 ≤ 88 ∧ 88 < 31)) from by omega))
  have f53 : (0 : Int) ≤ τ 88 12 ∧ τ 88 12 ≤ 400 := hIτ 88 12
  have y54 : σ8 0 13 = τ 0 13 := ((hGσ8 0 13 (show ¬ ((0 = 89 ∧ 13 < 100) ∨ (0 = 91 ∧ (13 = 5 ∨ 13 = 6))) from by omega))).trans (hGσ2 0 13 (show ¬ ((23 ≤ 0 ∧ 0 < 31)) from by omega))
  have f55 : (-2147483648 : Int) ≤ τ 0 13 ∧ τ 0 13 ≤ 2147483647 := hIτ 0 13
  have y56 : σ8 88 17 = τ 88 17 := ((hGσ8 88 17 (show ¬ ((88 = 89 ∧ 17 < 100) ∨ (88 = 91 ∧ (17 = 5 ∨ 17 = 6))) from by omega))).trans (hGσ2 88 17 (show ¬ ((23 ≤ 88 ∧ 88 < 31)) from by omega))
  have f57 : (0 : Int) ≤ τ 88 17 ∧ τ 88 17 ≤ 5 := hIτ 88 17
  have y58 : σ8 31 6 = τ 31 6 := ((hGσ8 31 6 (show ¬ ((31 = 89 ∧ 6 < 100) ∨ (31 = 91 ∧ (6 = 5 ∨ 6 = 6))) from by omega))).trans (hGσ2 31 6 (show ¬ ((23 ≤ 31 ∧ 31 < 31)) from by omega))
  have f59 : (0 : Int) ≤ τ 31 6 ∧ τ 31 6 ≤ 1 := hIτ 31 6
  have y60 : σ8 39 6 = τ 39 6 := ((hGσ8 39 6 (show ¬ ((39 = 89 ∧ 6 < 100) ∨ (39 = 91 ∧ (6 = 5 ∨ 6 = 6))) from by omega))).trans (hGσ2 39 6 (show ¬ ((23 ≤ 39 ∧ 39 < 31)) from by omega))
  have f61 : (0 : Int) ≤ τ 39 6 ∧ τ 39 6 ≤ 1 := hIτ 39 6
  have y62 : σ8 90 0 = τ 90 0 := ((hGσ8 90 0 (show ¬ ((90 = 89 ∧ 0 < 100) ∨ (90 = 91 ∧ (0 = 5 ∨ 0 = 6))) from by omega))).trans (hGσ2 90 0 (show ¬ ((23 ≤ 90 ∧ 90 < 31)) from by omega))
  have y63 : σ8 90 1 = τ 90 1 := ((hGσ8 90 1 (show ¬ ((90 = 89 ∧ 1 < 100) ∨ (90 = 91 ∧ (1 = 5 ∨ 1 = 6))) from by omega))).trans (hGσ2 90 1 (show ¬ ((23 ≤ 90 ∧ 90 < 31)) from by omega))
  obtain ⟨t0, t1, t2, t3, t4, t5, t6, t7, t8, t9, t10, t11, t12, t13, t14, t15, t16, t17⟩ := tτ
  have y64 : σ8 29 0 = σ2 29 0 := (hGσ8 29 0 (show ¬ ((29 = 89 ∧ 0 < 100) ∨ (29 = 91 ∧ (0 = 5 ∨ 0 = 6))) from by omega))
  have f65 : (0 : Int) ≤ σ2 29 0 ∧ σ2 29 0 ≤ 999 := hIσ2 29 0
  have y66 : σ8 30 0 = σ2 30 0 := (hGσ8 30 0 (show ¬ ((30 = 89 ∧ 0 < 100) ∨ (30 = 91 ∧ (0 = 5 ∨ 0 = 6))) from by omega))
  have f67 : (-2147483648 : Int) ≤ σ2 30 0 ∧ σ2 30 0 ≤ 2147483647 := hIσ2 30 0
  have y68 : σ8 29 1 = σ2 29 1 := (hGσ8 29 1 (show ¬ ((29 = 89 ∧ 1 < 100) ∨ (29 = 91 ∧ (1 = 5 ∨ 1 = 6))) from by omega))
  have f69 : (0 : Int) ≤ σ2 29 1 ∧ σ2 29 1 ≤ 999 := hIσ2 29 1
  have y70 : σ8 30 1 = σ2 30 1 := (hGσ8 30 1 (show ¬ ((30 = 89 ∧ 1 < 100) ∨ (30 = 91 ∧ (1 = 5 ∨ 1 = 6))) from by omega))
  have f71 : (-2147483648 : Int) ≤ σ2 30 1 ∧ σ2 30 1 ≤ 2147483647 := hIσ2 30 1
  have y72 : σ8 37 0 = τ 37 0 := ((hGσ8 37 0 (show ¬ ((37 = 89 ∧ 0 < 100) ∨ (37 = 91 ∧ (0 = 5 ∨ 0 = 6))) from by omega))).trans (hGσ2 37 0 (show ¬ ((23 ≤ 37 ∧ 37 < 31)) from by omega))
  have f73 : (0 : Int) ≤ τ 37 0 ∧ τ 37 0 ≤ 999 := hIτ 37 0
  have y74 : σ8 38 0 = τ 38 0 := ((hGσ8 38 0 (show ¬ ((38 = 89 ∧ 0 < 100) ∨ (38 = 91 ∧ (0 = 5 ∨ 0 = 6))) from by omega))).trans (hGσ2 38 0 (show ¬ ((23 ≤ 38 ∧ 38 < 31)) from by omega))
  have f75 : (-2147483648 : Int) ≤ τ 38 0 ∧ τ 38 0 ≤ 2147483647 := hIτ 38 0
  have y76 : σ8 37 1 = τ 37 1 := ((hGσ8 37 1 (show ¬ ((37 = 89 ∧ 1 < 100) ∨ (37 = 91 ∧ (1 = 5 ∨ 1 = 6))) from by omega))).trans (hGσ2 37 1 (show ¬ ((23 ≤ 37 ∧ 37 < 31)) from by omega))
  have f77 : (0 : Int) ≤ τ 37 1 ∧ τ 37 1 ≤ 999 := hIτ 37 1
  have y78 : σ8 38 1 = τ 38 1 := ((hGσ8 38 1 (show ¬ ((38 = 89 ∧ 1 < 100) ∨ (38 = 91 ∧ (1 = 5 ∨ 1 = 6))) from by omega))).trans (hGσ2 38 1 (show ¬ ((23 ≤ 38 ∧ 38 < 31)) from by omega))
  have f79 : (-2147483648 : Int) ≤ τ 38 1 ∧ τ 38 1 ≤ 2147483647 := hIτ 38 1
  have y80 : σ8 45 0 = τ 45 0 := ((hGσ8 45 0 (show ¬ ((45 = 89 ∧ 0 < 100) ∨ (45 = 91 ∧ (0 = 5 ∨ 0 = 6))) from by omega))).trans (hGσ2 45 0 (show ¬ ((23 ≤ 45 ∧ 45 < 31)) from by omega))
  have f81 : (0 : Int) ≤ τ 45 0 ∧ τ 45 0 ≤ 999 := hIτ 45 0
  have y82 : σ8 46 0 = τ 46 0 := ((hGσ8 46 0 (show ¬ ((46 = 89 ∧ 0 < 100) ∨ (46 = 91 ∧ (0 = 5 ∨ 0 = 6))) from by omega))).trans (hGσ2 46 0 (show ¬ ((23 ≤ 46 ∧ 46 < 31)) from by omega))
  have f83 : (-2147483648 : Int) ≤ τ 46 0 ∧ τ 46 0 ≤ 2147483647 := hIτ 46 0
  have y84 : σ8 45 1 = τ 45 1 := ((hGσ8 45 1 (show ¬ ((45 = 89 ∧ 1 < 100) ∨ (45 = 91 ∧ (1 = 5 ∨ 1 = 6))) from by omega))).trans (hGσ2 45 1 (show ¬ ((23 ≤ 45 ∧ 45 < 31)) from by omega))
  have f85 : (0 : Int) ≤ τ 45 1 ∧ τ 45 1 ≤ 999 := hIτ 45 1
  have y86 : σ8 46 1 = τ 46 1 := ((hGσ8 46 1 (show ¬ ((46 = 89 ∧ 1 < 100) ∨ (46 = 91 ∧ (1 = 5 ∨ 1 = 6))) from by omega))).trans (hGσ2 46 1 (show ¬ ((23 ≤ 46 ∧ 46 < 31)) from by omega))
  have f87 : (-2147483648 : Int) ≤ τ 46 1 ∧ τ 46 1 ≤ 2147483647 := hIτ 46 1
  have u193 : σ8 89 193 = τ 89 193 := ((hGσ8 89 193 (show ¬ ((89 = 89 ∧ 193 < 100) ∨ (89 = 91 ∧ (193 = 5 ∨ 193 = 6))) from by omega))).trans (hGσ2 89 193 (show ¬ ((23 ≤ 89 ∧ 89 < 31)) from by omega))
  have u194 : σ8 89 194 = τ 89 194 := ((hGσ8 89 194 (show ¬ ((89 = 89 ∧ 194 < 100) ∨ (89 = 91 ∧ (194 = 5 ∨ 194 = 6))) from by omega))).trans (hGσ2 89 194 (show ¬ ((23 ≤ 89 ∧ 89 < 31)) from by omega))
  have u195 : σ8 89 195 = τ 89 195 := ((hGσ8 89 195 (show ¬ ((89 = 89 ∧ 195 < 100) ∨ (89 = 91 ∧ (195 = 5 ∨ 195 = 6))) from by omega))).trans (hGσ2 89 195 (show ¬ ((23 ≤ 89 ∧ 89 < 31)) from by omega))
  have u196 : σ8 89 196 = τ 89 196 := ((hGσ8 89 196 (show ¬ ((89 = 89 ∧ 196 < 100) ∨ (89 = 91 ∧ (196 = 5 ∨ 196 = 6))) from by omega))).trans (hGσ2 89 196 (show ¬ ((23 ≤ 89 ∧ 89 < 31)) from by omega))
  have u293 : σ8 89 293 = τ 89 293 := ((hGσ8 89 293 (show ¬ ((89 = 89 ∧ 293 < 100) ∨ (89 = 91 ∧ (293 = 5 ∨ 293 = 6))) from by omega))).trans (hGσ2 89 293 (show ¬ ((23 ≤ 89 ∧ 89 < 31)) from by omega))
  have u294 : σ8 89 294 = τ 89 294 := ((hGσ8 89 294 (show ¬ ((89 = 89 ∧ 294 < 100) ∨ (89 = 91 ∧ (294 = 5 ∨ 294 = 6))) from by omega))).trans (hGσ2 89 294 (show ¬ ((23 ≤ 89 ∧ 89 < 31)) from by omega))
  have u295 : σ8 89 295 = τ 89 295 := ((hGσ8 89 295 (show ¬ ((89 = 89 ∧ 295 < 100) ∨ (89 = 91 ∧ (295 = 5 ∨ 295 = 6))) from by omega))).trans (hGσ2 89 295 (show ¬ ((23 ≤ 89 ∧ 89 < 31)) from by omega))
  have u296 : σ8 89 296 = τ 89 296 := ((hGσ8 89 296 (show ¬ ((89 = 89 ∧ 296 < 100) ∨ (89 = 91 ∧ (296 = 5 ∨ 296 = 6))) from by omega))).trans (hGσ2 89 296 (show ¬ ((23 ≤ 89 ∧ 89 < 31)) from by omega))
  exact K σ8 hIσ8 ⟨mσ8, by omega, sσ8, bσ8, by omega, by omega, by omega, ⟨by clear t1 t2 t3 t5 t6 t7 t9 t10 t11 t12 t13 t14 t15 t16 t17 q3_1 q3_2 q3_3 q9_2 q9_3 q9_4; omega, by clear t0 t2 t3 t4 t6 t7 t8 t10 t11 t12 t13 t14 t15 t16 t17 q3_0 q3_2 q3_3 q9_1 q9_3 q9_4; omega, by clear t0 t1 t3 t4 t5 t7 t8 t9 t11 t12 t13 t14 t15 t16 t17 q3_0 q3_1 q3_3 q9_1 q9_2 q9_4; omega, by clear t0 t1 t2 t4 t5 t6 t8 t9 t10 t12 t13 t14 t15 t16 t17 q3_0 q3_1 q3_2 q9_1 q9_2 q9_3; omega, by clear t1 t2 t3 t5 t6 t7 t9 t10 t11 t12 t13 t14 t15 t16 t17 q3_0 q3_1 q3_2 q3_3 q9_1 q9_2 q9_3 q9_4; omega, by clear t0 t2 t3 t4 t6 t7 t8 t10 t11 t12 t13 t14 t15 t16 t17 q3_0 q3_1 q3_2 q3_3 q9_1 q9_2 q9_3 q9_4; omega, by clear t0 t1 t3 t4 t5 t7 t8 t9 t11 t12 t13 t14 t15 t16 t17 q3_0 q3_1 q3_2 q3_3 q9_1 q9_2 q9_3 q9_4; omega, by clear t0 t1 t2 t4 t5 t6 t8 t9 t10 t12 t13 t14 t15 t16 t17 q3_0 q3_1 q3_2 q3_3 q9_1 q9_2 q9_3 q9_4; omega, by clear t1 t2 t3 t5 t6 t7 t9 t10 t11 t12 t13 t14 t15 t16 t17 q3_0 q3_1 q3_2 q3_3 q9_1 q9_2 q9_3 q9_4; omega, by clear t0 t2 t3 t4 t6 t7 t8 t10 t11 t12 t13 t14 t15 t16 t17 q3_0 q3_1 q3_2 q3_3 q9_1 q9_2 q9_3 q9_4; omega, by clear t0 t1 t3 t4 t5 t7 t8 t9 t11 t12 t13 t14 t15 t16 t17 q3_0 q3_1 q3_2 q3_3 q9_1 q9_2 q9_3 q9_4; omega, by clear t0 t1 t2 t4 t5 t6 t8 t9 t10 t12 t13 t14 t15 t16 t17 q3_0 q3_1 q3_2 q3_3 q9_1 q9_2 q9_3 q9_4; omega, by clear t2 t3 t6 t7 t10 t11 t13 t15 t17 q3_2 q3_3 q9_3 q9_4; omega, by clear t0 t1 t4 t5 t8 t9 t12 t14 t16 q3_0 q3_1 q9_1 q9_2; omega, by clear t2 t3 t6 t7 t10 t11 t13 t15 t17 q3_0 q3_1 q3_2 q3_3 q9_1 q9_2 q9_3 q9_4; omega, by clear t0 t1 t4 t5 t8 t9 t12 t14 t16 q3_0 q3_1 q3_2 q3_3 q9_1 q9_2 q9_3 q9_4; omega, by clear t2 t3 t6 t7 t10 t11 t13 t15 t17 q3_0 q3_1 q3_2 q3_3 q9_1 q9_2 q9_3 q9_4; omega, by clear t0 t1 t4 t5 t8 t9 t12 t14 t16 q3_0 q3_1 q3_2 q3_3 q9_1 q9_2 q9_3 q9_4; omega⟩, st9.1⟩
