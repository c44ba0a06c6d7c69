set_option maxHeartbeats 4000000 in
set_option maxRecDepth 100000 in
theorem w_case_7 {G : tw_G} (hX : tw_isX G) (hM : tw_isM G) {E : List Frame → Array Value → State → State → Prop} (hN : (gN G : Int) ≤ 2560) (i : Int) (hi : 0 ≤ i ∧ i + 5 ≤ (gN G : Int)) (τ : tw_M) (hIτ : tw_I τ) (hL : tw_LI τ) (K : ∀ τ' : tw_M, tw_I τ' → tw_LI τ' → tw_J G tw_ML E 1352 [(0, vR 300), (1, vR 0), (2, vR 88), (3, vI i)] [] τ') : tw_J G tw_ML E 391 [(0, vR 300), (1, vR 0), (2, vR 88), (3, vI i)] [] τ := by
  obtain ⟨mτ, zτ, sτ, bτ, fτ, kτ0, kτ1, tτ, stτ⟩ := hL
  have g9 : (0 : Int) ≤ τ 10 10 ∧ τ 10 10 ≤ 400 := hIτ 10 10
  obtain ⟨v1, ev1⟩ : ∃ v : Int, v = (gxs G (i + 1).toNat).toInt := ⟨_, rfl⟩
  have hv1 : (-2147483648 : Int) ≤ v1 ∧ v1 ≤ 2147483647 := by rw [ev1]; exact i32_in _
  obtain ⟨v2, ev2⟩ : ∃ v : Int, v = (gxs G (i + 2).toNat).toInt := ⟨_, rfl⟩
  have hv2 : (-2147483648 : Int) ≤ v2 ∧ v2 ≤ 2147483647 := by rw [ev2]; exact i32_in _
  obtain ⟨v3, ev3⟩ : ∃ v : Int, v = (gxs G (i + 3).toNat).toInt := ⟨_, rfl⟩
  have hv3 : (-2147483648 : Int) ≤ v3 ∧ v3 ≤ 2147483647 := by rw [ev3]; exact i32_in _
  obtain ⟨v4, ev4⟩ : ∃ v : Int, v = (gxs G (i + 4).toNat).toInt := ⟨_, rfl⟩
  have hv4 : (-2147483648 : Int) ≤ v4 ∧ v4 ≤ 2147483647 := by rw [ev4]; exact i32_in _
  refine j_aload_n (pc := 391) dL_law_391 rfl rfl ?_
  refine j_aload_n (pc := 392) dL_law_392 rfl rfl ?_
  refine j_iload_n (pc := 393) dL_law_393 rfl rfl ?_
  refine j_iconst (pc := 394) dL_law_394 ?_
  refine j_iadd (pc := 395) dL_law_395 ?_
  refine j_scrAt (pc := 396) dL_law_396 (by omega) (by omega) (by omega) ?_
  refine j_topV (show _ = v1 from ev1.symm) ?_
  refine j_callV (pc := 397) (As := [vI v1]) (st := []) (c_X11_take hX v1 ⟨by omega, by omega⟩ τ hIτ) mv_L_47 rfl rfl rfl (a_0 hX) dL_law_397 ⟨Nat.le_of_ble_eq_true rfl, Nat.le_of_ble_eq_true rfl⟩ ⟨Nat.le_of_ble_eq_true rfl, Nat.le_of_ble_eq_true rfl⟩ rfl (Nat.le_of_ble_eq_true rfl) rfl (fun z1 σ2 hz1 => ?_)
  obtain ⟨r4, rfl, hr4, hIσ2, hGσ2, q3_0⟩ := hz1
  replace q3_0 : ∀ gg qq rk : Nat → Int, RG 24 gg qq τ → CNR rk gg 28 τ → (r4 = -1 ∧ ¬ (1 ≤ v1 ∧ v1 ≤ τ 2 0) ∧ ∀ c j, σ2 c j = τ c j) ∨ (r4 = -4 ∧ (1 ≤ v1 ∧ v1 ≤ τ 2 0) ∧ gg v1.toNat = 0 ∧ ∀ c j, σ2 c j = τ c j) ∨ ((1 ≤ v1 ∧ v1 ≤ τ 2 0) ∧ 0 < gg v1.toNat ∧ gg v1.toNat ≤ 10 ∧ r4 = gg v1.toNat ∧ RG 24 (pg gg v1.toNat 0) qq σ2 ∧ σ2 28 r4.toNat = τ 28 r4.toNat + 1 ∧ ∀ j : Nat, ¬ j = r4.toNat → σ2 28 j = τ 28 j) := q3_0
  refine j_st (st' := [vI r4]) rfl ?_
  have y5 : σ2 10 10 = τ 10 10 := (hGσ2 10 10 (show ¬ ((24 ≤ 10 ∧ 10 < 29)) from by omega))
  have f6 : (0 : Int) ≤ τ 10 10 ∧ τ 10 10 ≤ 400 := hIτ 10 10
  have bσ2 : BY σ2 := BY_kept bτ (fun j => hGσ2 11 j (show ¬ ((24 ≤ 11 ∧ 11 < 29)) from by omega)) (fun j => hGσ2 98 j (show ¬ ((24 ≤ 98 ∧ 98 < 29)) from by omega)) (by omega)
  have mσ2 : mI σ2 := mI_kept mτ (fun j hj => hGσ2 89 j (show ¬ ((24 ≤ 89 ∧ 89 < 29)) from by omega)) (fun j => hGσ2 90 j (show ¬ ((24 ≤ 90 ∧ 90 < 29)) from by omega)) (hGσ2 91 0 (show ¬ ((24 ≤ 91 ∧ 91 < 29)) from by omega)) hIτ
  have sσ2 : SR σ2 := SR_kept sτ (fun c j h => hGσ2 c j (show ¬ ((24 ≤ c ∧ c < 29)) from by omega)) (fun j => hGσ2 104 j (show ¬ ((24 ≤ 104 ∧ 104 < 29)) from by omega)) (fun j => hGσ2 105 j (show ¬ ((24 ≤ 105 ∧ 105 < 29)) from by omega))
  have tσ2 : TT σ2 := TT_kept tτ (fun c j h => hGσ2 c j (show ¬ ((24 ≤ c ∧ c < 29)) from by omega)) (fun j h => hGσ2 89 j (show ¬ ((24 ≤ 89 ∧ 89 < 29)) from by omega))
  refine j_pop (pc := 400) dL_law_400 rfl ?_
  refine j_aload_n (pc := 401) dL_law_401 rfl rfl ?_
  refine j_aload_n (pc := 402) dL_law_402 rfl rfl ?_
  refine j_iload_n (pc := 403) dL_law_403 rfl rfl ?_
  refine j_iconst (pc := 404) dL_law_404 ?_
  refine j_iadd (pc := 405) dL_law_405 ?_
  refine j_scrAt (pc := 406) dL_law_406 (by omega) (by omega) (by omega) ?_
  refine j_topV (show _ = v1 from ev1.symm) ?_
  refine j_callV (pc := 407) (As := [vI v1]) (st := []) (c_X12_take hM v1 ⟨by omega, by omega⟩ σ2 hIσ2 mσ2) mv_L_50 rfl rfl rfl (a_88 hM) dL_law_407 ⟨Nat.le_of_ble_eq_true rfl, Nat.le_of_ble_eq_true rfl⟩ ⟨Nat.le_of_ble_eq_true rfl, Nat.le_of_ble_eq_true rfl⟩ rfl (Nat.le_of_ble_eq_true rfl) rfl (fun z7 σ8 hz7 => ?_)
  obtain ⟨r10, rfl, hr10, hIσ8, hGσ8, q9_0, q9_1⟩ := hz7
  replace q9_0 : mI σ8 := q9_0
  replace q9_1 : (r10 = -1 ∧ ¬ (1 ≤ v1 ∧ v1 ≤ σ2 91 0) ∧ ∀ c j, σ8 c j = σ2 c j) ∨ (r10 = -4 ∧ (1 ≤ v1 ∧ v1 ≤ σ2 91 0) ∧ σ2 89 v1.toNat = 0 ∧ ∀ c j, σ8 c j = σ2 c j) ∨ ((1 ≤ v1 ∧ v1 ≤ σ2 91 0) ∧ 0 < σ2 89 v1.toNat ∧ r10 = σ2 89 v1.toNat ∧ r10 ≤ 10 ∧ σ8 89 v1.toNat = 0 ∧ σ8 89 (41 + v1).toNat = 0 ∧ (1000 < σ2 89 (82 + r10).toNat ∨ σ2 89 (82 + r10).toNat < 0 ∨ σ8 89 (82 + r10).toNat = σ2 89 (82 + r10).toNat + 1) ∧ ∀ j : Nat, ¬ j = v1.toNat → ¬ j = (41 + v1).toNat → ¬ j = (82 + r10).toNat → σ8 89 j = σ2 89 j) := q9_1
  have y11 : σ2 91 0 = τ 91 0 := (hGσ2 91 0 (show ¬ ((24 ≤ 91 ∧ 91 < 29)) from by omega))
  have f12 : (1 : Int) ≤ τ 91 0 ∧ τ 91 0 ≤ 40 := hIτ 91 0
  have y13 : σ2 89 (v1.toNat) = τ 89 (v1.toNat) := (hGσ2 89 (v1.toNat) (show ¬ ((24 ≤ 89 ∧ 89 < 29)) from by omega))
  have y14 : σ2 89 ((82 + r10).toNat) = τ 89 ((82 + r10).toNat) := (hGσ2 89 ((82 + r10).toNat) (show ¬ ((24 ≤ 89 ∧ 89 < 29)) from by omega))
  refine j_st (st' := [vI r10]) rfl ?_
  have y15 : σ8 10 10 = τ 10 10 := ((hGσ8 10 10 (show ¬ ((10 = 89 ∧ 10 < 93)) from by omega))).trans (hGσ2 10 10 (show ¬ ((24 ≤ 10 ∧ 10 < 29)) from by omega))
  have bσ8 : BY σ8 := BY_kept bσ2 (fun j => hGσ8 11 j (show ¬ ((11 = 89 ∧ j < 93)) from by omega)) (fun j => hGσ8 98 j (show ¬ ((98 = 89 ∧ j < 93)) from by omega)) (by omega)
  have mσ8 : mI σ8 := q9_0
  have sσ8 : SR σ8 := SR_kept sσ2 (fun c j h => hGσ8 c j (show ¬ ((c = 89 ∧ j < 93)) from by omega)) (fun j => hGσ8 104 j (show ¬ ((104 = 89 ∧ j < 93)) from by omega)) (fun j => hGσ8 105 j (show ¬ ((105 = 89 ∧ j < 93)) from by omega))
  have tσ8 : TT σ8 := TT_kept tσ2 (fun c j h => hGσ8 c j (show ¬ ((c = 89 ∧ j < 93)) from by omega)) (fun j h => hGσ8 89 j (show ¬ ((89 = 89 ∧ j < 93)) from by omega))
  have ht9 : (1 : Int) ≤ τ 91 0 ∧ τ 91 0 ≤ 40 := hIτ 91 0
  have st9 := ST_take stτ ht9 q3_0 q9_1 (fun c j h => hGσ2 c j (show ¬ ((24 ≤ c ∧ c < 29)) from by omega)) (fun c j h => hGσ8 c j (show ¬ ((c = 89 ∧ j < 93)) from by omega))
  have rr9 := st9.2
  clear q3_0 q9_1
  refine j_pop (pc := 410) dL_law_410 rfl ?_
  refine j_goto (pc := 411) (tgt := 1352) dL_law_411 rfl ?_
  have y16 : σ8 10 10 = τ 10 10 := ((hGσ8 10 10 (show ¬ ((10 = 89 ∧ 10 < 93)) from by omega))).trans (hGσ2 10 10 (show ¬ ((24 ≤ 10 ∧ 10 < 29)) from by omega))
  have y17 : σ8 88 12 = τ 88 12 := ((hGσ8 88 12 (show ¬ ((88 = 89 ∧ 12 < 93)) from by omega))).trans (hGσ2 88 12 (show ¬ ((24 ≤ 88 ∧ 88 < 29)) from by omega))
  have f18 : (0 : Int) ≤ τ 88 12 ∧ τ 88 12 ≤ 400 := hIτ 88 12
  have y19 : σ8 0 13 = τ 0 13 := ((hGσ8 0 13 (show ¬ ((0 = 89 ∧ 13 < 93)) from by omega))).trans (hGσ2 0 13 (show ¬ ((24 ≤ 0 ∧ 0 < 29)) from by omega))
  have f20 : (-2147483648 : Int) ≤ τ 0 13 ∧ τ 0 13 ≤ 2147483647 := hIτ 0 13
  have y21 : σ8 88 17 = τ 88 17 := ((hGσ8 88 17 (show ¬ ((88 = 89 ∧ 17 < 93)) from by omega))).trans (hGσ2 88 17 (show ¬ ((24 ≤ 88 ∧ 88 < 29)) from by omega))
  have f22 : (0 : Int) ≤ τ 88 17 ∧ τ 88 17 ≤ 5 := hIτ 88 17
  have y23 : σ8 31 6 = τ 31 6 := ((hGσ8 31 6 (show ¬ ((31 = 89 ∧ 6 < 93)) from by omega))).trans (hGσ2 31 6 (show ¬ ((24 ≤ 31 ∧ 31 < 29)) from by omega))
  have f24 : (0 : Int) ≤ τ 31 6 ∧ τ 31 6 ≤ 1 := hIτ 31 6
  have y25 : σ8 39 6 = τ 39 6 := ((hGσ8 39 6 (show ¬ ((39 = 89 ∧ 6 < 93)) from by omega))).trans (hGσ2 39 6 (show ¬ ((24 ≤ 39 ∧ 39 < 29)) from by omega))
  have f26 : (0 : Int) ≤ τ 39 6 ∧ τ 39 6 ≤ 1 := hIτ 39 6
  have y27 : σ8 90 0 = τ 90 0 := ((hGσ8 90 0 (show ¬ ((90 = 89 ∧ 0 < 93)) from by omega))).trans (hGσ2 90 0 (show ¬ ((24 ≤ 90 ∧ 90 < 29)) from by omega))
  have f28 : (0 : Int) ≤ τ 90 0 ∧ τ 90 0 ≤ 1 := hIτ 90 0
  have y29 : σ8 90 1 = τ 90 1 := ((hGσ8 90 1 (show ¬ ((90 = 89 ∧ 1 < 93)) from by omega))).trans (hGσ2 90 1 (show ¬ ((24 ≤ 90 ∧ 90 < 29)) from by omega))
  have f30 : (0 : Int) ≤ τ 90 1 ∧ τ 90 1 ≤ 1 := hIτ 90 1
  exact K σ8 hIσ8 ⟨mσ8, by omega, sσ8, bσ8, by omega, by omega, by omega, tσ8, st9.1⟩
set_option maxHeartbeats 4000000 in
set_option maxRecDepth 100000 in
theorem w_case_8 {G : tw_G} (hX : tw_isX G) (hM : tw_isM G) {E : List Frame → Array Value → State → State → Prop} (hN : (gN G : Int) ≤ 2560) (i : Int) (hi : 0 ≤ i ∧ i + 5 ≤ (gN G : Int)) (τ : tw_M) (hIτ : tw_I τ) (hL : tw_LI τ) (K : ∀ τ' : tw_M, tw_I τ' → tw_LI τ' → tw_J G tw_ML E 1352 [(0, vR 300), (1, vR 0), (2, vR 88), (3, vI i)] [] τ') : tw_J G tw_ML E 414 [(0, vR 300), (1, vR 0), (2, vR 88), (3, vI i)] [] τ := by
  obtain ⟨mτ, zτ, sτ, bτ, fτ, kτ0, kτ1, tτ, stτ⟩ := hL
  have g9 : (0 : Int) ≤ τ 10 10 ∧ τ 10 10 ≤ 400 := hIτ 10 10
  obtain ⟨v1, ev1⟩ : ∃ v : Int, v = (gxs G (i + 1).toNat).toInt := ⟨_, rfl⟩
  have hv1 : (-2147483648 : Int) ≤ v1 ∧ v1 ≤ 2147483647 := by rw [ev1]; exact i32_in _
  obtain ⟨v2, ev2⟩ : ∃ v : Int, v = (gxs G (i + 2).toNat).toInt := ⟨_, rfl⟩
  have hv2 : (-2147483648 : Int) ≤ v2 ∧ v2 ≤ 2147483647 := by rw [ev2]; exact i32_in _
  obtain ⟨v3, ev3⟩ : ∃ v : Int, v = (gxs G (i + 3).toNat).toInt := ⟨_, rfl⟩
  have hv3 : (-2147483648 : Int) ≤ v3 ∧ v3 ≤ 2147483647 := by rw [ev3]; exact i32_in _
  obtain ⟨v4, ev4⟩ : ∃ v : Int, v = (gxs G (i + 4).toNat).toInt := ⟨_, rfl⟩
  have hv4 : (-2147483648 : Int) ≤ v4 ∧ v4 ≤ 2147483647 := by rw [ev4]; exact i32_in _
  refine j_aload_n (pc := 414) dL_law_414 rfl rfl ?_
  refine j_aload_n (pc := 415) dL_law_415 rfl rfl ?_
  refine j_iload_n (pc := 416) dL_law_416 rfl rfl ?_
  refine j_iconst (pc := 417) dL_law_417 ?_
  refine j_iadd (pc := 418) dL_law_418 ?_
  refine j_scrAt (pc := 419) dL_law_419 (by omega) (by omega) (by omega) ?_
  refine j_topV (show _ = v1 from ev1.symm) ?_
  refine j_aload_n (pc := 420) dL_law_420 rfl rfl ?_
  refine j_iload_n (pc := 421) dL_law_421 rfl rfl ?_
  refine j_iconst (pc := 422) dL_law_422 ?_
  refine j_iadd (pc := 423) dL_law_423 ?_
  refine j_scrAt (pc := 424) dL_law_424 (by omega) (by omega) (by omega) ?_
  refine j_topV (show _ = v2 from ev2.symm) ?_
  refine j_ifR_eq (pc := 425) (tgt := 432) ⟨by omega, by omega⟩ dL_law_425 rfl (fun h1 => ?_) (fun h1 => ?_)
  · refine j_iconst (pc := 432) dL_law_432 ?_
    refine j_callV (pc := 433) (As := [vI v1, vI 0]) (st := []) (c_X11_sling hX v1 ⟨by omega, by omega⟩ 0 ⟨by omega, by omega⟩ τ hIτ) mv_L_51 rfl rfl rfl (a_0 hX) dL_law_433 ⟨Nat.le_of_ble_eq_true rfl, Nat.le_of_ble_eq_true rfl⟩ ⟨Nat.le_of_ble_eq_true rfl, Nat.le_of_ble_eq_true rfl⟩ rfl (Nat.le_of_ble_eq_true rfl) rfl (fun z2 σ3 hz2 => ?_)
    obtain ⟨r5, rfl, hr5, hIσ3, hGσ3, q4_0⟩ := hz2
    replace q4_0 : ∀ gg qq : Nat → Int, RG 24 gg qq τ → (r5 = -1 ∧ ¬ (1 ≤ v1 ∧ v1 ≤ τ 2 0) ∧ ∀ c j, σ3 c j = τ c j) ∨ (r5 = -4 ∧ (1 ≤ v1 ∧ v1 ≤ τ 2 0) ∧ gg v1.toNat = 0 ∧ ∀ c j, σ3 c j = τ c j) ∨ ((1 ≤ v1 ∧ v1 ≤ τ 2 0) ∧ 0 < gg v1.toNat ∧ r5 = qq v1.toNat ∧ RG 24 gg (pg qq v1.toNat (0 : Int)) σ3) := q4_0
    refine j_st (st' := [vI r5]) rfl ?_
    have y6 : σ3 10 10 = τ 10 10 := (hGσ3 10 10 (show ¬ (10 = 27) from by omega))
    have f7 : (0 : Int) ≤ τ 10 10 ∧ τ 10 10 ≤ 400 := hIτ 10 10
    have bσ3 : BY σ3 := BY_kept bτ (fun j => hGσ3 11 j (show ¬ (11 = 27) from by omega)) (fun j => hGσ3 98 j (show ¬ (98 = 27) from by omega)) (by omega)
    have mσ3 : mI σ3 := mI_kept mτ (fun j hj => hGσ3 89 j (show ¬ (89 = 27) from by omega)) (fun j => hGσ3 90 j (show ¬ (90 = 27) from by omega)) (hGσ3 91 0 (show ¬ (91 = 27) from by omega)) hIτ
    have sσ3 : SR σ3 := SR_kept sτ (fun c j h => hGσ3 c j (show ¬ (c = 27) from by omega)) (fun j => hGσ3 104 j (show ¬ (104 = 27) from by omega)) (fun j => hGσ3 105 j (show ¬ (105 = 27) from by omega))
    have tσ3 : TT σ3 := TT_kept tτ (fun c j h => hGσ3 c j (show ¬ (c = 27) from by omega)) (fun j h => hGσ3 89 j (show ¬ (89 = 27) from by omega))
    refine j_pop (pc := 436) dL_law_436 rfl ?_
    refine j_aload_n (pc := 437) dL_law_437 rfl rfl ?_
    refine j_aload_n (pc := 438) dL_law_438 rfl rfl ?_
    refine j_iload_n (pc := 439) dL_law_439 rfl rfl ?_
    refine j_iconst (pc := 440) dL_law_440 ?_
    refine j_iadd (pc := 441) dL_law_441 ?_
    refine j_scrAt (pc := 442) dL_law_442 (by omega) (by omega) (by omega) ?_
    refine j_topV (show _ = v1 from ev1.symm) ?_
    refine j_aload_n (pc := 443) dL_law_443 rfl rfl ?_
    refine j_iload_n (pc := 444) dL_law_444 rfl rfl ?_
    refine j_iconst (pc := 445) dL_law_445 ?_
    refine j_iadd (pc := 446) dL_law_446 ?_
    refine j_scrAt (pc := 447) dL_law_447 (by omega) (by omega) (by omega) ?_
    refine j_topV (show _ = v2 from ev2.symm) ?_
    refine j_ifR_eq (pc := 448) (tgt := 455) ⟨by omega, by omega⟩ dL_law_448 rfl (fun h8 => ?_) (fun h8 => by exfalso; omega)
    refine j_iconst (pc := 455) dL_law_455 ?_
    refine j_callV (pc := 456) (As := [vI v1, vI 0]) (st := []) (c_X12_sling hM v1 ⟨by omega, by omega⟩ 0 ⟨by omega, by omega⟩ σ3 hIσ3 mσ3) mv_L_55 rfl rfl rfl (a_88 hM) dL_law_456 ⟨Nat.le_of_ble_eq_true rfl, Nat.le_of_ble_eq_true rfl⟩ ⟨Nat.le_of_ble_eq_true rfl, Nat.le_of_ble_eq_true rfl⟩ rfl (Nat.le_of_ble_eq_true rfl) rfl (fun z9 σ10 hz9 => ?_)
    obtain ⟨r12, rfl, hr12, hIσ10, hGσ10, q11_0, q11_1⟩ := hz9
    replace q11_0 : mI σ10 := q11_0
    replace q11_1 : (r12 = -1 ∧ ¬ (1 ≤ v1 ∧ v1 ≤ σ3 91 0) ∧ ∀ c j, σ10 c j = σ3 c j) ∨ (r12 = -4 ∧ (1 ≤ v1 ∧ v1 ≤ σ3 91 0) ∧ σ3 89 v1.toNat = 0 ∧ ∀ c j, σ10 c j = σ3 c j) ∨ ((1 ≤ v1 ∧ v1 ≤ σ3 91 0) ∧ ¬ σ3 89 v1.toNat = 0 ∧ r12 = σ3 89 (41 + v1).toNat ∧ σ10 89 (41 + v1).toNat = (0 : Int) ∧ ∀ j : Nat, ¬ j = (41 + v1).toNat → σ10 89 j = σ3 89 j) := q11_1
    have y13 : σ3 91 0 = τ 91 0 := (hGσ3 91 0 (show ¬ (91 = 27) from by omega))
    have f14 : (1 : Int) ≤ τ 91 0 ∧ τ 91 0 ≤ 40 := hIτ 91 0
    have y15 : σ3 89 (v1.toNat) = τ 89 (v1.toNat) := (hGσ3 89 (v1.toNat) (show ¬ (89 = 27) from by omega))
    have y16 : σ3 89 ((41 + v1).toNat) = τ 89 ((41 + v1).toNat) := (hGσ3 89 ((41 + v1).toNat) (show ¬ (89 = 27) from by omega))
    refine j_st (st' := [vI r12]) rfl ?_
    have y17 : σ10 10 10 = τ 10 10 := ((hGσ10 10 10 (show ¬ ((10 = 89 ∧ 10 < 93)) from by omega))).trans (hGσ3 10 10 (show ¬ (10 = 27) from by omega))
    have bσ10 : BY σ10 := BY_kept bσ3 (fun j => hGσ10 11 j (show ¬ ((11 = 89 ∧ j < 93)) from by omega)) (fun j => hGσ10 98 j (show ¬ ((98 = 89 ∧ j < 93)) from by omega)) (by omega)
    have mσ10 : mI σ10 := q11_0
    have sσ10 : SR σ10 := SR_kept sσ3 (fun c j h => hGσ10 c j (show ¬ ((c = 89 ∧ j < 93)) from by omega)) (fun j => hGσ10 104 j (show ¬ ((104 = 89 ∧ j < 93)) from by omega)) (fun j => hGσ10 105 j (show ¬ ((105 = 89 ∧ j < 93)) from by omega))
    have tσ10 : TT σ10 := TT_kept tσ3 (fun c j h => hGσ10 c j (show ¬ ((c = 89 ∧ j < 93)) from by omega)) (fun j h => hGσ10 89 j (show ¬ ((89 = 89 ∧ j < 93)) from by omega))
    have ht9 : (1 : Int) ≤ τ 91 0 ∧ τ 91 0 ≤ 40 := hIτ 91 0
    have st9 : ST σ10 ∧ r5 = r12 := by first | exact ST_sling stτ ht9 q4_0 q11_1 (fun c j h => hGσ3 c j (show ¬ (c = 27) from by omega)) (fun c j h => hGσ10 c j (show ¬ ((c = 89 ∧ j < 93)) from by omega)) | (exfalso; clear q4_0 q11_1; omega)
    have rr9 := st9.2
    clear q4_0 q11_1
    refine j_pop (pc := 459) dL_law_459 rfl ?_
    refine j_goto (pc := 460) (tgt := 1352) dL_law_460 rfl ?_
    have y18 : σ10 10 10 = τ 10 10 := ((hGσ10 10 10 (show ¬ ((10 = 89 ∧ 10 < 93)) from by omega))).trans (hGσ3 10 10 (show ¬ (10 = 27) from by omega))
    have y19 : σ10 88 12 = τ 88 12 := ((hGσ10 88 12 (show ¬ ((88 = 89 ∧ 12 < 93)) from by omega))).trans (hGσ3 88 12 (show ¬ (88 = 27) from by omega))
    have f20 : (0 : Int) ≤ τ 88 12 ∧ τ 88 12 ≤ 400 := hIτ 88 12
    have y21 : σ10 0 13 = τ 0 13 := ((hGσ10 0 13 (show ¬ ((0 = 89 ∧ 13 < 93)) from by omega))).trans (hGσ3 0 13 (show ¬ (0 = 27) from by omega))
    have f22 : (-2147483648 : Int) ≤ τ 0 13 ∧ τ 0 13 ≤ 2147483647 := hIτ 0 13
    have y23 : σ10 88 17 = τ 88 17 := ((hGσ10 88 17 (show ¬ ((88 = 89 ∧ 17 < 93)) from by omega))).trans (hGσ3 88 17 (show ¬ (88 = 27) from by omega))
    have f24 : (0 : Int) ≤ τ 88 17 ∧ τ 88 17 ≤ 5 := hIτ 88 17
    have y25 : σ10 31 6 = τ 31 6 := ((hGσ10 31 6 (show ¬ ((31 = 89 ∧ 6 < 93)) from by omega))).trans (hGσ3 31 6 (show ¬ (31 = 27) from by omega))
    have f26 : (0 : Int) ≤ τ 31 6 ∧ τ 31 6 ≤ 1 := hIτ 31 6
    have y27 : σ10 39 6 = τ 39 6 := ((hGσ10 39 6 (show ¬ ((39 = 89 ∧ 6 < 93)) from by omega))).trans (hGσ3 39 6 (show ¬ (39 = 27) from by omega))
    have f28 : (0 : Int) ≤ τ 39 6 ∧ τ 39 6 ≤ 1 := hIτ 39 6
    have y29 : σ10 90 0 = τ 90 0 := ((hGσ10 90 0 (show ¬ ((90 = 89 ∧ 0 < 93)) from by omega))).trans (hGσ3 90 0 (show ¬ (90 = 27) from by omega))
    have f30 : (0 : Int) ≤ τ 90 0 ∧ τ 90 0 ≤ 1 := hIτ 90 0
    have y31 : σ10 90 1 = τ 90 1 := ((hGσ10 90 1 (show ¬ ((90 = 89 ∧ 1 < 93)) from by omega))).trans (hGσ3 90 1 (show ¬ (90 = 27) from by omega))
    have f32 : (0 : Int) ≤ τ 90 1 ∧ τ 90 1 ≤ 1 := hIτ 90 1
    exact K σ10 hIσ10 ⟨mσ10, by omega, sσ10, bσ10, by omega, by omega, by omega, tσ10, st9.1⟩
  · refine j_iconst (pc := 428) dL_law_428 ?_
    refine j_goto (pc := 429) (tgt := 433) dL_law_429 rfl ?_
    refine j_callV (pc := 433) (As := [vI v1, vI 1]) (st := []) (c_X11_sling hX v1 ⟨by omega, by omega⟩ 1 ⟨by omega, by omega⟩ τ hIτ) mv_L_51 rfl rfl rfl (a_0 hX) dL_law_433 ⟨Nat.le_of_ble_eq_true rfl, Nat.le_of_ble_eq_true rfl⟩ ⟨Nat.le_of_ble_eq_true rfl, Nat.le_of_ble_eq_true rfl⟩ rfl (Nat.le_of_ble_eq_true rfl) rfl (fun z33 σ34 hz33 => ?_)
    obtain ⟨r36, rfl, hr36, hIσ34, hGσ34, q35_0⟩ := hz33
    replace q35_0 : ∀ gg qq : Nat → Int, RG 24 gg qq τ → (r36 = -1 ∧ ¬ (1 ≤ v1 ∧ v1 ≤ τ 2 0) ∧ ∀ c j, σ34 c j = τ c j) ∨ (r36 = -4 ∧ (1 ≤ v1 ∧ v1 ≤ τ 2 0) ∧ gg v1.toNat = 0 ∧ ∀ c j, σ34 c j = τ c j) ∨ ((1 ≤ v1 ∧ v1 ≤ τ 2 0) ∧ 0 < gg v1.toNat ∧ r36 = qq v1.toNat ∧ RG 24 gg (pg qq v1.toNat (1 : Int)) σ34) := q35_0
    refine j_st (st' := [vI r36]) rfl ?_
    have y37 : σ34 10 10 = τ 10 10 := (hGσ34 10 10 (show ¬ (10 = 27) from by omega))
    have f38 : (0 : Int) ≤ τ 10 10 ∧ τ 10 10 ≤ 400 := hIτ 10 10
    have bσ34 : BY σ34 := BY_kept bτ (fun j => hGσ34 11 j (show ¬ (11 = 27) from by omega)) (fun j => hGσ34 98 j (show ¬ (98 = 27) from by omega)) (by omega)
    have mσ34 : mI σ34 := mI_kept mτ (fun j hj => hGσ34 89 j (show ¬ (89 = 27) from by omega)) (fun j => hGσ34 90 j (show ¬ (90 = 27) from by omega)) (hGσ34 91 0 (show ¬ (91 = 27) from by omega)) hIτ
    have sσ34 : SR σ34 := SR_kept sτ (fun c j h => hGσ34 c j (show ¬ (c = 27) from by omega)) (fun j => hGσ34 104 j (show ¬ (104 = 27) from by omega)) (fun j => hGσ34 105 j (show ¬ (105 = 27) from by omega))
    have tσ34 : TT σ34 := TT_kept tτ (fun c j h => hGσ34 c j (show ¬ (c = 27) from by omega)) (fun j h => hGσ34 89 j (show ¬ (89 = 27) from by omega))
    refine j_pop (pc := 436) dL_law_436 rfl ?_
    refine j_aload_n (pc := 437) dL_law_437 rfl rfl ?_
    refine j_aload_n (pc := 438) dL_law_438 rfl rfl ?_
    refine j_iload_n (pc := 439) dL_law_439 rfl rfl ?_
    refine j_iconst (pc := 440) dL_law_440 ?_
    refine j_iadd (pc := 441) dL_law_441 ?_
    refine j_scrAt (pc := 442) dL_law_442 (by omega) (by omega) (by omega) ?_
    refine j_topV (show _ = v1 from ev1.symm) ?_
    refine j_aload_n (pc := 443) dL_law_443 rfl rfl ?_
    refine j_iload_n (pc := 444) dL_law_444 rfl rfl ?_
    refine j_iconst (pc := 445) dL_law_445 ?_
    refine j_iadd (pc := 446) dL_law_446 ?_
    refine j_scrAt (pc := 447) dL_law_447 (by omega) (by omega) (by omega) ?_
    refine j_topV (show _ = v2 from ev2.symm) ?_
    refine j_ifR_eq (pc := 448) (tgt := 455) ⟨by omega, by omega⟩ dL_law_448 rfl (fun h39 => ?_) (fun h39 => ?_)
    · refine j_iconst (pc := 455) dL_law_455 ?_
      refine j_callV (pc := 456) (As := [vI v1, vI 0]) (st := []) (c_X12_sling hM v1 ⟨by omega, by omega⟩ 0 ⟨by omega, by omega⟩ σ34 hIσ34 mσ34) mv_L_55 rfl rfl rfl (a_88 hM) dL_law_456 ⟨Nat.le_of_ble_eq_true rfl, Nat.le_of_ble_eq_true rfl⟩ ⟨Nat.le_of_ble_eq_true rfl, Nat.le_of_ble_eq_true rfl⟩ rfl (Nat.le_of_ble_eq_true rfl) rfl (fun z40 σ41 hz40 => ?_)
      obtain ⟨r43, rfl, hr43, hIσ41, hGσ41, q42_0, q42_1⟩ := hz40
      replace q42_0 : mI σ41 := q42_0
      replace q42_1 : (r43 = -1 ∧ ¬ (1 ≤ v1 ∧ v1 ≤ σ34 91 0) ∧ ∀ c j, σ41 c j = σ34 c j) ∨ (r43 = -4 ∧ (1 ≤ v1 ∧ v1 ≤ σ34 91 0) ∧ σ34 89 v1.toNat = 0 ∧ ∀ c j, σ41 c j = σ34 c j) ∨ ((1 ≤ v1 ∧ v1 ≤ σ34 91 0) ∧ ¬ σ34 89 v1.toNat = 0 ∧ r43 = σ34 89 (41 + v1).toNat ∧ σ41 89 (41 + v1).toNat = (0 : Int) ∧ ∀ j : Nat, ¬ j = (41 + v1).toNat → σ41 89 j = σ34 89 j) := q42_1
      have y44 : σ34 91 0 = τ 91 0 := (hGσ34 91 0 (show ¬ (91 = 27) from by omega))
      have f45 : (1 : Int) ≤ τ 91 0 ∧ τ 91 0 ≤ 40 := hIτ 91 0
      have y46 : σ34 89 (v1.toNat) = τ 89 (v1.toNat) := (hGσ34 89 (v1.toNat) (show ¬ (89 = 27) from by omega))
      have y47 : σ34 89 ((41 + v1).toNat) = τ 89 ((41 + v1).toNat) := (hGσ34 89 ((41 + v1).toNat) (show ¬ (89 = 27) from by omega))
      refine j_st (st' := [vI r43]) rfl ?_
      have y48 : σ41 10 10 = τ 10 10 := ((hGσ41 10 10 (show ¬ ((10 = 89 ∧ 10 < 93)) from by omega))).trans (hGσ34 10 10 (show ¬ (10 = 27) from by omega))
      have bσ41 : BY σ41 := BY_kept bσ34 (fun j => hGσ41 11 j (show ¬ ((11 = 89 ∧ j < 93)) from by omega)) (fun j => hGσ41 98 j (show ¬ ((98 = 89 ∧ j < 93)) from by omega)) (by omega)
      have mσ41 : mI σ41 := q42_0
      have sσ41 : SR σ41 := SR_kept sσ34 (fun c j h => hGσ41 c j (show ¬ ((c = 89 ∧ j < 93)) from by omega)) (fun j => hGσ41 104 j (show ¬ ((104 = 89 ∧ j < 93)) from by omega)) (fun j => hGσ41 105 j (show ¬ ((105 = 89 ∧ j < 93)) from by omega))
      have tσ41 : TT σ41 := TT_kept tσ34 (fun c j h => hGσ41 c j (show ¬ ((c = 89 ∧ j < 93)) from by omega)) (fun j h => hGσ41 89 j (show ¬ ((89 = 89 ∧ j < 93)) from by omega))
      have ht9 : (1 : Int) ≤ τ 91 0 ∧ τ 91 0 ≤ 40 := hIτ 91 0
      have st9 : ST σ41 ∧ r36 = r43 := by first | exact ST_sling stτ ht9 q35_0 q42_1 (fun c j h => hGσ34 c j (show ¬ (c = 27) from by omega)) (fun c j h => hGσ41 c j (show ¬ ((c = 89 ∧ j < 93)) from by omega)) | (exfalso; clear q35_0 q42_1; omega)
      have rr9 := st9.2
      clear q35_0 q42_1
      refine j_pop (pc := 459) dL_law_459 rfl ?_
      refine j_goto (pc := 460) (tgt := 1352) dL_law_460 rfl ?_
      have y49 : σ41 10 10 = τ 10 10 := ((hGσ41 10 10 (show ¬ ((10 = 89 ∧ 10 < 93)) from by omega))).trans (hGσ34 10 10 (show ¬ (10 = 27) from by omega))
      have y50 : σ41 88 12 = τ 88 12 := ((hGσ41 88 12 (show ¬ ((88 = 89 ∧ 12 < 93)) from by omega))).trans (hGσ34 88 12 (show ¬ (88 = 27) from by omega))
      have f51 : (0 : Int) ≤ τ 88 12 ∧ τ 88 12 ≤ 400 := hIτ 88 12
      have y52 : σ41 0 13 = τ 0 13 := ((hGσ41 0 13 (show ¬ ((0 = 89 ∧ 13 < 93)) from by omega))).trans (hGσ34 0 13 (show ¬ (0 = 27) from by omega))
      have f53 : (-2147483648 : Int) ≤ τ 0 13 ∧ τ 0 13 ≤ 2147483647 := hIτ 0 13
      have y54 : σ41 88 17 = τ 88 17 := ((hGσ41 88 17 (show ¬ ((88 = 89 ∧ 17 < 93)) from by omega))).trans (hGσ34 88 17 (show ¬ (88 = 27) from by omega))
      have f55 : (0 : Int) ≤ τ 88 17 ∧ τ 88 17 ≤ 5 := hIτ 88 17
      have y56 : σ41 31 6 = τ 31 6 := ((hGσ41 31 6 (show ¬ ((31 = 89 ∧ 6 < 93)) from by omega))).trans (hGσ34 31 6 (show ¬ (31 = 27) from by omega))
      have f57 : (0 : Int) ≤ τ 31 6 ∧ τ 31 6 ≤ 1 := hIτ 31 6
      have y58 : σ41 39 6 = τ 39 6 := ((hGσ41 39 6 (show ¬ ((39 = 89 ∧ 6 < 93)) from by omega))).trans (hGσ34 39 6 (show ¬ (39 = 27) from by omega))
      have f59 : (0 : Int) ≤ τ 39 6 ∧ τ 39 6 ≤ 1 := hIτ 39 6
      have y60 : σ41 90 0 = τ 90 0 := ((hGσ41 90 0 (show ¬ ((90 = 89 ∧ 0 < 93)) from by omega))).trans (hGσ34 90 0 (show ¬ (90 = 27) from by omega))
      have f61 : (0 : Int) ≤ τ 90 0 ∧ τ 90 0 ≤ 1 := hIτ 90 0
      have y62 : σ41 90 1 = τ 90 1 := ((hGσ41 90 1 (show ¬ ((90 = 89 ∧ 1 < 93)) from by omega))).trans (hGσ34 90 1 (show ¬ (90 = 27) from by omega))
      have f63 : (0 : Int) ≤ τ 90 1 ∧ τ 90 1 ≤ 1 := hIτ 90 1
      exact K σ41 hIσ41 ⟨mσ41, by omega, sσ41, bσ41, by omega, by omega, by omega, tσ41, st9.1⟩
    · refine j_iconst (pc := 451) dL_law_451 ?_
      refine j_goto (pc := 452) (tgt := 456) dL_law_452 rfl ?_
      refine j_callV (pc := 456) (As := [vI v1, vI 1]) (st := []) (c_X12_sling hM v1 ⟨by omega, by omega⟩ 1 ⟨by omega, by omega⟩ σ34 hIσ34 mσ34) mv_L_55 rfl rfl rfl (a_88 hM) dL_law_456 ⟨Nat.le_of_ble_eq_true rfl, Nat.le_of_ble_eq_true rfl⟩ ⟨Nat.le_of_ble_eq_true rfl, Nat.le_of_ble_eq_true rfl⟩ rfl (Nat.le_of_ble_eq_true rfl) rfl (fun z64 σ65 hz64 => ?_)
      obtain ⟨r67, rfl, hr67, hIσ65, hGσ65, q66_0, q66_1⟩ := hz64
      replace q66_0 : mI σ65 := q66_0
      replace q66_1 : (r67 = -1 ∧ ¬ (1 ≤ v1 ∧ v1 ≤ σ34 91 0) ∧ ∀ c j, σ65 c j = σ34 c j) ∨ (r67 = -4 ∧ (1 ≤ v1 ∧ v1 ≤ σ34 91 0) ∧ σ34 89 v1.toNat = 0 ∧ ∀ c j, σ65 c j = σ34 c j) ∨ ((1 ≤ v1 ∧ v1 ≤ σ34 91 0) ∧ ¬ σ34 89 v1.toNat = 0 ∧ r67 = σ34 89 (41 + v1).toNat ∧ σ65 89 (41 + v1).toNat = (1 : Int) ∧ ∀ j : Nat, ¬ j = (41 + v1).toNat → σ65 89 j = σ34 89 j) := q66_1
      have y68 : σ34 91 0 = τ 91 0 := (hGσ34 91 0 (show ¬ (91 = 27) from by omega))
      have f69 : (1 : Int) ≤ τ 91 0 ∧ τ 91 0 ≤ 40 := hIτ 91 0
      have y70 : σ34 89 (v1.toNat) = τ 89 (v1.toNat) := (hGσ34 89 (v1.toNat) (show ¬ (89 = 27) from by omega))
      have y71 : σ34 89 ((41 + v1).toNat) = τ 89 ((41 + v1).toNat) := (hGσ34 89 ((41 + v1).toNat) (show ¬ (89 = 27) from by omega))
      refine j_st (st' := [vI r67]) rfl ?_
      have y72 : σ65 10 10 = τ 10 10 := ((hGσ65 10 10 (show ¬ ((10 = 89 ∧ 10 < 93)) from by omega))).trans (hGσ34 10 10 (show ¬ (10 = 27) from by omega))
      have bσ65 : BY σ65 := BY_kept bσ34 (fun j => hGσ65 11 j (show ¬ ((11 = 89 ∧ j < 93)) from by omega)) (fun j => hGσ65 98 j (show ¬ ((98 = 89 ∧ j < 93)) from by omega)) (by omega)
      have mσ65 : mI σ65 := q66_0
      have sσ65 : SR σ65 := SR_kept sσ34 (fun c j h => hGσ65 c j (show ¬ ((c = 89 ∧ j < 93)) from by omega)) (fun j => hGσ65 104 j (show ¬ ((104 = 89 ∧ j < 93)) from by omega)) (fun j => hGσ65 105 j (show ¬ ((105 = 89 ∧ j < 93)) from by omega))
      have tσ65 : TT σ65 := TT_kept tσ34 (fun c j h => hGσ65 c j (show ¬ ((c = 89 ∧ j < 93)) from by omega)) (fun j h => hGσ65 89 j (show ¬ ((89 = 89 ∧ j < 93)) from by omega))
      have ht9 : (1 : Int) ≤ τ 91 0 ∧ τ 91 0 ≤ 40 := hIτ 91 0
      have st9 : ST σ65 ∧ r36 = r67 := by first | exact ST_sling stτ ht9 q35_0 q66_1 (fun c j h => hGσ34 c j (show ¬ (c = 27) from by omega)) (fun c j h => hGσ65 c j (show ¬ ((c = 89 ∧ j < 93)) from by omega)) | (exfalso; clear q35_0 q66_1; omega)
      have rr9 := st9.2
      clear q35_0 q66_1
      refine j_pop (pc := 459) dL_law_459 rfl ?_
      refine j_goto (pc := 460) (tgt := 1352) dL_law_460 rfl ?_
      have y73 : σ65 10 10 = τ 10 10 := ((hGσ65 10 10 (show ¬ ((10 = 89 ∧ 10 < 93)) from by omega))).trans (hGσ34 10 10 (show ¬ (10 = 27) from by omega))
      have y74 : σ65 88 12 = τ 88 12 := ((hGσ65 88 12 (show ¬ ((88 = 89 ∧ 12 < 93)) from by omega))).trans (hGσ34 88 12 (show ¬ (88 = 27) from by omega))
      have f75 : (0 : Int) ≤ τ 88 12 ∧ τ 88 12 ≤ 400 := hIτ 88 12
      have y76 : σ65 0 13 = τ 0 13 := ((hGσ65 0 13 (show ¬ ((0 = 89 ∧ 13 < 93)) from by omega))).trans (hGσ34 0 13 (show ¬ (0 = 27) from by omega))
      have f77 : (-2147483648 : Int) ≤ τ 0 13 ∧ τ 0 13 ≤ 2147483647 := hIτ 0 13
      have y78 : σ65 88 17 = τ 88 17 := ((hGσ65 88 17 (show ¬ ((88 = 89 ∧ 17 < 93)) from by omega))).trans (hGσ34 88 17 (show ¬ (88 = 27) from by omega))
      have f79 : (0 : Int) ≤ τ 88 17 ∧ τ 88 17 ≤ 5 := hIτ 88 17
      have y80 : σ65 31 6 = τ 31 6 := ((hGσ65 31 6 (show ¬ ((31 = 89 ∧ 6 < 93)) from by omega))).trans (hGσ34 31 6 (show ¬ (31 = 27) from by omega))
      have f81 : (0 : Int) ≤ τ 31 6 ∧ τ 31 6 ≤ 1 := hIτ 31 6
      have y82 : σ65 39 6 = τ 39 6 := ((hGσ65 39 6 (show ¬ ((39 = 89 ∧ 6 < 93)) from by omega))).trans (hGσ34 39 6 (show ¬ (39 = 27) from by omega))
      have f83 : (0 : Int) ≤ τ 39 6 ∧ τ 39 6 ≤ 1 := hIτ 39 6
      have y84 : σ65 90 0 = τ 90 0 := ((hGσ65 90 0 (show ¬ ((90 = 89 ∧ 0 < 93)) from by omega))).trans (hGσ34 90 0 (show ¬ (90 = 27) from by omega))
      have f85 : (0 : Int) ≤ τ 90 0 ∧ τ 90 0 ≤ 1 := hIτ 90 0
      have y86 : σ65 90 1 = τ 90 1 := ((hGσ65 90 1 (show ¬ ((90 = 89 ∧ 1 < 93)) from by omega))).trans (hGσ34 90 1 (show ¬ (90 = 27) from by omega))
      have f87 : (0 : Int) ≤ τ 90 1 ∧ τ 90 1 ≤ 1 := hIτ 90 1
      exact K σ65 hIσ65 ⟨mσ65, by omega, sσ65, bσ65, by omega, by omega, by omega, tσ65, st9.1⟩
set_option maxHeartbeats 4000000 in
set_option maxRecDepth 100000 in
theorem w_case_9 {G : tw_G} (hX : tw_isX G) (hM : tw_isM G) {E : List Frame → Array Value → State → State → Prop} (hN : (gN G : Int) ≤ 2560) (i : Int) (hi : 0 ≤ i ∧ i + 5 ≤ (gN G : Int)) (τ : tw_M) (hIτ : tw_I τ) (hL : tw_LI τ) (K : ∀ τ' : tw_M, tw_I τ' → tw_LI τ' → tw_J G tw_ML E 1352 [(0, vR 300), (1, vR 0), (2, vR 88), (3, vI i)] [] τ') : tw_J G tw_ML E 463 [(0, vR 300), (1, vR 0), (2, vR 88), (3, vI i)] [] τ := by
  obtain ⟨mτ, zτ, sτ, bτ, fτ, kτ0, kτ1, tτ, stτ⟩ := hL
  have g9 : (0 : Int) ≤ τ 10 10 ∧ τ 10 10 ≤ 400 := hIτ 10 10
  obtain ⟨v1, ev1⟩ : ∃ v : Int, v = (gxs G (i + 1).toNat).toInt := ⟨_, rfl⟩
  have hv1 : (-2147483648 : Int) ≤ v1 ∧ v1 ≤ 2147483647 := by rw [ev1]; exact i32_in _
  obtain ⟨v2, ev2⟩ : ∃ v : Int, v = (gxs G (i + 2).toNat).toInt := ⟨_, rfl⟩
  have hv2 : (-2147483648 : Int) ≤ v2 ∧ v2 ≤ 2147483647 := by rw [ev2]; exact i32_in _
  obtain ⟨v3, ev3⟩ : ∃ v : Int, v = (gxs G (i + 3).toNat).toInt := ⟨_, rfl⟩
  have hv3 : (-2147483648 : Int) ≤ v3 ∧ v3 ≤ 2147483647 := by rw [ev3]; exact i32_in _
  obtain ⟨v4, ev4⟩ : ∃ v : Int, v = (gxs G (i + 4).toNat).toInt := ⟨_, rfl⟩
  have hv4 : (-2147483648 : Int) ≤ v4 ∧ v4 ≤ 2147483647 := by rw [ev4]; exact i32_in _
  refine j_aload_n (pc := 463) dL_law_463 rfl rfl ?_
  refine j_aload_n (pc := 464) dL_law_464 rfl rfl ?_
  refine j_iload_n (pc := 465) dL_law_465 rfl rfl ?_
  refine j_iconst (pc := 466) dL_law_466 ?_
  refine j_iadd (pc := 467) dL_law_467 ?_
  refine j_scrAt (pc := 468) dL_law_468 (by omega) (by omega) (by omega) ?_
  refine j_topV (show _ = v1 from ev1.symm) ?_
  refine j_aload_n (pc := 469) dL_law_469 rfl rfl ?_
  refine j_iload_n (pc := 470) dL_law_470 rfl rfl ?_
  refine j_iconst (pc := 471) dL_law_471 ?_
  refine j_iadd (pc := 472) dL_law_472 ?_
  refine j_scrAt (pc := 473) dL_law_473 (by omega) (by omega) (by omega) ?_
  refine j_topV (show _ = v2 from ev2.symm) ?_
  refine j_callV (pc := 474) (As := [vI v1, vI v2]) (st := []) (c_X11_piece hX v1 ⟨by omega, by omega⟩ v2 ⟨by omega, by omega⟩ τ hIτ) mv_L_56 rfl rfl rfl (a_0 hX) dL_law_474 ⟨Nat.le_of_ble_eq_true rfl, Nat.le_of_ble_eq_true rfl⟩ ⟨Nat.le_of_ble_eq_true rfl, Nat.le_of_ble_eq_true rfl⟩ rfl (Nat.le_of_ble_eq_true rfl) rfl (fun z1 σ2 hz1 => ?_)
  obtain ⟨r4, rfl, hr4, rfl, -⟩ := hz1
  refine j_st (st' := [vI r4]) rfl ?_
  refine j_pop (pc := 477) dL_law_477 rfl ?_
  refine j_aload_n (pc := 478) dL_law_478 rfl rfl ?_
  refine j_aload_n (pc := 479) dL_law_479 rfl rfl ?_
  refine j_iload_n (pc := 480) dL_law_480 rfl rfl ?_
  refine j_iconst (pc := 481) dL_law_481 ?_
  refine j_iadd (pc := 482) dL_law_482 ?_
  refine j_scrAt (pc := 483) dL_law_483 (by omega) (by omega) (by omega) ?_
  refine j_topV (show _ = v1 from ev1.symm) ?_
  refine j_aload_n (pc := 484) dL_law_484 rfl rfl ?_
  refine j_iload_n (pc := 485) dL_law_485 rfl rfl ?_
  refine j_iconst (pc := 486) dL_law_486 ?_
  refine j_iadd (pc := 487) dL_law_487 ?_
  refine j_scrAt (pc := 488) dL_law_488 (by omega) (by omega) (by omega) ?_
  refine j_topV (show _ = v2 from ev2.symm) ?_
  refine j_callV (pc := 489) (As := [vI v1, vI v2]) (st := []) (c_X12_piece hM v1 ⟨by omega, by omega⟩ v2 ⟨by omega, by omega⟩ τ hIτ) mv_L_59 rfl rfl rfl (a_88 hM) dL_law_489 ⟨Nat.le_of_ble_eq_true rfl, Nat.le_of_ble_eq_true rfl⟩ ⟨Nat.le_of_ble_eq_true rfl, Nat.le_of_ble_eq_true rfl⟩ rfl (Nat.le_of_ble_eq_true rfl) rfl (fun z5 σ6 hz5 => ?_)
  obtain ⟨r8, rfl, hr8, rfl, -⟩ := hz5
  refine j_st (st' := [vI r8]) rfl ?_
  refine j_pop (pc := 492) dL_law_492 rfl ?_
  refine j_goto (pc := 493) (tgt := 1352) dL_law_493 rfl ?_
  exact K τ hIτ ⟨mτ, by omega, sτ, bτ, by omega, by omega, by omega, tτ, stτ⟩
set_option maxHeartbeats 4000000 in
set_option maxRecDepth 100000 in
theorem w_case_10 {G : tw_G} (hX : tw_isX G) (hM : tw_isM G) {E : List Frame → Array Value → State → State → Prop} (hN : (gN G : Int) ≤ 2560) (i : Int) (hi : 0 ≤ i ∧ i + 5 ≤ (gN G : Int)) (τ : tw_M) (hIτ : tw_I τ) (hL : tw_LI τ) (K : ∀ τ' : tw_M, tw_I τ' → tw_LI τ' → tw_J G tw_ML E 1352 [(0, vR 300), (1, vR 0), (2, vR 88), (3, vI i)] [] τ') : tw_J G tw_ML E 496 [(0, vR 300), (1, vR 0), (2, vR 88), (3, vI i)] [] τ := by
  obtain ⟨mτ, zτ, sτ, bτ, fτ, kτ0, kτ1, tτ, stτ⟩ := hL
  have g9 : (0 : Int) ≤ τ 10 10 ∧ τ 10 10 ≤ 400 := hIτ 10 10
  obtain ⟨v1, ev1⟩ : ∃ v : Int, v = (gxs G (i + 1).toNat).toInt := ⟨_, rfl⟩
  have hv1 : (-2147483648 : Int) ≤ v1 ∧ v1 ≤ 2147483647 := by rw [ev1]; exact i32_in _
  obtain ⟨v2, ev2⟩ : ∃ v : Int, v = (gxs G (i + 2).toNat).toInt := ⟨_, rfl⟩
  have hv2 : (-2147483648 : Int) ≤ v2 ∧ v2 ≤ 2147483647 := by rw [ev2]; exact i32_in _
  obtain ⟨v3, ev3⟩ : ∃ v : Int, v = (gxs G (i + 3).toNat).toInt := ⟨_, rfl⟩
  have hv3 : (-2147483648 : Int) ≤ v3 ∧ v3 ≤ 2147483647 := by rw [ev3]; exact i32_in _
  obtain ⟨v4, ev4⟩ : ∃ v : Int, v = (gxs G (i + 4).toNat).toInt := ⟨_, rfl⟩
  have hv4 : (-2147483648 : Int) ≤ v4 ∧ v4 ≤ 2147483647 := by rw [ev4]; exact i32_in _
  refine j_aload_n (pc := 496) dL_law_496 rfl rfl ?_
  refine j_callV (pc := 497) (As := []) (st := []) (c_X11_strip hX τ hIτ) mv_L_60 rfl rfl rfl (a_0 hX) dL_law_497 ⟨Nat.le_of_ble_eq_true rfl, Nat.le_of_ble_eq_true rfl⟩ ⟨Nat.le_of_ble_eq_true rfl, Nat.le_of_ble_eq_true rfl⟩ rfl (Nat.le_of_ble_eq_true rfl) rfl (fun z1 σ2 hz1 => ?_)
  obtain ⟨r4, rfl, hr4, hIσ2, hGσ2, q3_0⟩ := hz1
  replace q3_0 : ∀ gg qq rk : Nat → Int, RG 24 gg qq τ → CNR rk gg 28 τ → r4 = τ 24 0 ∧ σ2 24 0 = 0 ∧ ∀ x : Int, 1 ≤ x → x ≤ 10 → σ2 28 x.toNat = rk x.toNat := q3_0
  refine j_st (st' := [vI r4]) rfl ?_
  have y5 : σ2 10 10 = τ 10 10 := (hGσ2 10 10 (show ¬ ((24 ≤ 10 ∧ 10 < 29)) from by omega))
  have f6 : (0 : Int) ≤ τ 10 10 ∧ τ 10 10 ≤ 400 := hIτ 10 10
  have bσ2 : BY σ2 := BY_kept bτ (fun j => hGσ2 11 j (show ¬ ((24 ≤ 11 ∧ 11 < 29)) from by omega)) (fun j => hGσ2 98 j (show ¬ ((24 ≤ 98 ∧ 98 < 29)) from by omega)) (by omega)
  have mσ2 : mI σ2 := mI_kept mτ (fun j hj => hGσ2 89 j (show ¬ ((24 ≤ 89 ∧ 89 < 29)) from by omega)) (fun j => hGσ2 90 j (show ¬ ((24 ≤ 90 ∧ 90 < 29)) from by omega)) (hGσ2 91 0 (show ¬ ((24 ≤ 91 ∧ 91 < 29)) from by omega)) hIτ
  have sσ2 : SR σ2 := SR_kept sτ (fun c j h => hGσ2 c j (show ¬ ((24 ≤ c ∧ c < 29)) from by omega)) (fun j => hGσ2 104 j (show ¬ ((24 ≤ 104 ∧ 104 < 29)) from by omega)) (fun j => hGσ2 105 j (show ¬ ((24 ≤ 105 ∧ 105 < 29)) from by omega))
  have tσ2 : TT σ2 := TT_kept tτ (fun c j h => hGσ2 c j (show ¬ ((24 ≤ c ∧ c < 29)) from by omega)) (fun j h => hGσ2 89 j (show ¬ ((24 ≤ 89 ∧ 89 < 29)) from by omega))
  refine j_pop (pc := 500) dL_law_500 rfl ?_
  refine j_aload_n (pc := 501) dL_law_501 rfl rfl ?_
  refine j_callV (pc := 502) (As := []) (st := []) (c_X12_strip hM σ2 hIσ2 mσ2) mv_L_63 rfl rfl rfl (a_88 hM) dL_law_502 ⟨Nat.le_of_ble_eq_true rfl, Nat.le_of_ble_eq_true rfl⟩ ⟨Nat.le_of_ble_eq_true rfl, Nat.le_of_ble_eq_true rfl⟩ rfl (Nat.le_of_ble_eq_true rfl) rfl (fun z7 σ8 hz7 => ?_)
  obtain ⟨r10, rfl, hr10, hIσ8, hGσ8, q9_0, q9_1⟩ := hz7
  replace q9_0 : mI σ8 := q9_0
  replace q9_1 : ∀ rk : Nat → Int, MOB rk 0 σ2 → r10 = cnt (gM 0 σ2) (σ2 91 0).toNat ∧ MOB rk 0 σ8 ∧ ∀ f : Int, 1 ≤ f → f ≤ σ8 91 0 → σ8 89 f.toNat = 0 := q9_1
  have y11 : σ2 91 0 = τ 91 0 := (hGσ2 91 0 (show ¬ ((24 ≤ 91 ∧ 91 < 29)) from by omega))
  have f12 : (1 : Int) ≤ τ 91 0 ∧ τ 91 0 ≤ 40 := hIτ 91 0
  refine j_st (st' := [vI r10]) rfl ?_
  have y13 : σ8 10 10 = τ 10 10 := ((hGσ8 10 10 (show ¬ ((10 = 89 ∧ 10 < 93)) from by omega))).trans (hGσ2 10 10 (show ¬ ((24 ≤ 10 ∧ 10 < 29)) from by omega))
  have bσ8 : BY σ8 := BY_kept bσ2 (fun j => hGσ8 11 j (show ¬ ((11 = 89 ∧ j < 93)) from by omega)) (fun j => hGσ8 98 j (show ¬ ((98 = 89 ∧ j < 93)) from by omega)) (by omega)
  have mσ8 : mI σ8 := q9_0
  have sσ8 : SR σ8 := SR_kept sσ2 (fun c j h => hGσ8 c j (show ¬ ((c = 89 ∧ j < 93)) from by omega)) (fun j => hGσ8 104 j (show ¬ ((104 = 89 ∧ j < 93)) from by omega)) (fun j => hGσ8 105 j (show ¬ ((105 = 89 ∧ j < 93)) from by omega))
  have tσ8 : TT σ8 := TT_kept tσ2 (fun c j h => hGσ8 c j (show ¬ ((c = 89 ∧ j < 93)) from by omega)) (fun j h => hGσ8 89 j (show ¬ ((89 = 89 ∧ j < 93)) from by omega))
  have ht9 : (1 : Int) ≤ τ 91 0 ∧ τ 91 0 ≤ 40 := hIτ 91 0
  have st9 := ST_strip stτ ht9 q3_0 q9_1 (fun c j h => hGσ2 c j (show ¬ ((24 ≤ c ∧ c < 29)) from by omega)) (fun c j h => hGσ8 c j (show ¬ ((c = 89 ∧ j < 93)) from by omega))
  have rr9 := st9.2
  clear q3_0 q9_1
  refine j_pop (pc := 505) dL_law_505 rfl ?_
  refine j_goto (pc := 506) (tgt := 1352) dL_law_506 rfl ?_
  have y14 : σ8 10 10 = τ 10 10 := ((hGσ8 10 10 (show ¬ ((10 = 89 ∧ 10 < 93)) from by omega))).trans (hGσ2 10 10 (show ¬ ((24 ≤ 10 ∧ 10 < 29)) from by omega))
  have y15 : σ8 88 12 = τ 88 12 := ((hGσ8 88 12 (show ¬ ((88 = 89 ∧ 12 < 93)) from by omega))).trans (hGσ2 88 12 (show ¬ ((24 ≤ 88 ∧ 88 < 29)) from by omega))
  have f16 : (0 : Int) ≤ τ 88 12 ∧ τ 88 12 ≤ 400 := hIτ 88 12
  have y17 : σ8 0 13 = τ 0 13 := ((hGσ8 0 13 (show ¬ ((0 = 89 ∧ 13 < 93)) from by omega))).trans (hGσ2 0 13 (show ¬ ((24 ≤ 0 ∧ 0 < 29)) from by omega))
  have f18 : (-2147483648 : Int) ≤ τ 0 13 ∧ τ 0 13 ≤ 2147483647 := hIτ 0 13
  have y19 : σ8 88 17 = τ 88 17 := ((hGσ8 88 17 (show ¬ ((88 = 89 ∧ 17 < 93)) from by omega))).trans (hGσ2 88 17 (show ¬ ((24 ≤ 88 ∧ 88 < 29)) from by omega))
  have f20 : (0 : Int) ≤ τ 88 17 ∧ τ 88 17 ≤ 5 := hIτ 88 17
  have y21 : σ8 31 6 = τ 31 6 := ((hGσ8 31 6 (show ¬ ((31 = 89 ∧ 6 < 93)) from by omega))).trans (hGσ2 31 6 (show ¬ ((24 ≤ 31 ∧ 31 < 29)) from by omega))
  have f22 : (0 : Int) ≤ τ 31 6 ∧ τ 31 6 ≤ 1 := hIτ 31 6
  have y23 : σ8 39 6 = τ 39 6 := ((hGσ8 39 6 (show ¬ ((39 = 89 ∧ 6 < 93)) from by omega))).trans (hGσ2 39 6 (show ¬ ((24 ≤ 39 ∧ 39 < 29)) from by omega))
  have f24 : (0 : Int) ≤ τ 39 6 ∧ τ 39 6 ≤ 1 := hIτ 39 6
  have y25 : σ8 90 0 = τ 90 0 := ((hGσ8 90 0 (show ¬ ((90 = 89 ∧ 0 < 93)) from by omega))).trans (hGσ2 90 0 (show ¬ ((24 ≤ 90 ∧ 90 < 29)) from by omega))
  have f26 : (0 : Int) ≤ τ 90 0 ∧ τ 90 0 ≤ 1 := hIτ 90 0
  have y27 : σ8 90 1 = τ 90 1 := ((hGσ8 90 1 (show ¬ ((90 = 89 ∧ 1 < 93)) from by omega))).trans (hGσ2 90 1 (show ¬ ((24 ≤ 90 ∧ 90 < 29)) from by omega))
  have f28 : (0 : Int) ≤ τ 90 1 ∧ τ 90 1 ≤ 1 := hIτ 90 1
  exact K σ8 hIσ8 ⟨mσ8, by omega, sσ8, bσ8, by omega, by omega, by omega, tσ8, st9.1⟩
set_option maxHeartbeats 4000000 in
set_option maxRecDepth 100000 in
theorem w_case_11 {G : tw_G} (hX : tw_isX G) (hM : tw_isM G) {E : List Frame → Array Value → State → State → Prop} (hN : (gN G : Int) ≤ 2560) (i : Int) (hi : 0 ≤ i ∧ i + 5 ≤ (gN G : Int)) (τ : tw_M) (hIτ : tw_I τ) (hL : tw_LI τ) (K : ∀ τ' : tw_M, tw_I τ' → tw_LI τ' → tw_J G tw_ML E 1352 [(0, vR 300), (1, vR 0), (2, vR 88), (3, vI i)] [] τ') : tw_J G tw_ML E 509 [(0, vR 300), (1, vR 0), (2, vR 88), (3, vI i)] [] τ := by
  obtain ⟨mτ, zτ, sτ, bτ, fτ, kτ0, kτ1, tτ, stτ⟩ := hL
  have g9 : (0 : Int) ≤ τ 10 10 ∧ τ 10 10 ≤ 400 := hIτ 10 10
  obtain ⟨v1, ev1⟩ : ∃ v : Int, v = (gxs G (i + 1).toNat).toInt := ⟨_, rfl⟩
  have hv1 : (-2147483648 : Int) ≤ v1 ∧ v1 ≤ 2147483647 := by rw [ev1]; exact i32_in _
  obtain ⟨v2, ev2⟩ : ∃ v : Int, v = (gxs G (i + 2).toNat).toInt := ⟨_, rfl⟩
  have hv2 : (-2147483648 : Int) ≤ v2 ∧ v2 ≤ 2147483647 := by rw [ev2]; exact i32_in _
  obtain ⟨v3, ev3⟩ : ∃ v : Int, v = (gxs G (i + 3).toNat).toInt := ⟨_, rfl⟩
  have hv3 : (-2147483648 : Int) ≤ v3 ∧ v3 ≤ 2147483647 := by rw [ev3]; exact i32_in _
  obtain ⟨v4, ev4⟩ : ∃ v : Int, v = (gxs G (i + 4).toNat).toInt := ⟨_, rfl⟩
  have hv4 : (-2147483648 : Int) ≤ v4 ∧ v4 ≤ 2147483647 := by rw [ev4]; exact i32_in _
  refine j_aload_n (pc := 509) dL_law_509 rfl rfl ?_
  refine j_aload_n (pc := 510) dL_law_510 rfl rfl ?_
  refine j_iload_n (pc := 511) dL_law_511 rfl rfl ?_
  refine j_iconst (pc := 512) dL_law_512 ?_
  refine j_iadd (pc := 513) dL_law_513 ?_
  refine j_scrAt (pc := 514) dL_law_514 (by omega) (by omega) (by omega) ?_
  refine j_topV (show _ = v1 from ev1.symm) ?_
  refine j_aload_n (pc := 515) dL_law_515 rfl rfl ?_
  refine j_iload_n (pc := 516) dL_law_516 rfl rfl ?_
  refine j_iconst (pc := 517) dL_law_517 ?_
  refine j_iadd (pc := 518) dL_law_518 ?_
  refine j_scrAt (pc := 519) dL_law_519 (by omega) (by omega) (by omega) ?_
  refine j_topV (show _ = v2 from ev2.symm) ?_
  refine j_aload_n (pc := 520) dL_law_520 rfl rfl ?_
  refine j_iload_n (pc := 521) dL_law_521 rfl rfl ?_
  refine j_iconst (pc := 522) dL_law_522 ?_
  refine j_iadd (pc := 523) dL_law_523 ?_
  refine j_scrAt (pc := 524) dL_law_524 (by omega) (by omega) (by omega) ?_
  refine j_topV (show _ = v3 from ev3.symm) ?_
  refine j_callV (pc := 525) (As := [vI v1, vI v2, vI v3]) (st := []) (c_X11_fall hX v1 ⟨by omega, by omega⟩ v2 ⟨by omega, by omega⟩ v3 ⟨by omega, by omega⟩ τ hIτ) mv_L_64 rfl rfl rfl (a_0 hX) dL_law_525 ⟨Nat.le_of_ble_eq_true rfl, Nat.le_of_ble_eq_true rfl⟩ ⟨Nat.le_of_ble_eq_true rfl, Nat.le_of_ble_eq_true rfl⟩ rfl (Nat.le_of_ble_eq_true rfl) rfl (fun z1 σ2 hz1 => ?_)
  obtain ⟨r4, rfl, hr4, hIσ2, hGσ2, -⟩ := hz1
  refine j_st (st' := [vI r4]) rfl ?_
  have y5 : σ2 10 10 = τ 10 10 := (hGσ2 10 10 (show ¬ (10 = 55) from by omega))
  have f6 : (0 : Int) ≤ τ 10 10 ∧ τ 10 10 ≤ 400 := hIτ 10 10
  have bσ2 : BY σ2 := BY_kept bτ (fun j => hGσ2 11 j (show ¬ (11 = 55) from by omega)) (fun j => hGσ2 98 j (show ¬ (98 = 55) from by omega)) (by omega)
  have mσ2 : mI σ2 := mI_kept mτ (fun j hj => hGσ2 89 j (show ¬ (89 = 55) from by omega)) (fun j => hGσ2 90 j (show ¬ (90 = 55) from by omega)) (hGσ2 91 0 (show ¬ (91 = 55) from by omega)) hIτ
  have sσ2 : SR σ2 := SR_kept sτ (fun c j h => hGσ2 c j (show ¬ (c = 55) from by omega)) (fun j => hGσ2 104 j (show ¬ (104 = 55) from by omega)) (fun j => hGσ2 105 j (show ¬ (105 = 55) from by omega))
  have tσ2 : TT σ2 := TT_kept tτ (fun c j h => hGσ2 c j (show ¬ (c = 55) from by omega)) (fun j h => hGσ2 89 j (show ¬ (89 = 55) from by omega))
  have stσ2 : ST σ2 := ST_F stτ (fun c j h => hGσ2 c j (show ¬ (c = 55) from by unfold STR at h; omega))
  refine j_pop (pc := 528) dL_law_528 rfl ?_
  refine j_aload_n (pc := 529) dL_law_529 rfl rfl ?_
  refine j_aload_n (pc := 530) dL_law_530 rfl rfl ?_
  refine j_iload_n (pc := 531) dL_law_531 rfl rfl ?_
  refine j_iconst (pc := 532) dL_law_532 ?_
  refine j_iadd (pc := 533) dL_law_533 ?_
  refine j_scrAt (pc := 534) dL_law_534 (by omega) (by omega) (by omega) ?_
  refine j_topV (show _ = v1 from ev1.symm) ?_
  refine j_aload_n (pc := 535) dL_law_535 rfl rfl ?_
  refine j_iload_n (pc := 536) dL_law_536 rfl rfl ?_
  refine j_iconst (pc := 537) dL_law_537 ?_
  refine j_iadd (pc := 538) dL_law_538 ?_
  refine j_scrAt (pc := 539) dL_law_539 (by omega) (by omega) (by omega) ?_
  refine j_topV (show _ = v2 from ev2.symm) ?_
  refine j_aload_n (pc := 540) dL_law_540 rfl rfl ?_
  refine j_iload_n (pc := 541) dL_law_541 rfl rfl ?_
  refine j_iconst (pc := 542) dL_law_542 ?_
  refine j_iadd (pc := 543) dL_law_543 ?_
  refine j_scrAt (pc := 544) dL_law_544 (by omega) (by omega) (by omega) ?_
  refine j_topV (show _ = v3 from ev3.symm) ?_
  have y7 : σ2 0 ((σ2 91 0).toNat) = τ 0 ((σ2 91 0).toNat) := (hGσ2 0 ((σ2 91 0).toNat) (show ¬ (0 = 55) from by omega))
  refine j_callV (pc := 545) (As := [vI v1, vI v2, vI v3]) (st := []) (c_X12_fall hM v1 ⟨by omega, by omega⟩ v2 ⟨by omega, by omega⟩ v3 ⟨by omega, by omega⟩ σ2 hIσ2 mσ2.1) mv_L_68 rfl rfl rfl (a_88 hM) dL_law_545 ⟨Nat.le_of_ble_eq_true rfl, Nat.le_of_ble_eq_true rfl⟩ ⟨Nat.le_of_ble_eq_true rfl, Nat.le_of_ble_eq_true rfl⟩ rfl (Nat.le_of_ble_eq_true rfl) rfl (fun z8 σ9 hz8 => ?_)
  obtain ⟨r11, rfl, hr11, hIσ9, hGσ9, -⟩ := hz8
  refine j_st (st' := [vI r11]) rfl ?_
  have y12 : σ9 10 10 = τ 10 10 := ((hGσ9 10 10 (show ¬ ((10 = 88 ∧ (10 = 19 ∨ 10 = 20 ∨ 10 = 21 ∨ 10 = 22 ∨ 10 = 23))) from by omega))).trans (hGσ2 10 10 (show ¬ (10 = 55) from by omega))
  have bσ9 : BY σ9 := BY_kept bσ2 (fun j => hGσ9 11 j (show ¬ ((11 = 88 ∧ (j = 19 ∨ j = 20 ∨ j = 21 ∨ j = 22 ∨ j = 23))) from by omega)) (fun j => hGσ9 98 j (show ¬ ((98 = 88 ∧ (j = 19 ∨ j = 20 ∨ j = 21 ∨ j = 22 ∨ j = 23))) from by omega)) (by omega)
  have mσ9 : mI σ9 := mI_kept mσ2 (fun j hj => hGσ9 89 j (show ¬ ((89 = 88 ∧ (j = 19 ∨ j = 20 ∨ j = 21 ∨ j = 22 ∨ j = 23))) from by omega)) (fun j => hGσ9 90 j (show ¬ ((90 = 88 ∧ (j = 19 ∨ j = 20 ∨ j = 21 ∨ j = 22 ∨ j = 23))) from by omega)) (hGσ9 91 0 (show ¬ ((91 = 88 ∧ (0 = 19 ∨ 0 = 20 ∨ 0 = 21 ∨ 0 = 22 ∨ 0 = 23))) from by omega)) hIσ2
  have sσ9 : SR σ9 := SR_kept sσ2 (fun c j h => hGσ9 c j (show ¬ ((c = 88 ∧ (j = 19 ∨ j = 20 ∨ j = 21 ∨ j = 22 ∨ j = 23))) from by omega)) (fun j => hGσ9 104 j (show ¬ ((104 = 88 ∧ (j = 19 ∨ j = 20 ∨ j = 21 ∨ j = 22 ∨ j = 23))) from by omega)) (fun j => hGσ9 105 j (show ¬ ((105 = 88 ∧ (j = 19 ∨ j = 20 ∨ j = 21 ∨ j = 22 ∨ j = 23))) from by omega))
  have tσ9 : TT σ9 := TT_kept tσ2 (fun c j h => hGσ9 c j (show ¬ ((c = 88 ∧ (j = 19 ∨ j = 20 ∨ j = 21 ∨ j = 22 ∨ j = 23))) from by omega)) (fun j h => hGσ9 89 j (show ¬ ((89 = 88 ∧ (j = 19 ∨ j = 20 ∨ j = 21 ∨ j = 22 ∨ j = 23))) from by omega))
  have stσ9 : ST σ9 := ST_F stσ2 (fun c j h => hGσ9 c j (show ¬ ((c = 88 ∧ (j = 19 ∨ j = 20 ∨ j = 21 ∨ j = 22 ∨ j = 23))) from by unfold STR at h; omega))
  refine j_pop (pc := 548) dL_law_548 rfl ?_
  refine j_goto (pc := 549) (tgt := 1352) dL_law_549 rfl ?_
  have y13 : σ9 10 10 = τ 10 10 := ((hGσ9 10 10 (show ¬ ((10 = 88 ∧ (10 = 19 ∨ 10 = 20 ∨ 10 = 21 ∨ 10 = 22 ∨ 10 = 23))) from by omega))).trans (hGσ2 10 10 (show ¬ (10 = 55) from by omega))
  have y14 : σ9 88 12 = τ 88 12 := ((hGσ9 88 12 (show ¬ ((88 = 88 ∧ (12 = 19 ∨ 12 = 20 ∨ 12 = 21 ∨ 12 = 22 ∨ 12 = 23))) from by omega))).trans (hGσ2 88 12 (show ¬ (88 = 55) from by omega))
  have f15 : (0 : Int) ≤ τ 88 12 ∧ τ 88 12 ≤ 400 := hIτ 88 12
  have y16 : σ9 0 13 = τ 0 13 := ((hGσ9 0 13 (show ¬ ((0 = 88 ∧ (13 = 19 ∨ 13 = 20 ∨ 13 = 21 ∨ 13 = 22 ∨ 13 = 23))) from by omega))).trans (hGσ2 0 13 (show ¬ (0 = 55) from by omega))
  have f17 : (-2147483648 : Int) ≤ τ 0 13 ∧ τ 0 13 ≤ 2147483647 := hIτ 0 13
  have y18 : σ9 88 17 = τ 88 17 := ((hGσ9 88 17 (show ¬ ((88 = 88 ∧ (17 = 19 ∨ 17 = 20 ∨ 17 = 21 ∨ 17 = 22 ∨ 17 = 23))) from by omega))).trans (hGσ2 88 17 (show ¬ (88 = 55) from by omega))
  have f19 : (0 : Int) ≤ τ 88 17 ∧ τ 88 17 ≤ 5 := hIτ 88 17
  have y20 : σ9 31 6 = τ 31 6 := ((hGσ9 31 6 (show ¬ ((31 = 88 ∧ (6 = 19 ∨ 6 = 20 ∨ 6 = 21 ∨ 6 = 22 ∨ 6 = 23))) from by omega))).trans (hGσ2 31 6 (show ¬ (31 = 55) from by omega))
  have f21 : (0 : Int) ≤ τ 31 6 ∧ τ 31 6 ≤ 1 := hIτ 31 6
  have y22 : σ9 39 6 = τ 39 6 := ((hGσ9 39 6 (show ¬ ((39 = 88 ∧ (6 = 19 ∨ 6 = 20 ∨ 6 = 21 ∨ 6 = 22 ∨ 6 = 23))) from by omega))).trans (hGσ2 39 6 (show ¬ (39 = 55) from by omega))
  have f23 : (0 : Int) ≤ τ 39 6 ∧ τ 39 6 ≤ 1 := hIτ 39 6
  have y24 : σ9 90 0 = τ 90 0 := ((hGσ9 90 0 (show ¬ ((90 = 88 ∧ (0 = 19 ∨ 0 = 20 ∨ 0 = 21 ∨ 0 = 22 ∨ 0 = 23))) from by omega))).trans (hGσ2 90 0 (show ¬ (90 = 55) from by omega))
  have f25 : (0 : Int) ≤ τ 90 0 ∧ τ 90 0 ≤ 1 := hIτ 90 0
  have y26 : σ9 90 1 = τ 90 1 := ((hGσ9 90 1 (show ¬ ((90 = 88 ∧ (1 = 19 ∨ 1 = 20 ∨ 1 = 21 ∨ 1 = 22 ∨ 1 = 23))) from by omega))).trans (hGσ2 90 1 (show ¬ (90 = 55) from by omega))
  have f27 : (0 : Int) ≤ τ 90 1 ∧ τ 90 1 ≤ 1 := hIτ 90 1
  exact K σ9 hIσ9 ⟨mσ9, by omega, sσ9, bσ9, by omega, by omega, by omega, tσ9, stσ9⟩
set_option maxHeartbeats 4000000 in
set_option maxRecDepth 100000 in
theorem w_case_12 {G : tw_G} (hX : tw_isX G) (hM : tw_isM G) {E : List Frame → Array Value → State → State → Prop} (hN : (gN G : Int) ≤ 2560) (i : Int) (hi : 0 ≤ i ∧ i + 5 ≤ (gN G : Int)) (τ : tw_M) (hIτ : tw_I τ) (hL : tw_LI τ) (K : ∀ τ' : tw_M, tw_I τ' → tw_LI τ' → tw_J G tw_ML E 1352 [(0, vR 300), (1, vR 0), (2, vR 88), (3, vI i)] [] τ') : tw_J G tw_ML E 552 [(0, vR 300), (1, vR 0), (2, vR 88), (3, vI i)] [] τ := by
  obtain ⟨mτ, zτ, sτ, bτ, fτ, kτ0, kτ1, tτ, stτ⟩ := hL
  have g9 : (0 : Int) ≤ τ 10 10 ∧ τ 10 10 ≤ 400 := hIτ 10 10
  obtain ⟨v1, ev1⟩ : ∃ v : Int, v = (gxs G (i + 1).toNat).toInt := ⟨_, rfl⟩
  have hv1 : (-2147483648 : Int) ≤ v1 ∧ v1 ≤ 2147483647 := by rw [ev1]; exact i32_in _
  obtain ⟨v2, ev2⟩ : ∃ v : Int, v = (gxs G (i + 2).toNat).toInt := ⟨_, rfl⟩
  have hv2 : (-2147483648 : Int) ≤ v2 ∧ v2 ≤ 2147483647 := by rw [ev2]; exact i32_in _
  obtain ⟨v3, ev3⟩ : ∃ v : Int, v = (gxs G (i + 3).toNat).toInt := ⟨_, rfl⟩
  have hv3 : (-2147483648 : Int) ≤ v3 ∧ v3 ≤ 2147483647 := by rw [ev3]; exact i32_in _
  obtain ⟨v4, ev4⟩ : ∃ v : Int, v = (gxs G (i + 4).toNat).toInt := ⟨_, rfl⟩
  have hv4 : (-2147483648 : Int) ≤ v4 ∧ v4 ≤ 2147483647 := by rw [ev4]; exact i32_in _
  refine j_aload_n (pc := 552) dL_law_552 rfl rfl ?_
  refine j_aload_n (pc := 553) dL_law_553 rfl rfl ?_
  refine j_iload_n (pc := 554) dL_law_554 rfl rfl ?_
  refine j_iconst (pc := 555) dL_law_555 ?_
  refine j_iadd (pc := 556) dL_law_556 ?_
  refine j_scrAt (pc := 557) dL_law_557 (by omega) (by omega) (by omega) ?_
  refine j_topV (show _ = v1 from ev1.symm) ?_
  refine j_aload_n (pc := 558) dL_law_558 rfl rfl ?_
  refine j_iload_n (pc := 559) dL_law_559 rfl rfl ?_
  refine j_iconst (pc := 560) dL_law_560 ?_
  refine j_iadd (pc := 561) dL_law_561 ?_
  refine j_scrAt (pc := 562) dL_law_562 (by omega) (by omega) (by omega) ?_
  refine j_topV (show _ = v2 from ev2.symm) ?_
  refine j_aload_n (pc := 563) dL_law_563 rfl rfl ?_
  refine j_iload_n (pc := 564) dL_law_564 rfl rfl ?_
  refine j_iconst (pc := 565) dL_law_565 ?_
  refine j_iadd (pc := 566) dL_law_566 ?_
  refine j_scrAt (pc := 567) dL_law_567 (by omega) (by omega) (by omega) ?_
  refine j_topV (show _ = v3 from ev3.symm) ?_
  refine j_callV (pc := 568) (As := [vI v1, vI v2, vI v3]) (st := []) (c_X11_harm hX v1 ⟨by omega, by omega⟩ v2 ⟨by omega, by omega⟩ v3 ⟨by omega, by omega⟩ τ hIτ) mv_L_69 rfl rfl rfl (a_0 hX) dL_law_568 ⟨Nat.le_of_ble_eq_true rfl, Nat.le_of_ble_eq_true rfl⟩ ⟨Nat.le_of_ble_eq_true rfl, Nat.le_of_ble_eq_true rfl⟩ rfl (Nat.le_of_ble_eq_true rfl) rfl (fun z1 σ2 hz1 => ?_)
  obtain ⟨r4, rfl, hr4, hIσ2, hGσ2, -⟩ := hz1
  refine j_st (st' := [vL r4]) rfl ?_
  have y5 : σ2 10 10 = τ 10 10 := (hGσ2 10 10 (show ¬ ((10 = 58 ∧ (10 = 2 ∨ 10 = 3))) from by omega))
  have f6 : (0 : Int) ≤ τ 10 10 ∧ τ 10 10 ≤ 400 := hIτ 10 10
  have bσ2 : BY σ2 := BY_kept bτ (fun j => hGσ2 11 j (show ¬ ((11 = 58 ∧ (j = 2 ∨ j = 3))) from by omega)) (fun j => hGσ2 98 j (show ¬ ((98 = 58 ∧ (j = 2 ∨ j = 3))) from by omega)) (by omega)
  have mσ2 : mI σ2 := mI_kept mτ (fun j hj => hGσ2 89 j (show ¬ ((89 = 58 ∧ (j = 2 ∨ j = 3))) from by omega)) (fun j => hGσ2 90 j (show ¬ ((90 = 58 ∧ (j = 2 ∨ j = 3))) from by omega)) (hGσ2 91 0 (show ¬ ((91 = 58 ∧ (0 = 2 ∨ 0 = 3))) from by omega)) hIτ
  have sσ2 : SR σ2 := SR_kept sτ (fun c j h => hGσ2 c j (show ¬ ((c = 58 ∧ (j = 2 ∨ j = 3))) from by omega)) (fun j => hGσ2 104 j (show ¬ ((104 = 58 ∧ (j = 2 ∨ j = 3))) from by omega)) (fun j => hGσ2 105 j (show ¬ ((105 = 58 ∧ (j = 2 ∨ j = 3))) from by omega))
  have tσ2 : TT σ2 := TT_kept tτ (fun c j h => hGσ2 c j (show ¬ ((c = 58 ∧ (j = 2 ∨ j = 3))) from by omega)) (fun j h => hGσ2 89 j (show ¬ ((89 = 58 ∧ (j = 2 ∨ j = 3))) from by omega))
  have stσ2 : ST σ2 := ST_F stτ (fun c j h => hGσ2 c j (show ¬ ((c = 58 ∧ (j = 2 ∨ j = 3))) from by unfold STR at h; omega))
  refine j_pop2 (pc := 571) dL_law_571 rfl ?_
  refine j_aload_n (pc := 572) dL_law_572 rfl rfl ?_
  refine j_aload_n (pc := 573) dL_law_573 rfl rfl ?_
  refine j_iload_n (pc := 574) dL_law_574 rfl rfl ?_
  refine j_iconst (pc := 575) dL_law_575 ?_
  refine j_iadd (pc := 576) dL_law_576 ?_
  refine j_scrAt (pc := 577) dL_law_577 (by omega) (by omega) (by omega) ?_
  refine j_topV (show _ = v1 from ev1.symm) ?_
  refine j_aload_n (pc := 578) dL_law_578 rfl rfl ?_
  refine j_iload_n (pc := 579) dL_law_579 rfl rfl ?_
  refine j_iconst (pc := 580) dL_law_580 ?_
  refine j_iadd (pc := 581) dL_law_581 ?_
  refine j_scrAt (pc := 582) dL_law_582 (by omega) (by omega) (by omega) ?_
  refine j_topV (show _ = v2 from ev2.symm) ?_
  refine j_aload_n (pc := 583) dL_law_583 rfl rfl ?_
  refine j_iload_n (pc := 584) dL_law_584 rfl rfl ?_
  refine j_iconst (pc := 585) dL_law_585 ?_
  refine j_iadd (pc := 586) dL_law_586 ?_
  refine j_scrAt (pc := 587) dL_law_587 (by omega) (by omega) (by omega) ?_
  refine j_topV (show _ = v3 from ev3.symm) ?_
  have y7 : σ2 0 ((σ2 91 0).toNat) = τ 0 ((σ2 91 0).toNat) := (hGσ2 0 ((σ2 91 0).toNat) (show ¬ ((0 = 58 ∧ ((σ2 91 0).toNat = 2 ∨ (σ2 91 0).toNat = 3))) from by omega))
  refine j_callV (pc := 588) (As := [vI v1, vI v2, vI v3]) (st := []) (c_X12_harm hM v1 ⟨by omega, by omega⟩ v2 ⟨by omega, by omega⟩ v3 ⟨by omega, by omega⟩ σ2 hIσ2 mσ2.1) mv_L_73 rfl rfl rfl (a_88 hM) dL_law_588 ⟨Nat.le_of_ble_eq_true rfl, Nat.le_of_ble_eq_true rfl⟩ ⟨Nat.le_of_ble_eq_true rfl, Nat.le_of_ble_eq_true rfl⟩ rfl (Nat.le_of_ble_eq_true rfl) rfl (fun z8 σ9 hz8 => ?_)
  obtain ⟨r11, rfl, hr11, hIσ9, hGσ9, -⟩ := hz8
  refine j_st (st' := [vL r11]) rfl ?_
  have y12 : σ9 10 10 = τ 10 10 := ((hGσ9 10 10 (show ¬ ((10 = 88 ∧ (10 = 19 ∨ 10 = 20 ∨ 10 = 21 ∨ 10 = 22 ∨ 10 = 23))) from by omega))).trans (hGσ2 10 10 (show ¬ ((10 = 58 ∧ (10 = 2 ∨ 10 = 3))) from by omega))
  have bσ9 : BY σ9 := BY_kept bσ2 (fun j => hGσ9 11 j (show ¬ ((11 = 88 ∧ (j = 19 ∨ j = 20 ∨ j = 21 ∨ j = 22 ∨ j = 23))) from by omega)) (fun j => hGσ9 98 j (show ¬ ((98 = 88 ∧ (j = 19 ∨ j = 20 ∨ j = 21 ∨ j = 22 ∨ j = 23))) from by omega)) (by omega)
  have mσ9 : mI σ9 := mI_kept mσ2 (fun j hj => hGσ9 89 j (show ¬ ((89 = 88 ∧ (j = 19 ∨ j = 20 ∨ j = 21 ∨ j = 22 ∨ j = 23))) from by omega)) (fun j => hGσ9 90 j (show ¬ ((90 = 88 ∧ (j = 19 ∨ j = 20 ∨ j = 21 ∨ j = 22 ∨ j = 23))) from by omega)) (hGσ9 91 0 (show ¬ ((91 = 88 ∧ (0 = 19 ∨ 0 = 20 ∨ 0 = 21 ∨ 0 = 22 ∨ 0 = 23))) from by omega)) hIσ2
  have sσ9 : SR σ9 := SR_kept sσ2 (fun c j h => hGσ9 c j (show ¬ ((c = 88 ∧ (j = 19 ∨ j = 20 ∨ j = 21 ∨ j = 22 ∨ j = 23))) from by omega)) (fun j => hGσ9 104 j (show ¬ ((104 = 88 ∧ (j = 19 ∨ j = 20 ∨ j = 21 ∨ j = 22 ∨ j = 23))) from by omega)) (fun j => hGσ9 105 j (show ¬ ((105 = 88 ∧ (j = 19 ∨ j = 20 ∨ j = 21 ∨ j = 22 ∨ j = 23))) from by omega))
  have tσ9 : TT σ9 := TT_kept tσ2 (fun c j h => hGσ9 c j (show ¬ ((c = 88 ∧ (j = 19 ∨ j = 20 ∨ j = 21 ∨ j = 22 ∨ j = 23))) from by omega)) (fun j h => hGσ9 89 j (show ¬ ((89 = 88 ∧ (j = 19 ∨ j = 20 ∨ j = 21 ∨ j = 22 ∨ j = 23))) from by omega))
  have stσ9 : ST σ9 := ST_F stσ2 (fun c j h => hGσ9 c j (show ¬ ((c = 88 ∧ (j = 19 ∨ j = 20 ∨ j = 21 ∨ j = 22 ∨ j = 23))) from by unfold STR at h; omega))
  refine j_pop2 (pc := 591) dL_law_591 rfl ?_
  refine j_goto (pc := 592) (tgt := 1352) dL_law_592 rfl ?_
  have y13 : σ9 10 10 = τ 10 10 := ((hGσ9 10 10 (show ¬ ((10 = 88 ∧ (10 = 19 ∨ 10 = 20 ∨ 10 = 21 ∨ 10 = 22 ∨ 10 = 23))) from by omega))).trans (hGσ2 10 10 (show ¬ ((10 = 58 ∧ (10 = 2 ∨ 10 = 3))) from by omega))
  have y14 : σ9 88 12 = τ 88 12 := ((hGσ9 88 12 (show ¬ ((88 = 88 ∧ (12 = 19 ∨ 12 = 20 ∨ 12 = 21 ∨ 12 = 22 ∨ 12 = 23))) from by omega))).trans (hGσ2 88 12 (show ¬ ((88 = 58 ∧ (12 = 2 ∨ 12 = 3))) from by omega))
  have f15 : (0 : Int) ≤ τ 88 12 ∧ τ 88 12 ≤ 400 := hIτ 88 12
  have y16 : σ9 0 13 = τ 0 13 := ((hGσ9 0 13 (show ¬ ((0 = 88 ∧ (13 = 19 ∨ 13 = 20 ∨ 13 = 21 ∨ 13 = 22 ∨ 13 = 23))) from by omega))).trans (hGσ2 0 13 (show ¬ ((0 = 58 ∧ (13 = 2 ∨ 13 = 3))) from by omega))
  have f17 : (-2147483648 : Int) ≤ τ 0 13 ∧ τ 0 13 ≤ 2147483647 := hIτ 0 13
  have y18 : σ9 88 17 = τ 88 17 := ((hGσ9 88 17 (show ¬ ((88 = 88 ∧ (17 = 19 ∨ 17 = 20 ∨ 17 = 21 ∨ 17 = 22 ∨ 17 = 23))) from by omega))).trans (hGσ2 88 17 (show ¬ ((88 = 58 ∧ (17 = 2 ∨ 17 = 3))) from by omega))
  have f19 : (0 : Int) ≤ τ 88 17 ∧ τ 88 17 ≤ 5 := hIτ 88 17
  have y20 : σ9 31 6 = τ 31 6 := ((hGσ9 31 6 (show ¬ ((31 = 88 ∧ (6 = 19 ∨ 6 = 20 ∨ 6 = 21 ∨ 6 = 22 ∨ 6 = 23))) from by omega))).trans (hGσ2 31 6 (show ¬ ((31 = 58 ∧ (6 = 2 ∨ 6 = 3))) from by omega))
  have f21 : (0 : Int) ≤ τ 31 6 ∧ τ 31 6 ≤ 1 := hIτ 31 6
  have y22 : σ9 39 6 = τ 39 6 := ((hGσ9 39 6 (show ¬ ((39 = 88 ∧ (6 = 19 ∨ 6 = 20 ∨ 6 = 21 ∨ 6 = 22 ∨ 6 = 23))) from by omega))).trans (hGσ2 39 6 (show ¬ ((39 = 58 ∧ (6 = 2 ∨ 6 = 3))) from by omega))
  have f23 : (0 : Int) ≤ τ 39 6 ∧ τ 39 6 ≤ 1 := hIτ 39 6
  have y24 : σ9 90 0 = τ 90 0 := ((hGσ9 90 0 (show ¬ ((90 = 88 ∧ (0 = 19 ∨ 0 = 20 ∨ 0 = 21 ∨ 0 = 22 ∨ 0 = 23))) from by omega))).trans (hGσ2 90 0 (show ¬ ((90 = 58 ∧ (0 = 2 ∨ 0 = 3))) from by omega))
  have f25 : (0 : Int) ≤ τ 90 0 ∧ τ 90 0 ≤ 1 := hIτ 90 0
  have y26 : σ9 90 1 = τ 90 1 := ((hGσ9 90 1 (show ¬ ((90 = 88 ∧ (1 = 19 ∨ 1 = 20 ∨ 1 = 21 ∨ 1 = 22 ∨ 1 = 23))) from by omega))).trans (hGσ2 90 1 (show ¬ ((90 = 58 ∧ (1 = 2 ∨ 1 = 3))) from by omega))
  have f27 : (0 : Int) ≤ τ 90 1 ∧ τ 90 1 ≤ 1 := hIτ 90 1
  exact K σ9 hIσ9 ⟨mσ9, by omega, sσ9, bσ9, by omega, by omega, by omega, tσ9, stσ9⟩
set_option maxHeartbeats 4000000 in
set_option maxRecDepth 100000 in
theorem w_case_13 {G : tw_G} (hX : tw_isX G) (hM : tw_isM G) {E : List Frame → Array Value → State → State → Prop} (hN : (gN G : Int) ≤ 2560) (i : Int) (hi : 0 ≤ i ∧ i + 5 ≤ (gN G : Int)) (τ : tw_M) (hIτ : tw_I τ) (hL : tw_LI τ) (K : ∀ τ' : tw_M, tw_I τ' → tw_LI τ' → tw_J G tw_ML E 1352 [(0, vR 300), (1, vR 0), (2, vR 88), (3, vI i)] [] τ') : tw_J G tw_ML E 595 [(0, vR 300), (1, vR 0), (2, vR 88), (3, vI i)] [] τ := by
  obtain ⟨mτ, zτ, sτ, bτ, fτ, kτ0, kτ1, tτ, stτ⟩ := hL
  have g9 : (0 : Int) ≤ τ 10 10 ∧ τ 10 10 ≤ 400 := hIτ 10 10
  obtain ⟨v1, ev1⟩ : ∃ v : Int, v = (gxs G (i + 1).toNat).toInt := ⟨_, rfl⟩
  have hv1 : (-2147483648 : Int) ≤ v1 ∧ v1 ≤ 2147483647 := by rw [ev1]; exact i32_in _
  obtain ⟨v2, ev2⟩ : ∃ v : Int, v = (gxs G (i + 2).toNat).toInt := ⟨_, rfl⟩
  have hv2 : (-2147483648 : Int) ≤ v2 ∧ v2 ≤ 2147483647 := by rw [ev2]; exact i32_in _
  obtain ⟨v3, ev3⟩ : ∃ v : Int, v = (gxs G (i + 3).toNat).toInt := ⟨_, rfl⟩
  have hv3 : (-2147483648 : Int) ≤ v3 ∧ v3 ≤ 2147483647 := by rw [ev3]; exact i32_in _
  obtain ⟨v4, ev4⟩ : ∃ v : Int, v = (gxs G (i + 4).toNat).toInt := ⟨_, rfl⟩
  have hv4 : (-2147483648 : Int) ≤ v4 ∧ v4 ≤ 2147483647 := by rw [ev4]; exact i32_in _
  refine j_aload_n (pc := 595) dL_law_595 rfl rfl ?_
  refine j_aload_n (pc := 596) dL_law_596 rfl rfl ?_
  refine j_iload_n (pc := 597) dL_law_597 rfl rfl ?_
  refine j_iconst (pc := 598) dL_law_598 ?_
  refine j_iadd (pc := 599) dL_law_599 ?_
  refine j_scrAt (pc := 600) dL_law_600 (by omega) (by omega) (by omega) ?_
  refine j_topV (show _ = v1 from ev1.symm) ?_
  refine j_aload_n (pc := 601) dL_law_601 rfl rfl ?_
  refine j_iload_n (pc := 602) dL_law_602 rfl rfl ?_
  refine j_iconst (pc := 603) dL_law_603 ?_
  refine j_iadd (pc := 604) dL_law_604 ?_
  refine j_scrAt (pc := 605) dL_law_605 (by omega) (by omega) (by omega) ?_
  refine j_topV (show _ = v2 from ev2.symm) ?_
  refine j_callV (pc := 606) (As := [vI v1, vI v2]) (st := []) (c_X11_mean hX v1 ⟨by omega, by omega⟩ v2 ⟨by omega, by omega⟩ τ hIτ) mv_L_74 rfl rfl rfl (a_0 hX) dL_law_606 ⟨Nat.le_of_ble_eq_true rfl, Nat.le_of_ble_eq_true rfl⟩ ⟨Nat.le_of_ble_eq_true rfl, Nat.le_of_ble_eq_true rfl⟩ rfl (Nat.le_of_ble_eq_true rfl) rfl (fun z1 σ2 hz1 => ?_)
  obtain ⟨r4, rfl, hr4, hIσ2, hGσ2, -⟩ := hz1
  refine j_st (st' := [vL r4]) rfl ?_
  have y5 : σ2 10 10 = τ 10 10 := (hGσ2 10 10 (show ¬ ((10 = 58 ∧ (10 = 2 ∨ 10 = 3))) from by omega))
  have f6 : (0 : Int) ≤ τ 10 10 ∧ τ 10 10 ≤ 400 := hIτ 10 10
  have bσ2 : BY σ2 := BY_kept bτ (fun j => hGσ2 11 j (show ¬ ((11 = 58 ∧ (j = 2 ∨ j = 3))) from by omega)) (fun j => hGσ2 98 j (show ¬ ((98 = 58 ∧ (j = 2 ∨ j = 3))) from by omega)) (by omega)
  have mσ2 : mI σ2 := mI_kept mτ (fun j hj => hGσ2 89 j (show ¬ ((89 = 58 ∧ (j = 2 ∨ j = 3))) from by omega)) (fun j => hGσ2 90 j (show ¬ ((90 = 58 ∧ (j = 2 ∨ j = 3))) from by omega)) (hGσ2 91 0 (show ¬ ((91 = 58 ∧ (0 = 2 ∨ 0 = 3))) from by omega)) hIτ
  have sσ2 : SR σ2 := SR_kept sτ (fun c j h => hGσ2 c j (show ¬ ((c = 58 ∧ (j = 2 ∨ j = 3))) from by omega)) (fun j => hGσ2 104 j (show ¬ ((104 = 58 ∧ (j = 2 ∨ j = 3))) from by omega)) (fun j => hGσ2 105 j (show ¬ ((105 = 58 ∧ (j = 2 ∨ j = 3))) from by omega))
  have tσ2 : TT σ2 := TT_kept tτ (fun c j h => hGσ2 c j (show ¬ ((c = 58 ∧ (j = 2 ∨ j = 3))) from by omega)) (fun j h => hGσ2 89 j (show ¬ ((89 = 58 ∧ (j = 2 ∨ j = 3))) from by omega))
  have stσ2 : ST σ2 := ST_F stτ (fun c j h => hGσ2 c j (show ¬ ((c = 58 ∧ (j = 2 ∨ j = 3))) from by unfold STR at h; omega))
  refine j_pop2 (pc := 609) dL_law_609 rfl ?_
  refine j_aload_n (pc := 610) dL_law_610 rfl rfl ?_
  refine j_aload_n (pc := 611) dL_law_611 rfl rfl ?_
  refine j_iload_n (pc := 612) dL_law_612 rfl rfl ?_
  refine j_iconst (pc := 613) dL_law_613 ?_
  refine j_iadd (pc := 614) dL_law_614 ?_
  refine j_scrAt (pc := 615) dL_law_615 (by omega) (by omega) (by omega) ?_
  refine j_topV (show _ = v1 from ev1.symm) ?_
  refine j_aload_n (pc := 616) dL_law_616 rfl rfl ?_
  refine j_iload_n (pc := 617) dL_law_617 rfl rfl ?_
  refine j_iconst (pc := 618) dL_law_618 ?_
  refine j_iadd (pc := 619) dL_law_619 ?_
  refine j_scrAt (pc := 620) dL_law_620 (by omega) (by omega) (by omega) ?_
  refine j_topV (show _ = v2 from ev2.symm) ?_
  have y7 : σ2 0 ((σ2 91 0).toNat) = τ 0 ((σ2 91 0).toNat) := (hGσ2 0 ((σ2 91 0).toNat) (show ¬ ((0 = 58 ∧ ((σ2 91 0).toNat = 2 ∨ (σ2 91 0).toNat = 3))) from by omega))
  refine j_callV (pc := 621) (As := [vI v1, vI v2]) (st := []) (c_X12_mean hM v1 ⟨by omega, by omega⟩ v2 ⟨by omega, by omega⟩ σ2 hIσ2 mσ2.1) mv_L_78 rfl rfl rfl (a_88 hM) dL_law_621 ⟨Nat.le_of_ble_eq_true rfl, Nat.le_of_ble_eq_true rfl⟩ ⟨Nat.le_of_ble_eq_true rfl, Nat.le_of_ble_eq_true rfl⟩ rfl (Nat.le_of_ble_eq_true rfl) rfl (fun z8 σ9 hz8 => ?_)
  obtain ⟨r11, rfl, hr11, hIσ9, hGσ9, -⟩ := hz8
  refine j_st (st' := [vL r11]) rfl ?_
  have y12 : σ9 10 10 = τ 10 10 := ((hGσ9 10 10 (show ¬ ((10 = 88 ∧ (10 = 19 ∨ 10 = 20 ∨ 10 = 21 ∨ 10 = 22 ∨ 10 = 23))) from by omega))).trans (hGσ2 10 10 (show ¬ ((10 = 58 ∧ (10 = 2 ∨ 10 = 3))) from by omega))
  have bσ9 : BY σ9 := BY_kept bσ2 (fun j => hGσ9 11 j (show ¬ ((11 = 88 ∧ (j = 19 ∨ j = 20 ∨ j = 21 ∨ j = 22 ∨ j = 23))) from by omega)) (fun j => hGσ9 98 j (show ¬ ((98 = 88 ∧ (j = 19 ∨ j = 20 ∨ j = 21 ∨ j = 22 ∨ j = 23))) from by omega)) (by omega)
  have mσ9 : mI σ9 := mI_kept mσ2 (fun j hj => hGσ9 89 j (show ¬ ((89 = 88 ∧ (j = 19 ∨ j = 20 ∨ j = 21 ∨ j = 22 ∨ j = 23))) from by omega)) (fun j => hGσ9 90 j (show ¬ ((90 = 88 ∧ (j = 19 ∨ j = 20 ∨ j = 21 ∨ j = 22 ∨ j = 23))) from by omega)) (hGσ9 91 0 (show ¬ ((91 = 88 ∧ (0 = 19 ∨ 0 = 20 ∨ 0 = 21 ∨ 0 = 22 ∨ 0 = 23))) from by omega)) hIσ2
  have sσ9 : SR σ9 := SR_kept sσ2 (fun c j h => hGσ9 c j (show ¬ ((c = 88 ∧ (j = 19 ∨ j = 20 ∨ j = 21 ∨ j = 22 ∨ j = 23))) from by omega)) (fun j => hGσ9 104 j (show ¬ ((104 = 88 ∧ (j = 19 ∨ j = 20 ∨ j = 21 ∨ j = 22 ∨ j = 23))) from by omega)) (fun j => hGσ9 105 j (show ¬ ((105 = 88 ∧ (j = 19 ∨ j = 20 ∨ j = 21 ∨ j = 22 ∨ j = 23))) from by omega))
  have tσ9 : TT σ9 := TT_kept tσ2 (fun c j h => hGσ9 c j (show ¬ ((c = 88 ∧ (j = 19 ∨ j = 20 ∨ j = 21 ∨ j = 22 ∨ j = 23))) from by omega)) (fun j h => hGσ9 89 j (show ¬ ((89 = 88 ∧ (j = 19 ∨ j = 20 ∨ j = 21 ∨ j = 22 ∨ j = 23))) from by omega))
  have stσ9 : ST σ9 := ST_F stσ2 (fun c j h => hGσ9 c j (show ¬ ((c = 88 ∧ (j = 19 ∨ j = 20 ∨ j = 21 ∨ j = 22 ∨ j = 23))) from by unfold STR at h; omega))
  refine j_pop2 (pc := 624) dL_law_624 rfl ?_
  refine j_goto (pc := 625) (tgt := 1352) dL_law_625 rfl ?_
  have y13 : σ9 10 10 = τ 10 10 := ((hGσ9 10 10 (show ¬ ((10 = 88 ∧ (10 = 19 ∨ 10 = 20 ∨ 10 = 21 ∨ 10 = 22 ∨ 10 = 23))) from by omega))).trans (hGσ2 10 10 (show ¬ ((10 = 58 ∧ (10 = 2 ∨ 10 = 3))) from by omega))
  have y14 : σ9 88 12 = τ 88 12 := ((hGσ9 88 12 (show ¬ ((88 = 88 ∧ (12 = 19 ∨ 12 = 20 ∨ 12 = 21 ∨ 12 = 22 ∨ 12 = 23))) from by omega))).trans (hGσ2 88 12 (show ¬ ((88 = 58 ∧ (12 = 2 ∨ 12 = 3))) from by omega))
  have f15 : (0 : Int) ≤ τ 88 12 ∧ τ 88 12 ≤ 400 := hIτ 88 12
  have y16 : σ9 0 13 = τ 0 13 := ((hGσ9 0 13 (show ¬ ((0 = 88 ∧ (13 = 19 ∨ 13 = 20 ∨ 13 = 21 ∨ 13 = 22 ∨ 13 = 23))) from by omega))).trans (hGσ2 0 13 (show ¬ ((0 = 58 ∧ (13 = 2 ∨ 13 = 3))) from by omega))
  have f17 : (-2147483648 : Int) ≤ τ 0 13 ∧ τ 0 13 ≤ 2147483647 := hIτ 0 13
  have y18 : σ9 88 17 = τ 88 17 := ((hGσ9 88 17 (show ¬ ((88 = 88 ∧ (17 = 19 ∨ 17 = 20 ∨ 17 = 21 ∨ 17 = 22 ∨ 17 = 23))) from by omega))).trans (hGσ2 88 17 (show ¬ ((88 = 58 ∧ (17 = 2 ∨ 17 = 3))) from by omega))
  have f19 : (0 : Int) ≤ τ 88 17 ∧ τ 88 17 ≤ 5 := hIτ 88 17
  have y20 : σ9 31 6 = τ 31 6 := ((hGσ9 31 6 (show ¬ ((31 = 88 ∧ (6 = 19 ∨ 6 = 20 ∨ 6 = 21 ∨ 6 = 22 ∨ 6 = 23))) from by omega))).trans (hGσ2 31 6 (show ¬ ((31 = 58 ∧ (6 = 2 ∨ 6 = 3))) from by omega))
  have f21 : (0 : Int) ≤ τ 31 6 ∧ τ 31 6 ≤ 1 := hIτ 31 6
  have y22 : σ9 39 6 = τ 39 6 := ((hGσ9 39 6 (show ¬ ((39 = 88 ∧ (6 = 19 ∨ 6 = 20 ∨ 6 = 21 ∨ 6 = 22 ∨ 6 = 23))) from by omega))).trans (hGσ2 39 6 (show ¬ ((39 = 58 ∧ (6 = 2 ∨ 6 = 3))) from by omega))
  have f23 : (0 : Int) ≤ τ 39 6 ∧ τ 39 6 ≤ 1 := hIτ 39 6
  have y24 : σ9 90 0 = τ 90 0 := ((hGσ9 90 0 (show ¬ ((90 = 88 ∧ (0 = 19 ∨ 0 = 20 ∨ 0 = 21 ∨ 0 = 22 ∨ 0 = 23))) from by omega))).trans (hGσ2 90 0 (show ¬ ((90 = 58 ∧ (0 = 2 ∨ 0 = 3))) from by omega))
  have f25 : (0 : Int) ≤ τ 90 0 ∧ τ 90 0 ≤ 1 := hIτ 90 0
  have y26 : σ9 90 1 = τ 90 1 := ((hGσ9 90 1 (show ¬ ((90 = 88 ∧ (1 = 19 ∨ 1 = 20 ∨ 1 = 21 ∨ 1 = 22 ∨ 1 = 23))) from by omega))).trans (hGσ2 90 1 (show ¬ ((90 = 58 ∧ (1 = 2 ∨ 1 = 3))) from by omega))
  have f27 : (0 : Int) ≤ τ 90 1 ∧ τ 90 1 ≤ 1 := hIτ 90 1
  exact K σ9 hIσ9 ⟨mσ9, by omega, sσ9, bσ9, by omega, by omega, by omega, tσ9, stσ9⟩
