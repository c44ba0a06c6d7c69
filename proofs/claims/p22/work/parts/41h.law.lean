set_option maxHeartbeats 4000000 in
set_option maxRecDepth 100000 in
theorem w_case_35 {G : tw_G} (hX : tw_isX G) (hM : tw_isM G) {E : List Frame → Array Value → State → State → Prop} (hN : (gN G : Int) ≤ 2560) (i : Int) (hi : 0 ≤ i ∧ i + 5 ≤ (gN G : Int)) (τ : tw_M) (hIτ : tw_I τ) (hL : tw_LI τ) (K : ∀ τ' : tw_M, tw_I τ' → tw_LI τ' → tw_J G tw_ML E 1352 [(0, vR 300), (1, vR 0), (2, vR 88), (3, vI i)] [] τ') : tw_J G tw_ML E 1263 [(0, vR 300), (1, vR 0), (2, vR 88), (3, vI i)] [] τ := by
  obtain ⟨mτ, zτ, sτ, bτ, fτ, kτ0, kτ1, tτ, stτ⟩ := hL
  have g9 : (0 : Int) ≤ τ 10 10 ∧ τ 10 10 ≤ 400 := hIτ 10 10
  obtain ⟨v1, ev1⟩ : ∃ v : Int, v = (gxs G (i + 1).toNat).toInt := ⟨_, rfl⟩
  have hv1 : (-2147483648 : Int) ≤ v1 ∧ v1 ≤ 2147483647 := by rw [ev1]; exact i32_in _
  obtain ⟨v2, ev2⟩ : ∃ v : Int, v = (gxs G (i + 2).toNat).toInt := ⟨_, rfl⟩
  have hv2 : (-2147483648 : Int) ≤ v2 ∧ v2 ≤ 2147483647 := by rw [ev2]; exact i32_in _
  obtain ⟨v3, ev3⟩ : ∃ v : Int, v = (gxs G (i + 3).toNat).toInt := ⟨_, rfl⟩
  have hv3 : (-2147483648 : Int) ≤ v3 ∧ v3 ≤ 2147483647 := by rw [ev3]; exact i32_in _
  obtain ⟨v4, ev4⟩ : ∃ v : Int, v = (gxs G (i + 4).toNat).toInt := ⟨_, rfl⟩
  have hv4 : (-2147483648 : Int) ≤ v4 ∧ v4 ≤ 2147483647 := by rw [ev4]; exact i32_in _
  refine j_aload_n (pc := 1263) dL_law_1263 rfl rfl ?_
  refine j_aload_n (pc := 1264) dL_law_1264 rfl rfl ?_
  refine j_iload_n (pc := 1265) dL_law_1265 rfl rfl ?_
  refine j_iconst (pc := 1266) dL_law_1266 ?_
  refine j_iadd (pc := 1267) dL_law_1267 ?_
  refine j_scrAt (pc := 1268) dL_law_1268 (by omega) (by omega) (by omega) ?_
  refine j_topV (show _ = v1 from ev1.symm) ?_
  refine j_aload_n (pc := 1269) dL_law_1269 rfl rfl ?_
  refine j_iload_n (pc := 1270) dL_law_1270 rfl rfl ?_
  refine j_iconst (pc := 1271) dL_law_1271 ?_
  refine j_iadd (pc := 1272) dL_law_1272 ?_
  refine j_scrAt (pc := 1273) dL_law_1273 (by omega) (by omega) (by omega) ?_
  refine j_topV (show _ = v2 from ev2.symm) ?_
  refine j_aload_n (pc := 1274) dL_law_1274 rfl rfl ?_
  refine j_iload_n (pc := 1275) dL_law_1275 rfl rfl ?_
  refine j_iconst (pc := 1276) dL_law_1276 ?_
  refine j_iadd (pc := 1277) dL_law_1277 ?_
  refine j_scrAt (pc := 1278) dL_law_1278 (by omega) (by omega) (by omega) ?_
  refine j_topV (show _ = v3 from ev3.symm) ?_
  refine j_aload_n (pc := 1279) dL_law_1279 rfl rfl ?_
  refine j_iload_n (pc := 1280) dL_law_1280 rfl rfl ?_
  refine j_iconst (pc := 1281) dL_law_1281 ?_
  refine j_iadd (pc := 1282) dL_law_1282 ?_
  refine j_scrAt (pc := 1283) dL_law_1283 (by omega) (by omega) (by omega) ?_
  refine j_topV (show _ = v4 from ev4.symm) ?_
  refine j_callV (pc := 1284) (As := [vI v1, vI v2, vI v3, vI v4]) (st := []) (c_X11_read hX v1 ⟨by omega, by omega⟩ v2 ⟨by omega, by omega⟩ v3 ⟨by omega, by omega⟩ v4 ⟨by omega, by omega⟩ τ hIτ) mv_L_165 rfl rfl rfl (a_0 hX) dL_law_1284 ⟨Nat.le_of_ble_eq_true rfl, Nat.le_of_ble_eq_true rfl⟩ ⟨Nat.le_of_ble_eq_true rfl, Nat.le_of_ble_eq_true rfl⟩ rfl (Nat.le_of_ble_eq_true rfl) rfl (fun z1 σ2 hz1 => ?_)
  obtain ⟨r4, rfl, hr4, hIσ2, hGσ2, q3_0, q3_1, q3_2, q3_3, q3_4, q3_5, q3_6⟩ := hz1
  replace q3_0 : σ2 29 0 = τ 29 0 := q3_0
  replace q3_1 : σ2 30 0 = τ 30 0 := q3_1
  replace q3_2 : σ2 29 1 = τ 29 1 := q3_2
  replace q3_3 : σ2 30 1 = τ 30 1 := q3_3
  replace q3_4 : ∀ gg qq rk : Nat → Int, RG 24 gg qq τ → CNR rk gg 28 τ → (r4 = -1 ∧ ¬ (0 ≤ v1 ∧ v1 ≤ 3 ∧ 0 ≤ v2 ∧ v2 ≤ 2 ∧ 0 ≤ v4 ∧ v4 ≤ 10) ∧ ∀ c j, σ2 c j = τ c j) ∨ ((0 ≤ v1 ∧ v1 ≤ 3 ∧ 0 ≤ v2 ∧ v2 ≤ 2 ∧ 0 ≤ v4 ∧ v4 ≤ 10) ∧ ∃ cz : Int, ((cz = 0 ∧ 0 < v4 ∧ r4 = 0 ∧ σ2 0 14 = 1 ∧ τ (80 + 2 * v1.toNat) 1 = 0) ∨ (cz = 0 ∧ 0 < v4 ∧ r4 = 0 ∧ σ2 0 14 = 3 ∧ ¬ τ (80 + 2 * v1.toNat) 1 = 0 ∧ ¬ τ (80 + 2 * v1.toNat) 2 = v2) ∨ ((v4 = 0 ∨ (¬ τ (80 + 2 * v1.toNat) 1 = 0 ∧ τ (80 + 2 * v1.toNat) 2 = v2)) ∧ RDE (rdF (τ (80 + 2 * v1.toNat) 3) v3) (fun x => rdO (wW 1 τ) rk (CC (81 + 2 * v1.toNat) τ) v3 gg x = 0) v4 cz r4 (σ2 0 14))) ∧ ((0 ≤ r4 ∧ RDX rk (CC (81 + 2 * v1.toNat) τ) v3 gg qq cz.toNat σ2) ∨ (r4 < 0 ∧ RDX rk (CC (81 + 2 * v1.toNat) τ) v3 gg qq 0 σ2 ∧ σ2 0 14 = τ 0 14))) := q3_4
  replace q3_5 : σ2 23 4 = τ 23 4 := q3_5
  replace q3_6 : σ2 23 5 = τ 23 5 := q3_6
  refine j_st (st' := [vI r4]) rfl ?_
  have y5 : σ2 10 10 = τ 10 10 := (hGσ2 10 10 (show ¬ ((23 ≤ 10 ∧ 10 < 31) ∨ (47 ≤ 10 ∧ 10 < 55) ∨ (10 = 0 ∧ (10 = 14))) from by omega))
  have f6 : (0 : Int) ≤ τ 10 10 ∧ τ 10 10 ≤ 400 := hIτ 10 10
  have bσ2 : BY σ2 := BY_kept bτ (fun j => hGσ2 11 j (show ¬ ((23 ≤ 11 ∧ 11 < 31) ∨ (47 ≤ 11 ∧ 11 < 55) ∨ (11 = 0 ∧ (j = 14))) from by omega)) (fun j => hGσ2 98 j (show ¬ ((23 ≤ 98 ∧ 98 < 31) ∨ (47 ≤ 98 ∧ 98 < 55) ∨ (98 = 0 ∧ (j = 14))) from by omega)) (by omega)
  have mσ2 : mI σ2 := mI_kept mτ (fun j hj => hGσ2 89 j (show ¬ ((23 ≤ 89 ∧ 89 < 31) ∨ (47 ≤ 89 ∧ 89 < 55) ∨ (89 = 0 ∧ (j = 14))) from by omega)) (fun j => hGσ2 90 j (show ¬ ((23 ≤ 90 ∧ 90 < 31) ∨ (47 ≤ 90 ∧ 90 < 55) ∨ (90 = 0 ∧ (j = 14))) from by omega)) (hGσ2 91 0 (show ¬ ((23 ≤ 91 ∧ 91 < 31) ∨ (47 ≤ 91 ∧ 91 < 55) ∨ (91 = 0 ∧ (0 = 14))) from by omega)) hIτ
  have sσ2 : SR σ2 := SR_kept sτ (fun c j h => hGσ2 c j (show ¬ ((23 ≤ c ∧ c < 31) ∨ (47 ≤ c ∧ c < 55) ∨ (c = 0 ∧ (j = 14))) from by omega)) (fun j => hGσ2 104 j (show ¬ ((23 ≤ 104 ∧ 104 < 31) ∨ (47 ≤ 104 ∧ 104 < 55) ∨ (104 = 0 ∧ (j = 14))) from by omega)) (fun j => hGσ2 105 j (show ¬ ((23 ≤ 105 ∧ 105 < 31) ∨ (47 ≤ 105 ∧ 105 < 55) ∨ (105 = 0 ∧ (j = 14))) from by omega))
  refine j_pop (pc := 1287) dL_law_1287 rfl ?_
  refine j_aload_n (pc := 1288) dL_law_1288 rfl rfl ?_
  refine j_aload_n (pc := 1289) dL_law_1289 rfl rfl ?_
  refine j_iload_n (pc := 1290) dL_law_1290 rfl rfl ?_
  refine j_iconst (pc := 1291) dL_law_1291 ?_
  refine j_iadd (pc := 1292) dL_law_1292 ?_
  refine j_scrAt (pc := 1293) dL_law_1293 (by omega) (by omega) (by omega) ?_
  refine j_topV (show _ = v1 from ev1.symm) ?_
  refine j_aload_n (pc := 1294) dL_law_1294 rfl rfl ?_
  refine j_iload_n (pc := 1295) dL_law_1295 rfl rfl ?_
  refine j_iconst (pc := 1296) dL_law_1296 ?_
  refine j_iadd (pc := 1297) dL_law_1297 ?_
  refine j_scrAt (pc := 1298) dL_law_1298 (by omega) (by omega) (by omega) ?_
  refine j_topV (show _ = v2 from ev2.symm) ?_
  refine j_aload_n (pc := 1299) dL_law_1299 rfl rfl ?_
  refine j_iload_n (pc := 1300) dL_law_1300 rfl rfl ?_
  refine j_iconst (pc := 1301) dL_law_1301 ?_
  refine j_iadd (pc := 1302) dL_law_1302 ?_
  refine j_scrAt (pc := 1303) dL_law_1303 (by omega) (by omega) (by omega) ?_
  refine j_topV (show _ = v3 from ev3.symm) ?_
  refine j_aload_n (pc := 1304) dL_law_1304 rfl rfl ?_
  refine j_iload_n (pc := 1305) dL_law_1305 rfl rfl ?_
  refine j_iconst (pc := 1306) dL_law_1306 ?_
  refine j_iadd (pc := 1307) dL_law_1307 ?_
  refine j_scrAt (pc := 1308) dL_law_1308 (by omega) (by omega) (by omega) ?_
  refine j_topV (show _ = v4 from ev4.symm) ?_
  refine j_callV (pc := 1309) (As := [vI v1, vI v2, vI v3, vI v4]) (st := []) (c_X12_read hM v1 ⟨by omega, by omega⟩ v2 ⟨by omega, by omega⟩ v3 ⟨by omega, by omega⟩ v4 ⟨by omega, by omega⟩ σ2 hIσ2 mσ2) mv_L_169 rfl rfl rfl (a_88 hM) dL_law_1309 ⟨Nat.le_of_ble_eq_true rfl, Nat.le_of_ble_eq_true rfl⟩ ⟨Nat.le_of_ble_eq_true rfl, Nat.le_of_ble_eq_true rfl⟩ rfl (Nat.le_of_ble_eq_true rfl) rfl (fun z7 σ8 hz7 => ?_)
  obtain ⟨r10, rfl, hr10, hIσ8, hGσ8, q9_0, q9_1, q9_2, q9_3, q9_4, q9_5⟩ := hz7
  replace q9_0 : mI σ8 := q9_0
  replace q9_1 : σ8 89 93 = σ2 89 93 := q9_1
  have y11 : σ2 89 93 = τ 89 93 := (hGσ2 89 93 (show ¬ ((23 ≤ 89 ∧ 89 < 31) ∨ (47 ≤ 89 ∧ 89 < 55) ∨ (89 = 0 ∧ (93 = 14))) from by omega))
  have f12 : (0 : Int) ≤ τ 89 93 ∧ τ 89 93 ≤ 999 := hIτ 89 93
  replace q9_2 : σ8 89 94 = σ2 89 94 := q9_2
  have y13 : σ2 89 94 = τ 89 94 := (hGσ2 89 94 (show ¬ ((23 ≤ 89 ∧ 89 < 31) ∨ (47 ≤ 89 ∧ 89 < 55) ∨ (89 = 0 ∧ (94 = 14))) from by omega))
  have f14 : (-2147483648 : Int) ≤ τ 89 94 ∧ τ 89 94 ≤ 2147483647 := hIτ 89 94
  replace q9_3 : σ8 89 95 = σ2 89 95 := q9_3
  have y15 : σ2 89 95 = τ 89 95 := (hGσ2 89 95 (show ¬ ((23 ≤ 89 ∧ 89 < 31) ∨ (47 ≤ 89 ∧ 89 < 55) ∨ (89 = 0 ∧ (95 = 14))) from by omega))
  have f16 : (0 : Int) ≤ τ 89 95 ∧ τ 89 95 ≤ 999 := hIτ 89 95
  replace q9_4 : σ8 89 96 = σ2 89 96 := q9_4
  have y17 : σ2 89 96 = τ 89 96 := (hGσ2 89 96 (show ¬ ((23 ≤ 89 ∧ 89 < 31) ∨ (47 ≤ 89 ∧ 89 < 55) ∨ (89 = 0 ∧ (96 = 14))) from by omega))
  have f18 : (-2147483648 : Int) ≤ τ 89 96 ∧ τ 89 96 ≤ 2147483647 := hIτ 89 96
  replace q9_5 : ∀ rk : Nat → Int, MOB rk 0 σ2 → (r10 = -1 ∧ ¬ (0 ≤ v1 ∧ v1 ≤ 3 ∧ 0 ≤ v2 ∧ v2 ≤ 2 ∧ 0 ≤ v4 ∧ v4 ≤ 10) ∧ ∀ c j, σ8 c j = σ2 c j) ∨ ((0 ≤ v1 ∧ v1 ≤ 3 ∧ 0 ≤ v2 ∧ v2 ≤ 2 ∧ 0 ≤ v4 ∧ v4 ≤ 10) ∧ ∃ cz : Int, ((cz = 0 ∧ 0 < v4 ∧ r10 = 0 ∧ σ8 88 38 = 1 ∧ σ2 104 v1.toNat = -4) ∨ (cz = 0 ∧ 0 < v4 ∧ r10 = 0 ∧ σ8 88 38 = 3 ∧ ¬ σ2 104 v1.toNat = -4 ∧ ¬ σ2 104 v1.toNat = v2) ∨ ((v4 = 0 ∨ (¬ σ2 104 v1.toNat = -4 ∧ σ2 104 v1.toNat = v2)) ∧ RDE (rdF (σ2 105 v1.toNat) v3) (fun x => rdO (wM σ2) rk (CM v1 σ2) v3 (gM 0 σ2) x = 0) v4 cz r10 (σ8 88 38))) ∧ ((0 ≤ r10 ∧ RDM rk (CM v1 σ2) v3 cz.toNat σ2 σ8) ∨ (r10 < 0 ∧ RDM rk (CM v1 σ2) v3 0 σ2 σ8 ∧ σ8 88 38 = σ2 88 38))) := q9_5
  have y19 : σ2 104 (v1.toNat) = τ 104 (v1.toNat) := (hGσ2 104 (v1.toNat) (show ¬ ((23 ≤ 104 ∧ 104 < 31) ∨ (47 ≤ 104 ∧ 104 < 55) ∨ (104 = 0 ∧ (v1.toNat = 14))) from by omega))
  have y20 : σ2 105 (v1.toNat) = τ 105 (v1.toNat) := (hGσ2 105 (v1.toNat) (show ¬ ((23 ≤ 105 ∧ 105 < 31) ∨ (47 ≤ 105 ∧ 105 < 55) ∨ (105 = 0 ∧ (v1.toNat = 14))) from by omega))
  have y21 : σ2 88 38 = τ 88 38 := (hGσ2 88 38 (show ¬ ((23 ≤ 88 ∧ 88 < 31) ∨ (47 ≤ 88 ∧ 88 < 55) ∨ (88 = 0 ∧ (38 = 14))) from by omega))
  have f22 : (-2147483648 : Int) ≤ τ 88 38 ∧ τ 88 38 ≤ 2147483647 := hIτ 88 38
  refine j_st (st' := [vI r10]) rfl ?_
  have y23 : σ8 10 10 = τ 10 10 := ((hGσ8 10 10 (show ¬ ((10 = 88 ∧ (10 = 38)) ∨ (10 = 89 ∧ (10 < 100 ∨ 300 ≤ 10))) from by omega))).trans (hGσ2 10 10 (show ¬ ((23 ≤ 10 ∧ 10 < 31) ∨ (47 ≤ 10 ∧ 10 < 55) ∨ (10 = 0 ∧ (10 = 14))) from by omega))
  have bσ8 : BY σ8 := BY_kept bσ2 (fun j => hGσ8 11 j (show ¬ ((11 = 88 ∧ (j = 38)) ∨ (11 = 89 ∧ (j < 100 ∨ 300 ≤ j))) from by omega)) (fun j => hGσ8 98 j (show ¬ ((98 = 88 ∧ (j = 38)) ∨ (98 = 89 ∧ (j < 100 ∨ 300 ≤ j))) from by omega)) (by omega)
  have mσ8 : mI σ8 := q9_0
  have sσ8 : SR σ8 := SR_kept sσ2 (fun c j h => hGσ8 c j (show ¬ ((c = 88 ∧ (j = 38)) ∨ (c = 89 ∧ (j < 100 ∨ 300 ≤ j))) from by omega)) (fun j => hGσ8 104 j (show ¬ ((104 = 88 ∧ (j = 38)) ∨ (104 = 89 ∧ (j < 100 ∨ 300 ≤ j))) from by omega)) (fun j => hGσ8 105 j (show ¬ ((105 = 88 ∧ (j = 38)) ∨ (105 = 89 ∧ (j < 100 ∨ 300 ≤ j))) from by omega))
  have ht9 : (1 : Int) ≤ τ 91 0 ∧ τ 91 0 ≤ 40 := hIτ 91 0
  have st9 := ST_read stτ (fun hk => by
    obtain ⟨s0, s1, s2, s3⟩ := sτ
    rcases (show v1 = 0 ∨ v1 = 1 ∨ v1 = 2 ∨ v1 = 3 by omega) with q9 | q9 | q9 | q9 <;> rw [q9]
    · exact s0
    · exact s1
    · exact s2
    · exact s3
    ) q3_4 q9_5 q3_5 q3_6 (fun c j h1 h2 h3 => hGσ2 c j (show ¬ ((23 ≤ c ∧ c < 31) ∨ (47 ≤ c ∧ c < 55) ∨ (c = 0 ∧ (j = 14))) from by omega)) (fun c j h1 h2 => hGσ8 c j (show ¬ ((c = 88 ∧ (j = 38)) ∨ (c = 89 ∧ (j < 100 ∨ 300 ≤ j))) from by omega))
  have rr9 := st9.2
  clear q3_4 q3_5 q3_6 q9_5
  refine j_pop (pc := 1312) dL_law_1312 rfl ?_
  refine j_goto (pc := 1313) (tgt := 1352) dL_law_1313 rfl ?_
  have y24 : σ8 10 10 = τ 10 10 := ((hGσ8 10 10 (show ¬ ((10 = 88 ∧ (10 = 38)) ∨ (10 = 89 ∧ (10 < 100 ∨ 300 ≤ 10))) from by omega))).trans (hGσ2 10 10 (show ¬ ((23 ≤ 10 ∧ 10 < 31) ∨ (47 ≤ 10 ∧ 10 < 55) ∨ (10 = 0 ∧ (10 = 14))) from by omega))
  have y25 : σ8 88 12 = τ 88 12 := ((hGσ8 88 12 (show ¬ ((88 = 88 ∧ (12 = 38)) ∨ (88 = 89 ∧ (12 < 100 ∨ 300 ≤ 12))) from by omega))).trans (hGσ2 88 12 (show ¬ ((23 ≤ 88 ∧ 88 < 31) ∨ (47 ≤ 88 ∧ 88 < 55) ∨ (88 = 0 ∧ (12 = 14))) from by omega))
  have f26 : (0 : Int) ≤ τ 88 12 ∧ τ 88 12 ≤ 400 := hIτ 88 12
  have y27 : σ8 0 13 = τ 0 13 := ((hGσ8 0 13 (show ¬ ((0 = 88 ∧ (13 = 38)) ∨ (0 = 89 ∧ (13 < 100 ∨ 300 ≤ 13))) from by omega))).trans (hGσ2 0 13 (show ¬ ((23 ≤ 0 ∧ 0 < 31) ∨ (47 ≤ 0 ∧ 0 < 55) ∨ (0 = 0 ∧ (13 = 14))) from by omega))
  have f28 : (-2147483648 : Int) ≤ τ 0 13 ∧ τ 0 13 ≤ 2147483647 := hIτ 0 13
  have y29 : σ8 88 17 = τ 88 17 := ((hGσ8 88 17 (show ¬ ((88 = 88 ∧ (17 = 38)) ∨ (88 = 89 ∧ (17 < 100 ∨ 300 ≤ 17))) from by omega))).trans (hGσ2 88 17 (show ¬ ((23 ≤ 88 ∧ 88 < 31) ∨ (47 ≤ 88 ∧ 88 < 55) ∨ (88 = 0 ∧ (17 = 14))) from by omega))
  have f30 : (0 : Int) ≤ τ 88 17 ∧ τ 88 17 ≤ 5 := hIτ 88 17
  have y31 : σ8 31 6 = τ 31 6 := ((hGσ8 31 6 (show ¬ ((31 = 88 ∧ (6 = 38)) ∨ (31 = 89 ∧ (6 < 100 ∨ 300 ≤ 6))) from by omega))).trans (hGσ2 31 6 (show ¬ ((23 ≤ 31 ∧ 31 < 31) ∨ (47 ≤ 31 ∧ 31 < 55) ∨ (31 = 0 ∧ (6 = 14))) from by omega))
  have f32 : (0 : Int) ≤ τ 31 6 ∧ τ 31 6 ≤ 1 := hIτ 31 6
  have y33 : σ8 39 6 = τ 39 6 := ((hGσ8 39 6 (show ¬ ((39 = 88 ∧ (6 = 38)) ∨ (39 = 89 ∧ (6 < 100 ∨ 300 ≤ 6))) from by omega))).trans (hGσ2 39 6 (show ¬ ((23 ≤ 39 ∧ 39 < 31) ∨ (47 ≤ 39 ∧ 39 < 55) ∨ (39 = 0 ∧ (6 = 14))) from by omega))
  have f34 : (0 : Int) ≤ τ 39 6 ∧ τ 39 6 ≤ 1 := hIτ 39 6
  have y35 : σ8 90 0 = τ 90 0 := ((hGσ8 90 0 (show ¬ ((90 = 88 ∧ (0 = 38)) ∨ (90 = 89 ∧ (0 < 100 ∨ 300 ≤ 0))) from by omega))).trans (hGσ2 90 0 (show ¬ ((23 ≤ 90 ∧ 90 < 31) ∨ (47 ≤ 90 ∧ 90 < 55) ∨ (90 = 0 ∧ (0 = 14))) from by omega))
  have f36 : (0 : Int) ≤ τ 90 0 ∧ τ 90 0 ≤ 1 := hIτ 90 0
  have y37 : σ8 90 1 = τ 90 1 := ((hGσ8 90 1 (show ¬ ((90 = 88 ∧ (1 = 38)) ∨ (90 = 89 ∧ (1 < 100 ∨ 300 ≤ 1))) from by omega))).trans (hGσ2 90 1 (show ¬ ((23 ≤ 90 ∧ 90 < 31) ∨ (47 ≤ 90 ∧ 90 < 55) ∨ (90 = 0 ∧ (1 = 14))) from by omega))
  have f38 : (0 : Int) ≤ τ 90 1 ∧ τ 90 1 ≤ 1 := hIτ 90 1
  obtain ⟨t0, t1, t2, t3, t4, t5, t6, t7, t8, t9, t10, t11, t12, t13, t14, t15, t16, t17⟩ := tτ
  have y39 : σ8 29 0 = σ2 29 0 := (hGσ8 29 0 (show ¬ ((29 = 88 ∧ (0 = 38)) ∨ (29 = 89 ∧ (0 < 100 ∨ 300 ≤ 0))) from by omega))
  have f40 : (0 : Int) ≤ σ2 29 0 ∧ σ2 29 0 ≤ 999 := hIσ2 29 0
  have y41 : σ8 30 0 = σ2 30 0 := (hGσ8 30 0 (show ¬ ((30 = 88 ∧ (0 = 38)) ∨ (30 = 89 ∧ (0 < 100 ∨ 300 ≤ 0))) from by omega))
  have f42 : (-2147483648 : Int) ≤ σ2 30 0 ∧ σ2 30 0 ≤ 2147483647 := hIσ2 30 0
  have y43 : σ8 29 1 = σ2 29 1 := (hGσ8 29 1 (show ¬ ((29 = 88 ∧ (1 = 38)) ∨ (29 = 89 ∧ (1 < 100 ∨ 300 ≤ 1))) from by omega))
  have f44 : (0 : Int) ≤ σ2 29 1 ∧ σ2 29 1 ≤ 999 := hIσ2 29 1
  have y45 : σ8 30 1 = σ2 30 1 := (hGσ8 30 1 (show ¬ ((30 = 88 ∧ (1 = 38)) ∨ (30 = 89 ∧ (1 < 100 ∨ 300 ≤ 1))) from by omega))
  have f46 : (-2147483648 : Int) ≤ σ2 30 1 ∧ σ2 30 1 ≤ 2147483647 := hIσ2 30 1
  have y47 : σ8 37 0 = τ 37 0 := ((hGσ8 37 0 (show ¬ ((37 = 88 ∧ (0 = 38)) ∨ (37 = 89 ∧ (0 < 100 ∨ 300 ≤ 0))) from by omega))).trans (hGσ2 37 0 (show ¬ ((23 ≤ 37 ∧ 37 < 31) ∨ (47 ≤ 37 ∧ 37 < 55) ∨ (37 = 0 ∧ (0 = 14))) from by omega))
  have f48 : (0 : Int) ≤ τ 37 0 ∧ τ 37 0 ≤ 999 := hIτ 37 0
  have y49 : σ8 38 0 = τ 38 0 := ((hGσ8 38 0 (show ¬ ((38 = 88 ∧ (0 = 38)) ∨ (38 = 89 ∧ (0 < 100 ∨ 300 ≤ 0))) from by omega))).trans (hGσ2 38 0 (show ¬ ((23 ≤ 38 ∧ 38 < 31) ∨ (47 ≤ 38 ∧ 38 < 55) ∨ (38 = 0 ∧ (0 = 14))) from by omega))
  have f50 : (-2147483648 : Int) ≤ τ 38 0 ∧ τ 38 0 ≤ 2147483647 := hIτ 38 0
  have y51 : σ8 37 1 = τ 37 1 := ((hGσ8 37 1 (show ¬ ((37 = 88 ∧ (1 = 38)) ∨ (37 = 89 ∧ (1 < 100 ∨ 300 ≤ 1))) from by omega))).trans (hGσ2 37 1 (show ¬ ((23 ≤ 37 ∧ 37 < 31) ∨ (47 ≤ 37 ∧ 37 < 55) ∨ (37 = 0 ∧ (1 = 14))) from by omega))
  have f52 : (0 : Int) ≤ τ 37 1 ∧ τ 37 1 ≤ 999 := hIτ 37 1
  have y53 : σ8 38 1 = τ 38 1 := ((hGσ8 38 1 (show ¬ ((38 = 88 ∧ (1 = 38)) ∨ (38 = 89 ∧ (1 < 100 ∨ 300 ≤ 1))) from by omega))).trans (hGσ2 38 1 (show ¬ ((23 ≤ 38 ∧ 38 < 31) ∨ (47 ≤ 38 ∧ 38 < 55) ∨ (38 = 0 ∧ (1 = 14))) from by omega))
  have f54 : (-2147483648 : Int) ≤ τ 38 1 ∧ τ 38 1 ≤ 2147483647 := hIτ 38 1
  have y55 : σ8 45 0 = τ 45 0 := ((hGσ8 45 0 (show ¬ ((45 = 88 ∧ (0 = 38)) ∨ (45 = 89 ∧ (0 < 100 ∨ 300 ≤ 0))) from by omega))).trans (hGσ2 45 0 (show ¬ ((23 ≤ 45 ∧ 45 < 31) ∨ (47 ≤ 45 ∧ 45 < 55) ∨ (45 = 0 ∧ (0 = 14))) from by omega))
  have f56 : (0 : Int) ≤ τ 45 0 ∧ τ 45 0 ≤ 999 := hIτ 45 0
  have y57 : σ8 46 0 = τ 46 0 := ((hGσ8 46 0 (show ¬ ((46 = 88 ∧ (0 = 38)) ∨ (46 = 89 ∧ (0 < 100 ∨ 300 ≤ 0))) from by omega))).trans (hGσ2 46 0 (show ¬ ((23 ≤ 46 ∧ 46 < 31) ∨ (47 ≤ 46 ∧ 46 < 55) ∨ (46 = 0 ∧ (0 = 14))) from by omega))
  have f58 : (-2147483648 : Int) ≤ τ 46 0 ∧ τ 46 0 ≤ 2147483647 := hIτ 46 0
  have y59 : σ8 45 1 = τ 45 1 := ((hGσ8 45 1 (show ¬ ((45 = 88 ∧ (1 = 38)) ∨ (45 = 89 ∧ (1 < 100 ∨ 300 ≤ 1))) from by omega))).trans (hGσ2 45 1 (show ¬ ((23 ≤ 45 ∧ 45 < 31) ∨ (47 ≤ 45 ∧ 45 < 55) ∨ (45 = 0 ∧ (1 = 14))) from by omega))
  have f60 : (0 : Int) ≤ τ 45 1 ∧ τ 45 1 ≤ 999 := hIτ 45 1
  have y61 : σ8 46 1 = τ 46 1 := ((hGσ8 46 1 (show ¬ ((46 = 88 ∧ (1 = 38)) ∨ (46 = 89 ∧ (1 < 100 ∨ 300 ≤ 1))) from by omega))).trans (hGσ2 46 1 (show ¬ ((23 ≤ 46 ∧ 46 < 31) ∨ (47 ≤ 46 ∧ 46 < 55) ∨ (46 = 0 ∧ (1 = 14))) from by omega))
  have f62 : (-2147483648 : Int) ≤ τ 46 1 ∧ τ 46 1 ≤ 2147483647 := hIτ 46 1
  have u193 : σ8 89 193 = τ 89 193 := ((hGσ8 89 193 (show ¬ ((89 = 88 ∧ (193 = 38)) ∨ (89 = 89 ∧ (193 < 100 ∨ 300 ≤ 193))) from by omega))).trans (hGσ2 89 193 (show ¬ ((23 ≤ 89 ∧ 89 < 31) ∨ (47 ≤ 89 ∧ 89 < 55) ∨ (89 = 0 ∧ (193 = 14))) from by omega))
  have u194 : σ8 89 194 = τ 89 194 := ((hGσ8 89 194 (show ¬ ((89 = 88 ∧ (194 = 38)) ∨ (89 = 89 ∧ (194 < 100 ∨ 300 ≤ 194))) from by omega))).trans (hGσ2 89 194 (show ¬ ((23 ≤ 89 ∧ 89 < 31) ∨ (47 ≤ 89 ∧ 89 < 55) ∨ (89 = 0 ∧ (194 = 14))) from by omega))
  have u195 : σ8 89 195 = τ 89 195 := ((hGσ8 89 195 (show ¬ ((89 = 88 ∧ (195 = 38)) ∨ (89 = 89 ∧ (195 < 100 ∨ 300 ≤ 195))) from by omega))).trans (hGσ2 89 195 (show ¬ ((23 ≤ 89 ∧ 89 < 31) ∨ (47 ≤ 89 ∧ 89 < 55) ∨ (89 = 0 ∧ (195 = 14))) from by omega))
  have u196 : σ8 89 196 = τ 89 196 := ((hGσ8 89 196 (show ¬ ((89 = 88 ∧ (196 = 38)) ∨ (89 = 89 ∧ (196 < 100 ∨ 300 ≤ 196))) from by omega))).trans (hGσ2 89 196 (show ¬ ((23 ≤ 89 ∧ 89 < 31) ∨ (47 ≤ 89 ∧ 89 < 55) ∨ (89 = 0 ∧ (196 = 14))) from by omega))
  have u293 : σ8 89 293 = τ 89 293 := ((hGσ8 89 293 (show ¬ ((89 = 88 ∧ (293 = 38)) ∨ (89 = 89 ∧ (293 < 100 ∨ 300 ≤ 293))) from by omega))).trans (hGσ2 89 293 (show ¬ ((23 ≤ 89 ∧ 89 < 31) ∨ (47 ≤ 89 ∧ 89 < 55) ∨ (89 = 0 ∧ (293 = 14))) from by omega))
  have u294 : σ8 89 294 = τ 89 294 := ((hGσ8 89 294 (show ¬ ((89 = 88 ∧ (294 = 38)) ∨ (89 = 89 ∧ (294 < 100 ∨ 300 ≤ 294))) from by omega))).trans (hGσ2 89 294 (show ¬ ((23 ≤ 89 ∧ 89 < 31) ∨ (47 ≤ 89 ∧ 89 < 55) ∨ (89 = 0 ∧ (294 = 14))) from by omega))
  have u295 : σ8 89 295 = τ 89 295 := ((hGσ8 89 295 (show ¬ ((89 = 88 ∧ (295 = 38)) ∨ (89 = 89 ∧ (295 < 100 ∨ 300 ≤ 295))) from by omega))).trans (hGσ2 89 295 (show ¬ ((23 ≤ 89 ∧ 89 < 31) ∨ (47 ≤ 89 ∧ 89 < 55) ∨ (89 = 0 ∧ (295 = 14))) from by omega))
  have u296 : σ8 89 296 = τ 89 296 := ((hGσ8 89 296 (show ¬ ((89 = 88 ∧ (296 = 38)) ∨ (89 = 89 ∧ (296 < 100 ∨ 300 ≤ 296))) from by omega))).trans (hGσ2 89 296 (show ¬ ((23 ≤ 89 ∧ 89 < 31) ∨ (47 ≤ 89 ∧ 89 < 55) ∨ (89 = 0 ∧ (296 = 14))) from by omega))
  exact K σ8 hIσ8 ⟨mσ8, by omega, sσ8, bσ8, by omega, by omega, by omega, ⟨by clear t1 t2 t3 t5 t6 t7 t9 t10 t11 t12 t13 t14 t15 t16 t17 q3_1 q3_2 q3_3 q9_2 q9_3 q9_4; omega, by clear t0 t2 t3 t4 t6 t7 t8 t10 t11 t12 t13 t14 t15 t16 t17 q3_0 q3_2 q3_3 q9_1 q9_3 q9_4; omega, by clear t0 t1 t3 t4 t5 t7 t8 t9 t11 t12 t13 t14 t15 t16 t17 q3_0 q3_1 q3_3 q9_1 q9_2 q9_4; omega, by clear t0 t1 t2 t4 t5 t6 t8 t9 t10 t12 t13 t14 t15 t16 t17 q3_0 q3_1 q3_2 q9_1 q9_2 q9_3; omega, by clear t1 t2 t3 t5 t6 t7 t9 t10 t11 t12 t13 t14 t15 t16 t17 q3_0 q3_1 q3_2 q3_3 q9_1 q9_2 q9_3 q9_4; omega, by clear t0 t2 t3 t4 t6 t7 t8 t10 t11 t12 t13 t14 t15 t16 t17 q3_0 q3_1 q3_2 q3_3 q9_1 q9_2 q9_3 q9_4; omega, by clear t0 t1 t3 t4 t5 t7 t8 t9 t11 t12 t13 t14 t15 t16 t17 q3_0 q3_1 q3_2 q3_3 q9_1 q9_2 q9_3 q9_4; omega, by clear t0 t1 t2 t4 t5 t6 t8 t9 t10 t12 t13 t14 t15 t16 t17 q3_0 q3_1 q3_2 q3_3 q9_1 q9_2 q9_3 q9_4; omega, by clear t1 t2 t3 t5 t6 t7 t9 t10 t11 t12 t13 t14 t15 t16 t17 q3_0 q3_1 q3_2 q3_3 q9_1 q9_2 q9_3 q9_4; omega, by clear t0 t2 t3 t4 t6 t7 t8 t10 t11 t12 t13 t14 t15 t16 t17 q3_0 q3_1 q3_2 q3_3 q9_1 q9_2 q9_3 q9_4; omega, by clear t0 t1 t3 t4 t5 t7 t8 t9 t11 t12 t13 t14 t15 t16 t17 q3_0 q3_1 q3_2 q3_3 q9_1 q9_2 q9_3 q9_4; omega, by clear t0 t1 t2 t4 t5 t6 t8 t9 t10 t12 t13 t14 t15 t16 t17 q3_0 q3_1 q3_2 q3_3 q9_1 q9_2 q9_3 q9_4; omega, by clear t2 t3 t6 t7 t10 t11 t13 t15 t17 q3_2 q3_3 q9_3 q9_4; omega, by clear t0 t1 t4 t5 t8 t9 t12 t14 t16 q3_0 q3_1 q9_1 q9_2; omega, by clear t2 t3 t6 t7 t10 t11 t13 t15 t17 q3_0 q3_1 q3_2 q3_3 q9_1 q9_2 q9_3 q9_4; omega, by clear t0 t1 t4 t5 t8 t9 t12 t14 t16 q3_0 q3_1 q3_2 q3_3 q9_1 q9_2 q9_3 q9_4; omega, by clear t2 t3 t6 t7 t10 t11 t13 t15 t17 q3_0 q3_1 q3_2 q3_3 q9_1 q9_2 q9_3 q9_4; omega, by clear t0 t1 t4 t5 t8 t9 t12 t14 t16 q3_0 q3_1 q3_2 q3_3 q9_1 q9_2 q9_3 q9_4; omega⟩, st9.1⟩
set_option maxHeartbeats 4000000 in
set_option maxRecDepth 100000 in
theorem w_case_36 {G : tw_G} (hX : tw_isX G) (hM : tw_isM G) {E : List Frame → Array Value → State → State → Prop} (hN : (gN G : Int) ≤ 2560) (i : Int) (hi : 0 ≤ i ∧ i + 5 ≤ (gN G : Int)) (τ : tw_M) (hIτ : tw_I τ) (hL : tw_LI τ) (K : ∀ τ' : tw_M, tw_I τ' → tw_LI τ' → tw_J G tw_ML E 1352 [(0, vR 300), (1, vR 0), (2, vR 88), (3, vI i)] [] τ') : tw_J G tw_ML E 1316 [(0, vR 300), (1, vR 0), (2, vR 88), (3, vI i)] [] τ := by
  obtain ⟨mτ, zτ, sτ, bτ, fτ, kτ0, kτ1, tτ, stτ⟩ := hL
  have g9 : (0 : Int) ≤ τ 10 10 ∧ τ 10 10 ≤ 400 := hIτ 10 10
  obtain ⟨v1, ev1⟩ : ∃ v : Int, v = (gxs G (i + 1).toNat).toInt := ⟨_, rfl⟩
  have hv1 : (-2147483648 : Int) ≤ v1 ∧ v1 ≤ 2147483647 := by rw [ev1]; exact i32_in _
  obtain ⟨v2, ev2⟩ : ∃ v : Int, v = (gxs G (i + 2).toNat).toInt := ⟨_, rfl⟩
  have hv2 : (-2147483648 : Int) ≤ v2 ∧ v2 ≤ 2147483647 := by rw [ev2]; exact i32_in _
  obtain ⟨v3, ev3⟩ : ∃ v : Int, v = (gxs G (i + 3).toNat).toInt := ⟨_, rfl⟩
  have hv3 : (-2147483648 : Int) ≤ v3 ∧ v3 ≤ 2147483647 := by rw [ev3]; exact i32_in _
  obtain ⟨v4, ev4⟩ : ∃ v : Int, v = (gxs G (i + 4).toNat).toInt := ⟨_, rfl⟩
  have hv4 : (-2147483648 : Int) ≤ v4 ∧ v4 ≤ 2147483647 := by rw [ev4]; exact i32_in _
  refine j_aload_n (pc := 1316) dL_law_1316 rfl rfl ?_
  refine j_callV (pc := 1317) (As := []) (st := []) (c_X11_torn hX τ hIτ) mv_L_170 rfl rfl rfl (a_0 hX) dL_law_1317 ⟨Nat.le_of_ble_eq_true rfl, Nat.le_of_ble_eq_true rfl⟩ ⟨Nat.le_of_ble_eq_true rfl, Nat.le_of_ble_eq_true rfl⟩ rfl (Nat.le_of_ble_eq_true rfl) rfl (fun z1 σ2 hz1 => ?_)
  obtain ⟨r4, rfl, hr4, rfl, q3_0⟩ := hz1
  replace q3_0 : r4 = τ 0 14 := q3_0
  refine j_st (st' := [vI r4]) rfl ?_
  refine j_pop (pc := 1320) dL_law_1320 rfl ?_
  refine j_aload_n (pc := 1321) dL_law_1321 rfl rfl ?_
  refine j_callV (pc := 1322) (As := []) (st := []) (c_X12_torn hM τ hIτ) mv_L_173 rfl rfl rfl (a_88 hM) dL_law_1322 ⟨Nat.le_of_ble_eq_true rfl, Nat.le_of_ble_eq_true rfl⟩ ⟨Nat.le_of_ble_eq_true rfl, Nat.le_of_ble_eq_true rfl⟩ rfl (Nat.le_of_ble_eq_true rfl) rfl (fun z5 σ6 hz5 => ?_)
  obtain ⟨r8, rfl, hr8, rfl, q7_0⟩ := hz5
  replace q7_0 : r8 = τ 88 38 := q7_0
  refine j_st (st' := [vI r8]) rfl ?_
  have rr9 : r4 = r8 := q3_0.trans (stτ.2.2.2.2.2.2.2.trans q7_0.symm)
  clear q7_0
  refine j_pop (pc := 1325) dL_law_1325 rfl ?_
  refine j_goto (pc := 1326) (tgt := 1352) dL_law_1326 rfl ?_
  exact K τ hIτ ⟨mτ, by omega, sτ, bτ, by omega, by omega, by omega, tτ, stτ⟩
set_option maxHeartbeats 4000000 in
set_option maxRecDepth 100000 in
theorem w_case_37 {G : tw_G} (hX : tw_isX G) (hM : tw_isM G) {E : List Frame → Array Value → State → State → Prop} (hN : (gN G : Int) ≤ 2560) (i : Int) (hi : 0 ≤ i ∧ i + 5 ≤ (gN G : Int)) (τ : tw_M) (hIτ : tw_I τ) (hL : tw_LI τ) (K : ∀ τ' : tw_M, tw_I τ' → tw_LI τ' → tw_J G tw_ML E 1352 [(0, vR 300), (1, vR 0), (2, vR 88), (3, vI i)] [] τ') : tw_J G tw_ML E 1329 [(0, vR 300), (1, vR 0), (2, vR 88), (3, vI i)] [] τ := by
  obtain ⟨mτ, zτ, sτ, bτ, fτ, kτ0, kτ1, tτ, stτ⟩ := hL
  have g9 : (0 : Int) ≤ τ 10 10 ∧ τ 10 10 ≤ 400 := hIτ 10 10
  obtain ⟨v1, ev1⟩ : ∃ v : Int, v = (gxs G (i + 1).toNat).toInt := ⟨_, rfl⟩
  have hv1 : (-2147483648 : Int) ≤ v1 ∧ v1 ≤ 2147483647 := by rw [ev1]; exact i32_in _
  obtain ⟨v2, ev2⟩ : ∃ v : Int, v = (gxs G (i + 2).toNat).toInt := ⟨_, rfl⟩
  have hv2 : (-2147483648 : Int) ≤ v2 ∧ v2 ≤ 2147483647 := by rw [ev2]; exact i32_in _
  obtain ⟨v3, ev3⟩ : ∃ v : Int, v = (gxs G (i + 3).toNat).toInt := ⟨_, rfl⟩
  have hv3 : (-2147483648 : Int) ≤ v3 ∧ v3 ≤ 2147483647 := by rw [ev3]; exact i32_in _
  obtain ⟨v4, ev4⟩ : ∃ v : Int, v = (gxs G (i + 4).toNat).toInt := ⟨_, rfl⟩
  have hv4 : (-2147483648 : Int) ≤ v4 ∧ v4 ≤ 2147483647 := by rw [ev4]; exact i32_in _
  refine j_aload_n (pc := 1329) dL_law_1329 rfl rfl ?_
  refine j_aload_n (pc := 1330) dL_law_1330 rfl rfl ?_
  refine j_iload_n (pc := 1331) dL_law_1331 rfl rfl ?_
  refine j_iconst (pc := 1332) dL_law_1332 ?_
  refine j_iadd (pc := 1333) dL_law_1333 ?_
  refine j_scrAt (pc := 1334) dL_law_1334 (by omega) (by omega) (by omega) ?_
  refine j_topV (show _ = v1 from ev1.symm) ?_
  refine j_callV (pc := 1335) (As := [vI v1]) (st := []) (c_X11_count hX v1 ⟨by omega, by omega⟩ τ hIτ) mv_L_174 rfl rfl rfl (a_0 hX) dL_law_1335 ⟨Nat.le_of_ble_eq_true rfl, Nat.le_of_ble_eq_true rfl⟩ ⟨Nat.le_of_ble_eq_true rfl, Nat.le_of_ble_eq_true rfl⟩ rfl (Nat.le_of_ble_eq_true rfl) rfl (fun z1 σ2 hz1 => ?_)
  obtain ⟨r4, rfl, hr4, rfl, -⟩ := hz1
  refine j_st (st' := [vI r4]) rfl ?_
  refine j_pop (pc := 1338) dL_law_1338 rfl ?_
  refine j_aload_n (pc := 1339) dL_law_1339 rfl rfl ?_
  refine j_aload_n (pc := 1340) dL_law_1340 rfl rfl ?_
  refine j_iload_n (pc := 1341) dL_law_1341 rfl rfl ?_
  refine j_iconst (pc := 1342) dL_law_1342 ?_
  refine j_iadd (pc := 1343) dL_law_1343 ?_
  refine j_scrAt (pc := 1344) dL_law_1344 (by omega) (by omega) (by omega) ?_
  refine j_topV (show _ = v1 from ev1.symm) ?_
  refine j_callV (pc := 1345) (As := [vI v1]) (st := []) (c_X12_count hM v1 ⟨by omega, by omega⟩ τ hIτ) mv_L_177 rfl rfl rfl (a_88 hM) dL_law_1345 ⟨Nat.le_of_ble_eq_true rfl, Nat.le_of_ble_eq_true rfl⟩ ⟨Nat.le_of_ble_eq_true rfl, Nat.le_of_ble_eq_true rfl⟩ rfl (Nat.le_of_ble_eq_true rfl) rfl (fun z5 σ6 hz5 => ?_)
  obtain ⟨r8, rfl, hr8, rfl, -⟩ := hz5
  refine j_st (st' := [vI r8]) rfl ?_
  refine j_pop (pc := 1348) dL_law_1348 rfl ?_
  refine j_goto (pc := 1349) (tgt := 1352) dL_law_1349 rfl ?_
  exact K τ hIτ ⟨mτ, by omega, sτ, bτ, by omega, by omega, by omega, tτ, stτ⟩
