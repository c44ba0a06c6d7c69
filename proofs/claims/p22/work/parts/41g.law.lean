set_option maxHeartbeats 4000000 in
set_option maxRecDepth 100000 in
theorem w_case_34 {G : tw_G} (hX : tw_isX G) (hM : tw_isM G) {E : List Frame → Array Value → State → State → Prop} (hN : (gN G : Int) ≤ 2560) (i : Int) (hi : 0 ≤ i ∧ i + 5 ≤ (gN G : Int)) (τ : tw_M) (hIτ : tw_I τ) (hL : tw_LI τ) (K : ∀ τ' : tw_M, tw_I τ' → tw_LI τ' → tw_J G tw_ML E 1352 [(0, vR 300), (1, vR 0), (2, vR 88), (3, vI i)] [] τ') : tw_J G tw_ML E 1220 [(0, vR 300), (1, vR 0), (2, vR 88), (3, vI i)] [] τ := by
  obtain ⟨mτ, zτ, sτ, bτ, fτ, kτ0, kτ1, tτ, stτ⟩ := hL
  have g9 : (0 : Int) ≤ τ 10 10 ∧ τ 10 10 ≤ 400 := hIτ 10 10
  obtain ⟨v1, ev1⟩ : ∃ v : Int, v = (gxs G (i + 1).toNat).toInt := ⟨_, rfl⟩
  have hv1 : (-2147483648 : Int) ≤ v1 ∧ v1 ≤ 2147483647 := by rw [ev1]; exact i32_in _
  obtain ⟨v2, ev2⟩ : ∃ v : Int, v = (gxs G (i + 2).toNat).toInt := ⟨_, rfl⟩
  have hv2 : (-2147483648 : Int) ≤ v2 ∧ v2 ≤ 2147483647 := by rw [ev2]; exact i32_in _
  obtain ⟨v3, ev3⟩ : ∃ v : Int, v = (gxs G (i + 3).toNat).toInt := ⟨_, rfl⟩
  have hv3 : (-2147483648 : Int) ≤ v3 ∧ v3 ≤ 2147483647 := by rw [ev3]; exact i32_in _
  obtain ⟨v4, ev4⟩ : ∃ v : Int, v = (gxs G (i + 4).toNat).toInt := ⟨_, rfl⟩
  have hv4 : (-2147483648 : Int) ≤ v4 ∧ v4 ≤ 2147483647 := by rw [ev4]; exact i32_in _
  refine j_aload_n (pc := 1220) dL_law_1220 rfl rfl ?_
  refine j_aload_n (pc := 1221) dL_law_1221 rfl rfl ?_
  refine j_iload_n (pc := 1222) dL_law_1222 rfl rfl ?_
  refine j_iconst (pc := 1223) dL_law_1223 ?_
  refine j_iadd (pc := 1224) dL_law_1224 ?_
  refine j_scrAt (pc := 1225) dL_law_1225 (by omega) (by omega) (by omega) ?_
  refine j_topV (show _ = v1 from ev1.symm) ?_
  refine j_aload_n (pc := 1226) dL_law_1226 rfl rfl ?_
  refine j_iload_n (pc := 1227) dL_law_1227 rfl rfl ?_
  refine j_iconst (pc := 1228) dL_law_1228 ?_
  refine j_iadd (pc := 1229) dL_law_1229 ?_
  refine j_scrAt (pc := 1230) dL_law_1230 (by omega) (by omega) (by omega) ?_
  refine j_topV (show _ = v2 from ev2.symm) ?_
  refine j_aload_n (pc := 1231) dL_law_1231 rfl rfl ?_
  refine j_iload_n (pc := 1232) dL_law_1232 rfl rfl ?_
  refine j_iconst (pc := 1233) dL_law_1233 ?_
  refine j_iadd (pc := 1234) dL_law_1234 ?_
  refine j_scrAt (pc := 1235) dL_law_1235 (by omega) (by omega) (by omega) ?_
  refine j_topV (show _ = v3 from ev3.symm) ?_
  refine j_callV (pc := 1236) (As := [vI v1, vI v2, vI v3]) (st := []) (c_X11_lay hX v1 ⟨by omega, by omega⟩ v2 ⟨by omega, by omega⟩ v3 ⟨by omega, by omega⟩ τ hIτ) mv_L_161 rfl rfl rfl (a_0 hX) dL_law_1236 ⟨Nat.le_of_ble_eq_true rfl, Nat.le_of_ble_eq_true rfl⟩ ⟨Nat.le_of_ble_eq_true rfl, Nat.le_of_ble_eq_true rfl⟩ rfl (Nat.le_of_ble_eq_true rfl) rfl (fun z1 σ2 hz1 => ?_)
  obtain ⟨r4, rfl, hr4, hIσ2, hGσ2, q3_0, q3_1, q3_2, q3_3, q3_4, q3_5, q3_6, q3_7, q3_8⟩ := hz1
  replace q3_0 : (r4 = -1 ∧ ¬ (0 ≤ v1 ∧ v1 ≤ 3)) ∨ (0 ≤ v1 ∧ v1 ≤ 3) := q3_0
  replace q3_1 : ¬ v1 = 0 ∨ (r4 = -11 ∧ τ 80 1 = 0) ∨ (r4 = -12 ∧ ¬ τ 80 1 = 0 ∧ ¬ (0 ≤ v2 ∧ v2 < τ 80 3)) ∨ (r4 = 1 ∧ ¬ τ 80 1 = 0 ∧ 0 ≤ v2 ∧ v2 < τ 80 3) := q3_1
  replace q3_2 : ¬ v1 = 1 ∨ (r4 = -11 ∧ τ 82 1 = 0) ∨ (r4 = -12 ∧ ¬ τ 82 1 = 0 ∧ ¬ (0 ≤ v2 ∧ v2 < τ 82 3)) ∨ (r4 = 1 ∧ ¬ τ 82 1 = 0 ∧ 0 ≤ v2 ∧ v2 < τ 82 3) := q3_2
  replace q3_3 : ¬ v1 = 2 ∨ (r4 = -11 ∧ τ 84 1 = 0) ∨ (r4 = -12 ∧ ¬ τ 84 1 = 0 ∧ ¬ (0 ≤ v2 ∧ v2 < τ 84 3)) ∨ (r4 = 1 ∧ ¬ τ 84 1 = 0 ∧ 0 ≤ v2 ∧ v2 < τ 84 3) := q3_3
  replace q3_4 : ¬ v1 = 3 ∨ (r4 = -11 ∧ τ 86 1 = 0) ∨ (r4 = -12 ∧ ¬ τ 86 1 = 0 ∧ ¬ (0 ≤ v2 ∧ v2 < τ 86 3)) ∨ (r4 = 1 ∧ ¬ τ 86 1 = 0 ∧ 0 ≤ v2 ∧ v2 < τ 86 3) := q3_4
  replace q3_5 : (v1 = 0 ∧ r4 = 1 ∧ σ2 81 v2.toNat = nrw (τ 80 2) v3 ∧ ∀ j : Nat, ¬ j = v2.toNat → σ2 81 j = τ 81 j) ∨ (¬ (v1 = 0 ∧ r4 = 1) ∧ ∀ j : Nat, σ2 81 j = τ 81 j) := q3_5
  replace q3_6 : (v1 = 1 ∧ r4 = 1 ∧ σ2 83 v2.toNat = nrw (τ 82 2) v3 ∧ ∀ j : Nat, ¬ j = v2.toNat → σ2 83 j = τ 83 j) ∨ (¬ (v1 = 1 ∧ r4 = 1) ∧ ∀ j : Nat, σ2 83 j = τ 83 j) := q3_6
  replace q3_7 : (v1 = 2 ∧ r4 = 1 ∧ σ2 85 v2.toNat = nrw (τ 84 2) v3 ∧ ∀ j : Nat, ¬ j = v2.toNat → σ2 85 j = τ 85 j) ∨ (¬ (v1 = 2 ∧ r4 = 1) ∧ ∀ j : Nat, σ2 85 j = τ 85 j) := q3_7
  replace q3_8 : (v1 = 3 ∧ r4 = 1 ∧ σ2 87 v2.toNat = nrw (τ 86 2) v3 ∧ ∀ j : Nat, ¬ j = v2.toNat → σ2 87 j = τ 87 j) ∨ (¬ (v1 = 3 ∧ r4 = 1) ∧ ∀ j : Nat, σ2 87 j = τ 87 j) := q3_8
  refine j_st (st' := [vI r4]) rfl ?_
  have y5 : σ2 10 10 = τ 10 10 := (hGσ2 10 10 (show ¬ (10 = 81 ∨ 10 = 83 ∨ 10 = 85 ∨ 10 = 87) from by omega))
  have f6 : (0 : Int) ≤ τ 10 10 ∧ τ 10 10 ≤ 400 := hIτ 10 10
  have bσ2 : BY σ2 := BY_kept bτ (fun j => hGσ2 11 j (show ¬ (11 = 81 ∨ 11 = 83 ∨ 11 = 85 ∨ 11 = 87) from by omega)) (fun j => hGσ2 98 j (show ¬ (98 = 81 ∨ 98 = 83 ∨ 98 = 85 ∨ 98 = 87) from by omega)) (by omega)
  have mσ2 : mI σ2 := mI_kept mτ (fun j hj => hGσ2 89 j (show ¬ (89 = 81 ∨ 89 = 83 ∨ 89 = 85 ∨ 89 = 87) from by omega)) (fun j => hGσ2 90 j (show ¬ (90 = 81 ∨ 90 = 83 ∨ 90 = 85 ∨ 90 = 87) from by omega)) (hGσ2 91 0 (show ¬ (91 = 81 ∨ 91 = 83 ∨ 91 = 85 ∨ 91 = 87) from by omega)) hIτ
  have sσ2 : SR σ2 := SR_kept sτ (fun c j h => hGσ2 c j (show ¬ (c = 81 ∨ c = 83 ∨ c = 85 ∨ c = 87) from by omega)) (fun j => hGσ2 104 j (show ¬ (104 = 81 ∨ 104 = 83 ∨ 104 = 85 ∨ 104 = 87) from by omega)) (fun j => hGσ2 105 j (show ¬ (105 = 81 ∨ 105 = 83 ∨ 105 = 85 ∨ 105 = 87) from by omega))
  have tσ2 : TT σ2 := TT_kept tτ (fun c j h => hGσ2 c j (show ¬ (c = 81 ∨ c = 83 ∨ c = 85 ∨ c = 87) from by omega)) (fun j h => hGσ2 89 j (show ¬ (89 = 81 ∨ 89 = 83 ∨ 89 = 85 ∨ 89 = 87) from by omega))
  refine j_pop (pc := 1239) dL_law_1239 rfl ?_
  refine j_aload_n (pc := 1240) dL_law_1240 rfl rfl ?_
  refine j_aload_n (pc := 1241) dL_law_1241 rfl rfl ?_
  refine j_iload_n (pc := 1242) dL_law_1242 rfl rfl ?_
  refine j_iconst (pc := 1243) dL_law_1243 ?_
  refine j_iadd (pc := 1244) dL_law_1244 ?_
  refine j_scrAt (pc := 1245) dL_law_1245 (by omega) (by omega) (by omega) ?_
  refine j_topV (show _ = v1 from ev1.symm) ?_
  refine j_aload_n (pc := 1246) dL_law_1246 rfl rfl ?_
  refine j_iload_n (pc := 1247) dL_law_1247 rfl rfl ?_
  refine j_iconst (pc := 1248) dL_law_1248 ?_
  refine j_iadd (pc := 1249) dL_law_1249 ?_
  refine j_scrAt (pc := 1250) dL_law_1250 (by omega) (by omega) (by omega) ?_
  refine j_topV (show _ = v2 from ev2.symm) ?_
  refine j_aload_n (pc := 1251) dL_law_1251 rfl rfl ?_
  refine j_iload_n (pc := 1252) dL_law_1252 rfl rfl ?_
  refine j_iconst (pc := 1253) dL_law_1253 ?_
  refine j_iadd (pc := 1254) dL_law_1254 ?_
  refine j_scrAt (pc := 1255) dL_law_1255 (by omega) (by omega) (by omega) ?_
  refine j_topV (show _ = v3 from ev3.symm) ?_
  refine j_callV (pc := 1256) (As := [vI v1, vI v2, vI v3]) (st := []) (c_X12_lay hM v1 ⟨by omega, by omega⟩ v2 ⟨by omega, by omega⟩ v3 ⟨by omega, by omega⟩ σ2 hIσ2) mv_L_164 rfl rfl rfl (a_88 hM) dL_law_1256 ⟨Nat.le_of_ble_eq_true rfl, Nat.le_of_ble_eq_true rfl⟩ ⟨Nat.le_of_ble_eq_true rfl, Nat.le_of_ble_eq_true rfl⟩ rfl (Nat.le_of_ble_eq_true rfl) rfl (fun z7 σ8 hz7 => ?_)
  obtain ⟨r10, rfl, hr10, hIσ8, hGσ8, q9_0, q9_1⟩ := hz7
  replace q9_0 : (r10 = -1 ∧ ¬ (0 ≤ v1 ∧ v1 ≤ 3)) ∨ (r10 = -11 ∧ 0 ≤ v1 ∧ v1 ≤ 3 ∧ σ2 104 v1.toNat = -4) ∨ (r10 = -12 ∧ 0 ≤ v1 ∧ v1 ≤ 3 ∧ ¬ σ2 104 v1.toNat = -4 ∧ ¬ (0 ≤ v2 ∧ v2 < σ2 105 v1.toNat)) ∨ (r10 = 1 ∧ 0 ≤ v1 ∧ v1 ≤ 3 ∧ ¬ σ2 104 v1.toNat = -4 ∧ 0 ≤ v2 ∧ v2 < σ2 105 v1.toNat) := q9_0
  have y11 : σ2 104 (v1.toNat) = τ 104 (v1.toNat) := (hGσ2 104 (v1.toNat) (show ¬ (104 = 81 ∨ 104 = 83 ∨ 104 = 85 ∨ 104 = 87) from by omega))
  have y12 : σ2 105 (v1.toNat) = τ 105 (v1.toNat) := (hGσ2 105 (v1.toNat) (show ¬ (105 = 81 ∨ 105 = 83 ∨ 105 = 85 ∨ 105 = 87) from by omega))
  replace q9_1 : (r10 = 1 ∧ σ8 106 (40 * v1 + v2).toNat = nrw (σ2 104 v1.toNat) v3 ∧ ∀ j : Nat, ¬ j = (40 * v1 + v2).toNat → σ8 106 j = σ2 106 j) ∨ (¬ r10 = 1 ∧ ∀ j : Nat, σ8 106 j = σ2 106 j) := q9_1
  have y13 : σ2 104 (v1.toNat) = τ 104 (v1.toNat) := (hGσ2 104 (v1.toNat) (show ¬ (104 = 81 ∨ 104 = 83 ∨ 104 = 85 ∨ 104 = 87) from by omega))
  refine j_st (st' := [vI r10]) rfl ?_
  have y14 : σ8 10 10 = τ 10 10 := ((hGσ8 10 10 (show ¬ (10 = 106) from by omega))).trans (hGσ2 10 10 (show ¬ (10 = 81 ∨ 10 = 83 ∨ 10 = 85 ∨ 10 = 87) from by omega))
  have bσ8 : BY σ8 := BY_kept bσ2 (fun j => hGσ8 11 j (show ¬ (11 = 106) from by omega)) (fun j => hGσ8 98 j (show ¬ (98 = 106) from by omega)) (by omega)
  have mσ8 : mI σ8 := mI_kept mσ2 (fun j hj => hGσ8 89 j (show ¬ (89 = 106) from by omega)) (fun j => hGσ8 90 j (show ¬ (90 = 106) from by omega)) (hGσ8 91 0 (show ¬ (91 = 106) from by omega)) hIσ2
  have sσ8 : SR σ8 := SR_kept sσ2 (fun c j h => hGσ8 c j (show ¬ (c = 106) from by omega)) (fun j => hGσ8 104 j (show ¬ (104 = 106) from by omega)) (fun j => hGσ8 105 j (show ¬ (105 = 106) from by omega))
  have tσ8 : TT σ8 := TT_kept tσ2 (fun c j h => hGσ8 c j (show ¬ (c = 106) from by omega)) (fun j h => hGσ8 89 j (show ¬ (89 = 106) from by omega))
  have ht9 : (1 : Int) ≤ τ 91 0 ∧ τ 91 0 ≤ 40 := hIτ 91 0
  have rr8 : r4 = r10 := by
    clear q3_5 q3_6 q3_7 q3_8 q9_1
    obtain ⟨s0, s1, s2, s3⟩ := sτ
    rcases (show v1 = 0 ∨ v1 = 1 ∨ v1 = 2 ∨ v1 = 3 ∨ ¬ (0 ≤ v1 ∧ v1 ≤ 3) by omega) with q9 | q9 | q9 | q9 | q9
    · have x3 := q3_1.resolve_left (by omega)
      clear q3_1 q3_2 q3_3 q3_4 s1 s2 s3
      have x1 : σ2 104 v1.toNat = τ 104 0 := by rw [show v1.toNat = 0 from by omega]; exact hGσ2 104 0 (show ¬ (104 = 81 ∨ 104 = 83 ∨ 104 = 85 ∨ 104 = 87) from by omega)
      have x2 : σ2 105 v1.toNat = τ 105 0 := by rw [show v1.toNat = 0 from by omega]; exact hGσ2 105 0 (show ¬ (105 = 81 ∨ 105 = 83 ∨ 105 = 85 ∨ 105 = 87) from by omega)
      rcases q9_0 with x4 | x4 | x4 | x4 <;> rcases x3 with x3 | x3 | x3 <;> omega
    · have x3 := q3_2.resolve_left (by omega)
      clear q3_1 q3_2 q3_3 q3_4 s0 s2 s3
      have x1 : σ2 104 v1.toNat = τ 104 1 := by rw [show v1.toNat = 1 from by omega]; exact hGσ2 104 1 (show ¬ (104 = 81 ∨ 104 = 83 ∨ 104 = 85 ∨ 104 = 87) from by omega)
      have x2 : σ2 105 v1.toNat = τ 105 1 := by rw [show v1.toNat = 1 from by omega]; exact hGσ2 105 1 (show ¬ (105 = 81 ∨ 105 = 83 ∨ 105 = 85 ∨ 105 = 87) from by omega)
      rcases q9_0 with x4 | x4 | x4 | x4 <;> rcases x3 with x3 | x3 | x3 <;> omega
    · have x3 := q3_3.resolve_left (by omega)
      clear q3_1 q3_2 q3_3 q3_4 s0 s1 s3
      have x1 : σ2 104 v1.toNat = τ 104 2 := by rw [show v1.toNat = 2 from by omega]; exact hGσ2 104 2 (show ¬ (104 = 81 ∨ 104 = 83 ∨ 104 = 85 ∨ 104 = 87) from by omega)
      have x2 : σ2 105 v1.toNat = τ 105 2 := by rw [show v1.toNat = 2 from by omega]; exact hGσ2 105 2 (show ¬ (105 = 81 ∨ 105 = 83 ∨ 105 = 85 ∨ 105 = 87) from by omega)
      rcases q9_0 with x4 | x4 | x4 | x4 <;> rcases x3 with x3 | x3 | x3 <;> omega
    · have x3 := q3_4.resolve_left (by omega)
      clear q3_1 q3_2 q3_3 q3_4 s0 s1 s2
      have x1 : σ2 104 v1.toNat = τ 104 3 := by rw [show v1.toNat = 3 from by omega]; exact hGσ2 104 3 (show ¬ (104 = 81 ∨ 104 = 83 ∨ 104 = 85 ∨ 104 = 87) from by omega)
      have x2 : σ2 105 v1.toNat = τ 105 3 := by rw [show v1.toNat = 3 from by omega]; exact hGσ2 105 3 (show ¬ (105 = 81 ∨ 105 = 83 ∨ 105 = 85 ∨ 105 = 87) from by omega)
      rcases q9_0 with x4 | x4 | x4 | x4 <;> rcases x3 with x3 | x3 | x3 <;> omega
    · clear q3_1 q3_2 q3_3 q3_4 s0 s1 s2 s3
      omega
  have y8 := q9_1
  rw [← rr8] at y8
  have f105 : (0 : Int) ≤ σ2 105 v1.toNat ∧ σ2 105 v1.toNat ≤ 40 := hIσ2 105 _
  have hk8 : r4 = 1 → 0 ≤ v1 ∧ v1 ≤ 3 ∧ 0 ≤ v2 ∧ v2 < 40 := by clear q3_5 q3_6 q3_7 q3_8 q9_1 q3_0 q3_1 q3_2 q3_3 q3_4 y8; omega
  have sh0 : SHK 0 σ8 := SHK_lay (c := 0) (by decide) (stτ.2.2.2.2.2.2.1 0 (by decide)) q3_5 y8 hk8 (fun c j h => hGσ2 c j (show ¬ (c = 81 ∨ c = 83 ∨ c = 85 ∨ c = 87) from by omega)) (fun c j h => hGσ8 c j (show ¬ (c = 106) from by omega))
  have sh1 : SHK 1 σ8 := SHK_lay (c := 1) (by decide) (stτ.2.2.2.2.2.2.1 1 (by decide)) q3_6 y8 hk8 (fun c j h => hGσ2 c j (show ¬ (c = 81 ∨ c = 83 ∨ c = 85 ∨ c = 87) from by omega)) (fun c j h => hGσ8 c j (show ¬ (c = 106) from by omega))
  have sh2 : SHK 2 σ8 := SHK_lay (c := 2) (by decide) (stτ.2.2.2.2.2.2.1 2 (by decide)) q3_7 y8 hk8 (fun c j h => hGσ2 c j (show ¬ (c = 81 ∨ c = 83 ∨ c = 85 ∨ c = 87) from by omega)) (fun c j h => hGσ8 c j (show ¬ (c = 106) from by omega))
  have sh3 : SHK 3 σ8 := SHK_lay (c := 3) (by decide) (stτ.2.2.2.2.2.2.1 3 (by decide)) q3_8 y8 hk8 (fun c j h => hGσ2 c j (show ¬ (c = 81 ∨ c = 83 ∨ c = 85 ∨ c = 87) from by omega)) (fun c j h => hGσ8 c j (show ¬ (c = 106) from by omega))
  have st9 : ST σ8 := ST_S stτ (fun q hq => by rcases (show q = 0 ∨ q = 1 ∨ q = 2 ∨ q = 3 from by omega) with z | z | z | z <;> subst z; exact sh0; exact sh1; exact sh2; exact sh3) (fun c j h => (hGσ8 c j (show ¬ (c = 106) from by omega)).trans (hGσ2 c j (show ¬ (c = 81 ∨ c = 83 ∨ c = 85 ∨ c = 87) from by omega)))
  have rr9 : r4 = r10 := rr8
  clear y8 hk8 f105
  clear q3_5 q3_6 q3_7 q3_8 q9_1
  refine j_pop (pc := 1259) dL_law_1259 rfl ?_
  refine j_goto (pc := 1260) (tgt := 1352) dL_law_1260 rfl ?_
  have y15 : σ8 10 10 = τ 10 10 := ((hGσ8 10 10 (show ¬ (10 = 106) from by omega))).trans (hGσ2 10 10 (show ¬ (10 = 81 ∨ 10 = 83 ∨ 10 = 85 ∨ 10 = 87) from by omega))
  have y16 : σ8 88 12 = τ 88 12 := ((hGσ8 88 12 (show ¬ (88 = 106) from by omega))).trans (hGσ2 88 12 (show ¬ (88 = 81 ∨ 88 = 83 ∨ 88 = 85 ∨ 88 = 87) from by omega))
  have f17 : (0 : Int) ≤ τ 88 12 ∧ τ 88 12 ≤ 400 := hIτ 88 12
  have y18 : σ8 0 13 = τ 0 13 := ((hGσ8 0 13 (show ¬ (0 = 106) from by omega))).trans (hGσ2 0 13 (show ¬ (0 = 81 ∨ 0 = 83 ∨ 0 = 85 ∨ 0 = 87) from by omega))
  have f19 : (-2147483648 : Int) ≤ τ 0 13 ∧ τ 0 13 ≤ 2147483647 := hIτ 0 13
  have y20 : σ8 88 17 = τ 88 17 := ((hGσ8 88 17 (show ¬ (88 = 106) from by omega))).trans (hGσ2 88 17 (show ¬ (88 = 81 ∨ 88 = 83 ∨ 88 = 85 ∨ 88 = 87) from by omega))
  have f21 : (0 : Int) ≤ τ 88 17 ∧ τ 88 17 ≤ 5 := hIτ 88 17
  have y22 : σ8 31 6 = τ 31 6 := ((hGσ8 31 6 (show ¬ (31 = 106) from by omega))).trans (hGσ2 31 6 (show ¬ (31 = 81 ∨ 31 = 83 ∨ 31 = 85 ∨ 31 = 87) from by omega))
  have f23 : (0 : Int) ≤ τ 31 6 ∧ τ 31 6 ≤ 1 := hIτ 31 6
  have y24 : σ8 39 6 = τ 39 6 := ((hGσ8 39 6 (show ¬ (39 = 106) from by omega))).trans (hGσ2 39 6 (show ¬ (39 = 81 ∨ 39 = 83 ∨ 39 = 85 ∨ 39 = 87) from by omega))
  have f25 : (0 : Int) ≤ τ 39 6 ∧ τ 39 6 ≤ 1 := hIτ 39 6
  have y26 : σ8 90 0 = τ 90 0 := ((hGσ8 90 0 (show ¬ (90 = 106) from by omega))).trans (hGσ2 90 0 (show ¬ (90 = 81 ∨ 90 = 83 ∨ 90 = 85 ∨ 90 = 87) from by omega))
  have f27 : (0 : Int) ≤ τ 90 0 ∧ τ 90 0 ≤ 1 := hIτ 90 0
  have y28 : σ8 90 1 = τ 90 1 := ((hGσ8 90 1 (show ¬ (90 = 106) from by omega))).trans (hGσ2 90 1 (show ¬ (90 = 81 ∨ 90 = 83 ∨ 90 = 85 ∨ 90 = 87) from by omega))
  have f29 : (0 : Int) ≤ τ 90 1 ∧ τ 90 1 ≤ 1 := hIτ 90 1
  exact K σ8 hIσ8 ⟨mσ8, by omega, sσ8, bσ8, by omega, by omega, by omega, tσ8, st9⟩
