set_option maxHeartbeats 4000000 in
set_option maxRecDepth 100000 in
theorem w_case_33 {G : tw_G} (hX : tw_isX G) (hM : tw_isM G) {E : List Frame → Array Value → State → State → Prop} (hN : (gN G : Int) ≤ 2560) (i : Int) (hi : 0 ≤ i ∧ i + 5 ≤ (gN G : Int)) (τ : tw_M) (hIτ : tw_I τ) (hL : tw_LI τ) (K : ∀ τ' : tw_M, tw_I τ' → tw_LI τ' → tw_J G tw_ML E 1352 [(0, vR 300), (1, vR 0), (2, vR 88), (3, vI i)] [] τ') : tw_J G tw_ML E 1177 [(0, vR 300), (1, vR 0), (2, vR 88), (3, vI i)] [] τ := by
  obtain ⟨mτ, zτ, sτ, bτ, fτ, kτ0, kτ1, tτ, stτ⟩ := hL
  have g9 : (0 : Int) ≤ τ 10 10 ∧ τ 10 10 ≤ 400 := hIτ 10 10
  obtain ⟨v1, ev1⟩ : ∃ v : Int, v = (gxs G (i + 1).toNat).toInt := ⟨_, rfl⟩
  have hv1 : (-2147483648 : Int) ≤ v1 ∧ v1 ≤ 2147483647 := by rw [ev1]; exact i32_in _
  obtain ⟨v2, ev2⟩ : ∃ v : Int, v = (gxs G (i + 2).toNat).toInt := ⟨_, rfl⟩
  have hv2 : (-2147483648 : Int) ≤ v2 ∧ v2 ≤ 2147483647 := by rw [ev2]; exact i32_in _
  obtain ⟨v3, ev3⟩ : ∃ v : Int, v = (gxs G (i + 3).toNat).toInt := ⟨_, rfl⟩
  have hv3 : (-2147483648 : Int) ≤ v3 ∧ v3 ≤ 2147483647 := by rw [ev3]; exact i32_in _
  obtain ⟨v4, ev4⟩ : ∃ v : Int, v = (gxs G (i + 4).toNat).toInt := ⟨_, rfl⟩
  have hv4 : (-2147483648 : Int) ≤ v4 ∧ v4 ≤ 2147483647 := by rw [ev4]; exact i32_in _
  refine j_aload_n (pc := 1177) dL_law_1177 rfl rfl ?_
  refine j_aload_n (pc := 1178) dL_law_1178 rfl rfl ?_
  refine j_iload_n (pc := 1179) dL_law_1179 rfl rfl ?_
  refine j_iconst (pc := 1180) dL_law_1180 ?_
  refine j_iadd (pc := 1181) dL_law_1181 ?_
  refine j_scrAt (pc := 1182) dL_law_1182 (by omega) (by omega) (by omega) ?_
  refine j_topV (show _ = v1 from ev1.symm) ?_
  refine j_aload_n (pc := 1183) dL_law_1183 rfl rfl ?_
  refine j_iload_n (pc := 1184) dL_law_1184 rfl rfl ?_
  refine j_iconst (pc := 1185) dL_law_1185 ?_
  refine j_iadd (pc := 1186) dL_law_1186 ?_
  refine j_scrAt (pc := 1187) dL_law_1187 (by omega) (by omega) (by omega) ?_
  refine j_topV (show _ = v2 from ev2.symm) ?_
  refine j_aload_n (pc := 1188) dL_law_1188 rfl rfl ?_
  refine j_iload_n (pc := 1189) dL_law_1189 rfl rfl ?_
  refine j_iconst (pc := 1190) dL_law_1190 ?_
  refine j_iadd (pc := 1191) dL_law_1191 ?_
  refine j_scrAt (pc := 1192) dL_law_1192 (by omega) (by omega) (by omega) ?_
  refine j_topV (show _ = v3 from ev3.symm) ?_
  refine j_callV (pc := 1193) (As := [vI v1, vI v2, vI v3]) (st := []) (c_X11_sheet hX v1 ⟨by omega, by omega⟩ v2 ⟨by omega, by omega⟩ v3 ⟨by omega, by omega⟩ τ hIτ) mv_L_157 rfl rfl rfl (a_0 hX) dL_law_1193 ⟨Nat.le_of_ble_eq_true rfl, Nat.le_of_ble_eq_true rfl⟩ ⟨Nat.le_of_ble_eq_true rfl, Nat.le_of_ble_eq_true rfl⟩ rfl (Nat.le_of_ble_eq_true rfl) rfl (fun z1 σ2 hz1 => ?_)
  obtain ⟨r4, rfl, hr4, hIσ2, hGσ2, q3_0, q3_1, q3_2, q3_3, q3_4, q3_5, q3_6, q3_7, q3_8⟩ := hz1
  replace q3_0 : (r4 = -1 ∧ (¬ (0 ≤ v1 ∧ v1 ≤ 3 ∧ 0 ≤ v2 ∧ v2 ≤ 2) ∨ 40 < v3)) ∨ (r4 = -14 ∧ 0 ≤ v1 ∧ v1 ≤ 3 ∧ 0 ≤ v2 ∧ v2 ≤ 2 ∧ v3 < 0) ∨ (r4 = 1 ∧ 0 ≤ v1 ∧ v1 ≤ 3 ∧ 0 ≤ v2 ∧ v2 ≤ 2 ∧ 0 ≤ v3 ∧ v3 ≤ 40) := q3_0
  replace q3_1 : (v1 = 0 ∧ r4 = 1 ∧ σ2 80 1 = 1 ∧ σ2 80 3 = v3) ∨ (¬ (v1 = 0 ∧ r4 = 1) ∧ σ2 80 1 = τ 80 1 ∧ σ2 80 3 = τ 80 3) := q3_1
  replace q3_2 : (v1 = 1 ∧ r4 = 1 ∧ σ2 82 1 = 1 ∧ σ2 82 3 = v3) ∨ (¬ (v1 = 1 ∧ r4 = 1) ∧ σ2 82 1 = τ 82 1 ∧ σ2 82 3 = τ 82 3) := q3_2
  replace q3_3 : (v1 = 2 ∧ r4 = 1 ∧ σ2 84 1 = 1 ∧ σ2 84 3 = v3) ∨ (¬ (v1 = 2 ∧ r4 = 1) ∧ σ2 84 1 = τ 84 1 ∧ σ2 84 3 = τ 84 3) := q3_3
  replace q3_4 : (v1 = 3 ∧ r4 = 1 ∧ σ2 86 1 = 1 ∧ σ2 86 3 = v3) ∨ (¬ (v1 = 3 ∧ r4 = 1) ∧ σ2 86 1 = τ 86 1 ∧ σ2 86 3 = τ 86 3) := q3_4
  replace q3_5 : (v1 = 0 ∧ r4 = 1 ∧ σ2 80 2 = v2 ∧ ∀ j : Nat, j < 40 → σ2 81 j = 0) ∨ (¬ (v1 = 0 ∧ r4 = 1) ∧ σ2 80 2 = τ 80 2 ∧ ∀ j : Nat, σ2 81 j = τ 81 j) := q3_5
  replace q3_6 : (v1 = 1 ∧ r4 = 1 ∧ σ2 82 2 = v2 ∧ ∀ j : Nat, j < 40 → σ2 83 j = 0) ∨ (¬ (v1 = 1 ∧ r4 = 1) ∧ σ2 82 2 = τ 82 2 ∧ ∀ j : Nat, σ2 83 j = τ 83 j) := q3_6
  replace q3_7 : (v1 = 2 ∧ r4 = 1 ∧ σ2 84 2 = v2 ∧ ∀ j : Nat, j < 40 → σ2 85 j = 0) ∨ (¬ (v1 = 2 ∧ r4 = 1) ∧ σ2 84 2 = τ 84 2 ∧ ∀ j : Nat, σ2 85 j = τ 85 j) := q3_7
  replace q3_8 : (v1 = 3 ∧ r4 = 1 ∧ σ2 86 2 = v2 ∧ ∀ j : Nat, j < 40 → σ2 87 j = 0) ∨ (¬ (v1 = 3 ∧ r4 = 1) ∧ σ2 86 2 = τ 86 2 ∧ ∀ j : Nat, σ2 87 j = τ 87 j) := q3_8
  refine j_st (st' := [vI r4]) rfl ?_
  have y5 : σ2 10 10 = τ 10 10 := (hGσ2 10 10 (show ¬ ((80 ≤ 10 ∧ 10 < 88)) from by omega))
  have f6 : (0 : Int) ≤ τ 10 10 ∧ τ 10 10 ≤ 400 := hIτ 10 10
  have bσ2 : BY σ2 := BY_kept bτ (fun j => hGσ2 11 j (show ¬ ((80 ≤ 11 ∧ 11 < 88)) from by omega)) (fun j => hGσ2 98 j (show ¬ ((80 ≤ 98 ∧ 98 < 88)) from by omega)) (by omega)
  have mσ2 : mI σ2 := mI_kept mτ (fun j hj => hGσ2 89 j (show ¬ ((80 ≤ 89 ∧ 89 < 88)) from by omega)) (fun j => hGσ2 90 j (show ¬ ((80 ≤ 90 ∧ 90 < 88)) from by omega)) (hGσ2 91 0 (show ¬ ((80 ≤ 91 ∧ 91 < 88)) from by omega)) hIτ
  have tσ2 : TT σ2 := TT_kept tτ (fun c j h => hGσ2 c j (show ¬ ((80 ≤ c ∧ c < 88)) from by omega)) (fun j h => hGσ2 89 j (show ¬ ((80 ≤ 89 ∧ 89 < 88)) from by omega))
  refine j_pop (pc := 1196) dL_law_1196 rfl ?_
  refine j_aload_n (pc := 1197) dL_law_1197 rfl rfl ?_
  refine j_aload_n (pc := 1198) dL_law_1198 rfl rfl ?_
  refine j_iload_n (pc := 1199) dL_law_1199 rfl rfl ?_
  refine j_iconst (pc := 1200) dL_law_1200 ?_
  refine j_iadd (pc := 1201) dL_law_1201 ?_
  refine j_scrAt (pc := 1202) dL_law_1202 (by omega) (by omega) (by omega) ?_
  refine j_topV (show _ = v1 from ev1.symm) ?_
  refine j_aload_n (pc := 1203) dL_law_1203 rfl rfl ?_
  refine j_iload_n (pc := 1204) dL_law_1204 rfl rfl ?_
  refine j_iconst (pc := 1205) dL_law_1205 ?_
  refine j_iadd (pc := 1206) dL_law_1206 ?_
  refine j_scrAt (pc := 1207) dL_law_1207 (by omega) (by omega) (by omega) ?_
  refine j_topV (show _ = v2 from ev2.symm) ?_
  refine j_aload_n (pc := 1208) dL_law_1208 rfl rfl ?_
  refine j_iload_n (pc := 1209) dL_law_1209 rfl rfl ?_
  refine j_iconst (pc := 1210) dL_law_1210 ?_
  refine j_iadd (pc := 1211) dL_law_1211 ?_
  refine j_scrAt (pc := 1212) dL_law_1212 (by omega) (by omega) (by omega) ?_
  refine j_topV (show _ = v3 from ev3.symm) ?_
  refine j_callV (pc := 1213) (As := [vI v1, vI v2, vI v3]) (st := []) (c_X12_sheet hM v1 ⟨by omega, by omega⟩ v2 ⟨by omega, by omega⟩ v3 ⟨by omega, by omega⟩ σ2 hIσ2) mv_L_160 rfl rfl rfl (a_88 hM) dL_law_1213 ⟨Nat.le_of_ble_eq_true rfl, Nat.le_of_ble_eq_true rfl⟩ ⟨Nat.le_of_ble_eq_true rfl, Nat.le_of_ble_eq_true rfl⟩ rfl (Nat.le_of_ble_eq_true rfl) rfl (fun z7 σ8 hz7 => ?_)
  obtain ⟨r10, rfl, hr10, hIσ8, hGσ8, q9_0, q9_1, q9_2, q9_3, q9_4, q9_5⟩ := hz7
  replace q9_0 : (r10 = -1 ∧ (¬ (0 ≤ v1 ∧ v1 ≤ 3 ∧ 0 ≤ v2 ∧ v2 ≤ 2) ∨ 40 < v3)) ∨ (r10 = -14 ∧ 0 ≤ v1 ∧ v1 ≤ 3 ∧ 0 ≤ v2 ∧ v2 ≤ 2 ∧ v3 < 0) ∨ (r10 = 1 ∧ 0 ≤ v1 ∧ v1 ≤ 3 ∧ 0 ≤ v2 ∧ v2 ≤ 2 ∧ 0 ≤ v3 ∧ v3 ≤ 40) := q9_0
  replace q9_1 : (v1 = 0 ∧ r10 = 1 ∧ σ8 104 0 = v2 ∧ σ8 105 0 = v3) ∨ (¬ (v1 = 0 ∧ r10 = 1) ∧ σ8 104 0 = σ2 104 0 ∧ σ8 105 0 = σ2 105 0) := q9_1
  have y11 : σ2 104 0 = τ 104 0 := (hGσ2 104 0 (show ¬ ((80 ≤ 104 ∧ 104 < 88)) from by omega))
  have f12 : (-4 : Int) ≤ τ 104 0 ∧ τ 104 0 ≤ 2 := hIτ 104 0
  have y13 : σ2 105 0 = τ 105 0 := (hGσ2 105 0 (show ¬ ((80 ≤ 105 ∧ 105 < 88)) from by omega))
  have f14 : (0 : Int) ≤ τ 105 0 ∧ τ 105 0 ≤ 40 := hIτ 105 0
  replace q9_2 : (v1 = 1 ∧ r10 = 1 ∧ σ8 104 1 = v2 ∧ σ8 105 1 = v3) ∨ (¬ (v1 = 1 ∧ r10 = 1) ∧ σ8 104 1 = σ2 104 1 ∧ σ8 105 1 = σ2 105 1) := q9_2
  have y15 : σ2 104 1 = τ 104 1 := (hGσ2 104 1 (show ¬ ((80 ≤ 104 ∧ 104 < 88)) from by omega))
  have f16 : (-4 : Int) ≤ τ 104 1 ∧ τ 104 1 ≤ 2 := hIτ 104 1
  have y17 : σ2 105 1 = τ 105 1 := (hGσ2 105 1 (show ¬ ((80 ≤ 105 ∧ 105 < 88)) from by omega))
  have f18 : (0 : Int) ≤ τ 105 1 ∧ τ 105 1 ≤ 40 := hIτ 105 1
  replace q9_3 : (v1 = 2 ∧ r10 = 1 ∧ σ8 104 2 = v2 ∧ σ8 105 2 = v3) ∨ (¬ (v1 = 2 ∧ r10 = 1) ∧ σ8 104 2 = σ2 104 2 ∧ σ8 105 2 = σ2 105 2) := q9_3
  have y19 : σ2 104 2 = τ 104 2 := (hGσ2 104 2 (show ¬ ((80 ≤ 104 ∧ 104 < 88)) from by omega))
  have f20 : (-4 : Int) ≤ τ 104 2 ∧ τ 104 2 ≤ 2 := hIτ 104 2
  have y21 : σ2 105 2 = τ 105 2 := (hGσ2 105 2 (show ¬ ((80 ≤ 105 ∧ 105 < 88)) from by omega))
  have f22 : (0 : Int) ≤ τ 105 2 ∧ τ 105 2 ≤ 40 := hIτ 105 2
  replace q9_4 : (v1 = 3 ∧ r10 = 1 ∧ σ8 104 3 = v2 ∧ σ8 105 3 = v3) ∨ (¬ (v1 = 3 ∧ r10 = 1) ∧ σ8 104 3 = σ2 104 3 ∧ σ8 105 3 = σ2 105 3) := q9_4
  have y23 : σ2 104 3 = τ 104 3 := (hGσ2 104 3 (show ¬ ((80 ≤ 104 ∧ 104 < 88)) from by omega))
  have f24 : (-4 : Int) ≤ τ 104 3 ∧ τ 104 3 ≤ 2 := hIτ 104 3
  have y25 : σ2 105 3 = τ 105 3 := (hGσ2 105 3 (show ¬ ((80 ≤ 105 ∧ 105 < 88)) from by omega))
  have f26 : (0 : Int) ≤ τ 105 3 ∧ τ 105 3 ≤ 40 := hIτ 105 3
  replace q9_5 : (r10 = 1 ∧ (∀ j : Int, 0 ≤ j → j < 40 → σ8 106 (40 * v1 + j).toNat = 0) ∧ ∀ j : Nat, ((j : Int) < 40 * v1 ∨ 40 * v1 + 40 ≤ (j : Int)) → σ8 106 j = σ2 106 j) ∨ (¬ r10 = 1 ∧ ∀ j : Nat, σ8 106 j = σ2 106 j) := q9_5
  refine j_st (st' := [vI r10]) rfl ?_
  have y27 : σ8 10 10 = τ 10 10 := ((hGσ8 10 10 (show ¬ ((104 ≤ 10 ∧ 10 < 107)) from by omega))).trans (hGσ2 10 10 (show ¬ ((80 ≤ 10 ∧ 10 < 88)) from by omega))
  have bσ8 : BY σ8 := BY_kept bσ2 (fun j => hGσ8 11 j (show ¬ ((104 ≤ 11 ∧ 11 < 107)) from by omega)) (fun j => hGσ8 98 j (show ¬ ((104 ≤ 98 ∧ 98 < 107)) from by omega)) (by omega)
  have mσ8 : mI σ8 := mI_kept mσ2 (fun j hj => hGσ8 89 j (show ¬ ((104 ≤ 89 ∧ 89 < 107)) from by omega)) (fun j => hGσ8 90 j (show ¬ ((104 ≤ 90 ∧ 90 < 107)) from by omega)) (hGσ8 91 0 (show ¬ ((104 ≤ 91 ∧ 91 < 107)) from by omega)) hIσ2
  have tσ8 : TT σ8 := TT_kept tσ2 (fun c j h => hGσ8 c j (show ¬ ((104 ≤ c ∧ c < 107)) from by omega)) (fun j h => hGσ8 89 j (show ¬ ((104 ≤ 89 ∧ 89 < 107)) from by omega))
  have ht9 : (1 : Int) ≤ τ 91 0 ∧ τ 91 0 ≤ 40 := hIτ 91 0
  have rr8 : r4 = r10 := by
    clear q3_5 q3_6 q3_7 q3_8 q9_5
    clear q3_1 q3_2 q3_3 q3_4 q9_1 q9_2 q9_3 q9_4
    omega
  have y8 := q9_5
  rw [← rr8] at y8
  have hk8 : r4 = 1 → 0 ≤ v1 ∧ v1 ≤ 3 := by clear q3_5 q3_6 q3_7 q3_8 q9_5 q3_1 q3_2 q3_3 q3_4 q9_1 q9_2 q9_3 q9_4 y8; omega
  have x00 : (v1 = 0 ∧ r4 = 1) ∨ (¬ (v1 = 0 ∧ r4 = 1) ∧ σ2 80 1 = τ 80 1) := by rcases q3_1 with z | z; exact Or.inl ⟨z.1, z.2.1⟩; exact Or.inr ⟨z.1, z.2.1⟩
  have y00 : (v1 = 0 ∧ r4 = 1 ∧ σ8 104 0 = v2) ∨ (¬ (v1 = 0 ∧ r4 = 1) ∧ σ8 104 0 = σ2 104 0) := by rw [rr8]; rcases q9_1 with z | z; exact Or.inl ⟨z.1, z.2.1, z.2.2.1⟩; exact Or.inr ⟨z.1, z.2.1⟩
  have sh0 : SHK 0 σ8 := SHK_sheet (c := 0) (by decide) (stτ.2.2.2.2.2.2.1 0 (by decide)) x00 q3_5 y00 y8 hk8 (fun c j h => hGσ2 c j (show ¬ ((80 ≤ c ∧ c < 88)) from by omega)) (fun c j h => hGσ8 c j (show ¬ ((104 ≤ c ∧ c < 107)) from by omega))
  have x01 : (v1 = 1 ∧ r4 = 1) ∨ (¬ (v1 = 1 ∧ r4 = 1) ∧ σ2 82 1 = τ 82 1) := by rcases q3_2 with z | z; exact Or.inl ⟨z.1, z.2.1⟩; exact Or.inr ⟨z.1, z.2.1⟩
  have y01 : (v1 = 1 ∧ r4 = 1 ∧ σ8 104 1 = v2) ∨ (¬ (v1 = 1 ∧ r4 = 1) ∧ σ8 104 1 = σ2 104 1) := by rw [rr8]; rcases q9_2 with z | z; exact Or.inl ⟨z.1, z.2.1, z.2.2.1⟩; exact Or.inr ⟨z.1, z.2.1⟩
  have sh1 : SHK 1 σ8 := SHK_sheet (c := 1) (by decide) (stτ.2.2.2.2.2.2.1 1 (by decide)) x01 q3_6 y01 y8 hk8 (fun c j h => hGσ2 c j (show ¬ ((80 ≤ c ∧ c < 88)) from by omega)) (fun c j h => hGσ8 c j (show ¬ ((104 ≤ c ∧ c < 107)) from by omega))
  have x02 : (v1 = 2 ∧ r4 = 1) ∨ (¬ (v1 = 2 ∧ r4 = 1) ∧ σ2 84 1 = τ 84 1) := by rcases q3_3 with z | z; exact Or.inl ⟨z.1, z.2.1⟩; exact Or.inr ⟨z.1, z.2.1⟩
  have y02 : (v1 = 2 ∧ r4 = 1 ∧ σ8 104 2 = v2) ∨ (¬ (v1 = 2 ∧ r4 = 1) ∧ σ8 104 2 = σ2 104 2) := by rw [rr8]; rcases q9_3 with z | z; exact Or.inl ⟨z.1, z.2.1, z.2.2.1⟩; exact Or.inr ⟨z.1, z.2.1⟩
  have sh2 : SHK 2 σ8 := SHK_sheet (c := 2) (by decide) (stτ.2.2.2.2.2.2.1 2 (by decide)) x02 q3_7 y02 y8 hk8 (fun c j h => hGσ2 c j (show ¬ ((80 ≤ c ∧ c < 88)) from by omega)) (fun c j h => hGσ8 c j (show ¬ ((104 ≤ c ∧ c < 107)) from by omega))
  have x03 : (v1 = 3 ∧ r4 = 1) ∨ (¬ (v1 = 3 ∧ r4 = 1) ∧ σ2 86 1 = τ 86 1) := by rcases q3_4 with z | z; exact Or.inl ⟨z.1, z.2.1⟩; exact Or.inr ⟨z.1, z.2.1⟩
  have y03 : (v1 = 3 ∧ r4 = 1 ∧ σ8 104 3 = v2) ∨ (¬ (v1 = 3 ∧ r4 = 1) ∧ σ8 104 3 = σ2 104 3) := by rw [rr8]; rcases q9_4 with z | z; exact Or.inl ⟨z.1, z.2.1, z.2.2.1⟩; exact Or.inr ⟨z.1, z.2.1⟩
  have sh3 : SHK 3 σ8 := SHK_sheet (c := 3) (by decide) (stτ.2.2.2.2.2.2.1 3 (by decide)) x03 q3_8 y03 y8 hk8 (fun c j h => hGσ2 c j (show ¬ ((80 ≤ c ∧ c < 88)) from by omega)) (fun c j h => hGσ8 c j (show ¬ ((104 ≤ c ∧ c < 107)) from by omega))
  have st9 : ST σ8 := ST_S stτ (fun q hq => by rcases (show q = 0 ∨ q = 1 ∨ q = 2 ∨ q = 3 from by omega) with z | z | z | z <;> subst z; exact sh0; exact sh1; exact sh2; exact sh3) (fun c j h => (hGσ8 c j (show ¬ ((104 ≤ c ∧ c < 107)) from by omega)).trans (hGσ2 c j (show ¬ ((80 ≤ c ∧ c < 88)) from by omega)))
  have rr9 : r4 = r10 := rr8
  clear y8 hk8 x00 y00 x01 y01 x02 y02 x03 y03
  clear q3_5 q3_6 q3_7 q3_8 q9_5
  refine j_pop (pc := 1216) dL_law_1216 rfl ?_
  refine j_goto (pc := 1217) (tgt := 1352) dL_law_1217 rfl ?_
  have y28 : σ8 10 10 = τ 10 10 := ((hGσ8 10 10 (show ¬ ((104 ≤ 10 ∧ 10 < 107)) from by omega))).trans (hGσ2 10 10 (show ¬ ((80 ≤ 10 ∧ 10 < 88)) from by omega))
  have y29 : σ8 88 12 = τ 88 12 := ((hGσ8 88 12 (show ¬ ((104 ≤ 88 ∧ 88 < 107)) from by omega))).trans (hGσ2 88 12 (show ¬ ((80 ≤ 88 ∧ 88 < 88)) from by omega))
  have f30 : (0 : Int) ≤ τ 88 12 ∧ τ 88 12 ≤ 400 := hIτ 88 12
  have y31 : σ8 0 13 = τ 0 13 := ((hGσ8 0 13 (show ¬ ((104 ≤ 0 ∧ 0 < 107)) from by omega))).trans (hGσ2 0 13 (show ¬ ((80 ≤ 0 ∧ 0 < 88)) from by omega))
  have f32 : (-2147483648 : Int) ≤ τ 0 13 ∧ τ 0 13 ≤ 2147483647 := hIτ 0 13
  have y33 : σ8 88 17 = τ 88 17 := ((hGσ8 88 17 (show ¬ ((104 ≤ 88 ∧ 88 < 107)) from by omega))).trans (hGσ2 88 17 (show ¬ ((80 ≤ 88 ∧ 88 < 88)) from by omega))
  have f34 : (0 : Int) ≤ τ 88 17 ∧ τ 88 17 ≤ 5 := hIτ 88 17
  have y35 : σ8 31 6 = τ 31 6 := ((hGσ8 31 6 (show ¬ ((104 ≤ 31 ∧ 31 < 107)) from by omega))).trans (hGσ2 31 6 (show ¬ ((80 ≤ 31 ∧ 31 < 88)) from by omega))
  have f36 : (0 : Int) ≤ τ 31 6 ∧ τ 31 6 ≤ 1 := hIτ 31 6
  have y37 : σ8 39 6 = τ 39 6 := ((hGσ8 39 6 (show ¬ ((104 ≤ 39 ∧ 39 < 107)) from by omega))).trans (hGσ2 39 6 (show ¬ ((80 ≤ 39 ∧ 39 < 88)) from by omega))
  have f38 : (0 : Int) ≤ τ 39 6 ∧ τ 39 6 ≤ 1 := hIτ 39 6
  have y39 : σ8 90 0 = τ 90 0 := ((hGσ8 90 0 (show ¬ ((104 ≤ 90 ∧ 90 < 107)) from by omega))).trans (hGσ2 90 0 (show ¬ ((80 ≤ 90 ∧ 90 < 88)) from by omega))
  have f40 : (0 : Int) ≤ τ 90 0 ∧ τ 90 0 ≤ 1 := hIτ 90 0
  have y41 : σ8 90 1 = τ 90 1 := ((hGσ8 90 1 (show ¬ ((104 ≤ 90 ∧ 90 < 107)) from by omega))).trans (hGσ2 90 1 (show ¬ ((80 ≤ 90 ∧ 90 < 88)) from by omega))
  have f42 : (0 : Int) ≤ τ 90 1 ∧ τ 90 1 ≤ 1 := hIτ 90 1
  obtain ⟨s0, s1, s2, s3⟩ := sτ
  have y43 : σ8 80 1 = σ2 80 1 := (hGσ8 80 1 (show ¬ ((104 ≤ 80 ∧ 80 < 107)) from by omega))
  have f44 : (0 : Int) ≤ σ2 80 1 ∧ σ2 80 1 ≤ 1 := hIσ2 80 1
  have y45 : σ8 80 3 = σ2 80 3 := (hGσ8 80 3 (show ¬ ((104 ≤ 80 ∧ 80 < 107)) from by omega))
  have f46 : (0 : Int) ≤ σ2 80 3 ∧ σ2 80 3 ≤ 40 := hIσ2 80 3
  have y47 : σ8 82 1 = σ2 82 1 := (hGσ8 82 1 (show ¬ ((104 ≤ 82 ∧ 82 < 107)) from by omega))
  have f48 : (0 : Int) ≤ σ2 82 1 ∧ σ2 82 1 ≤ 1 := hIσ2 82 1
  have y49 : σ8 82 3 = σ2 82 3 := (hGσ8 82 3 (show ¬ ((104 ≤ 82 ∧ 82 < 107)) from by omega))
  have f50 : (0 : Int) ≤ σ2 82 3 ∧ σ2 82 3 ≤ 40 := hIσ2 82 3
  have y51 : σ8 84 1 = σ2 84 1 := (hGσ8 84 1 (show ¬ ((104 ≤ 84 ∧ 84 < 107)) from by omega))
  have f52 : (0 : Int) ≤ σ2 84 1 ∧ σ2 84 1 ≤ 1 := hIσ2 84 1
  have y53 : σ8 84 3 = σ2 84 3 := (hGσ8 84 3 (show ¬ ((104 ≤ 84 ∧ 84 < 107)) from by omega))
  have f54 : (0 : Int) ≤ σ2 84 3 ∧ σ2 84 3 ≤ 40 := hIσ2 84 3
  have y55 : σ8 86 1 = σ2 86 1 := (hGσ8 86 1 (show ¬ ((104 ≤ 86 ∧ 86 < 107)) from by omega))
  have f56 : (0 : Int) ≤ σ2 86 1 ∧ σ2 86 1 ≤ 1 := hIσ2 86 1
  have y57 : σ8 86 3 = σ2 86 3 := (hGσ8 86 3 (show ¬ ((104 ≤ 86 ∧ 86 < 107)) from by omega))
  have f58 : (0 : Int) ≤ σ2 86 3 ∧ σ2 86 3 ≤ 40 := hIσ2 86 3
  have rr : (r4 = 1 ∧ r10 = 1 ∧ 0 ≤ v2) ∨ (¬ r4 = 1 ∧ ¬ r10 = 1) := by
    clear s0 s1 s2 s3 q3_1 q9_1 q3_2 q9_2 q3_3 q9_3 q3_4 q9_4
    omega
  exact K σ8 hIσ8 ⟨mσ8, by omega, ⟨by clear q3_0 q9_0 s1 q3_2 q9_2 s2 q3_3 q9_3 s3 q3_4 q9_4; omega, by clear q3_0 q9_0 s0 q3_1 q9_1 s2 q3_3 q9_3 s3 q3_4 q9_4; omega, by clear q3_0 q9_0 s0 q3_1 q9_1 s1 q3_2 q9_2 s3 q3_4 q9_4; omega, by clear q3_0 q9_0 s0 q3_1 q9_1 s1 q3_2 q9_2 s2 q3_3 q9_3; omega⟩, bσ8, by omega, by omega, by omega, tσ8, st9⟩
