/-! 34a.model -/
theorem dX12_needs_0 : decode cX12_needs 0 = .ok (.iload_n 1, 1) := by decide +kernel
theorem dX12_needs_1 : decode cX12_needs 1 = .ok (.ifCond .ne 23, 3) := by decide +kernel
theorem dX12_needs_4 : decode cX12_needs 4 = .ok (.aload_n 0, 1) := by decide +kernel
theorem dX12_needs_5 : decode cX12_needs 5 = .ok (.getfield 91, 3) := by decide +kernel
theorem dX12_needs_8 : decode cX12_needs 8 = .ok (.ifCond .ne 16, 3) := by decide +kernel
theorem dX12_needs_11 : decode cX12_needs 11 = .ok (.aload_n 0, 1) := by decide +kernel
theorem dX12_needs_12 : decode cX12_needs 12 = .ok (.iload_n 2, 1) := by decide +kernel
theorem dX12_needs_13 : decode cX12_needs 13 = .ok (.putfield 91, 3) := by decide +kernel
theorem dX12_needs_16 : decode cX12_needs 16 = .ok (.aload_n 0, 1) := by decide +kernel
theorem dX12_needs_17 : decode cX12_needs 17 = .ok (.aload_n 0, 1) := by decide +kernel
theorem dX12_needs_18 : decode cX12_needs 18 = .ok (.getfield 94, 3) := by decide +kernel
theorem dX12_needs_21 : decode cX12_needs 21 = .ok (.putfield 97, 3) := by decide +kernel
theorem dX12_needs_24 : decode cX12_needs 24 = .ok (.return_, 1) := by decide +kernel
theorem dX12_look_0 : decode cX12_look 0 = .ok (.iload_n 1, 1) := by decide +kernel
theorem dX12_look_1 : decode cX12_look 1 = .ok (.aload_n 0, 1) := by decide +kernel
theorem dX12_look_2 : decode cX12_look 2 = .ok (.getfield 86, 3) := by decide +kernel
theorem dX12_look_5 : decode cX12_look 5 = .ok (.if_icmp .ge 12, 3) := by decide +kernel
theorem dX12_look_8 : decode cX12_look 8 = .ok (.aload_n 0, 1) := by decide +kernel
theorem dX12_look_9 : decode cX12_look 9 = .ok (.getfield 38, 3) := by decide +kernel
theorem dX12_look_12 : decode cX12_look 12 = .ok (.iload_n 1, 1) := by decide +kernel
theorem dX12_look_13 : decode cX12_look 13 = .ok (.iaload, 1) := by decide +kernel
theorem dX12_look_14 : decode cX12_look 14 = .ok (.goto 4, 3) := by decide +kernel
theorem dX12_look_17 : decode cX12_look 17 = .ok (.iconst (-1), 1) := by decide +kernel
theorem dX12_look_18 : decode cX12_look 18 = .ok (.ireturn, 1) := by decide +kernel
theorem dX12_is_0 : decode cX12_is 0 = .ok (.aload_n 0, 1) := by decide +kernel
theorem dX12_is_1 : decode cX12_is 1 = .ok (.getfield 100, 3) := by decide +kernel
theorem dX12_is_4 : decode cX12_is 4 = .ok (.aload_n 0, 1) := by decide +kernel
theorem dX12_is_5 : decode cX12_is 5 = .ok (.getfield 94, 3) := by decide +kernel
theorem dX12_is_8 : decode cX12_is 8 = .ok (.isub, 1) := by decide +kernel
theorem dX12_is_9 : decode cX12_is 9 = .ok (.iload_n 1, 1) := by decide +kernel
theorem dX12_is_10 : decode cX12_is 10 = .ok (.if_icmp .ne 73, 3) := by decide +kernel
theorem dX12_is_13 : decode cX12_is 13 = .ok (.aload_n 0, 1) := by decide +kernel
theorem dX12_is_14 : decode cX12_is 14 = .ok (.aload_n 0, 1) := by decide +kernel
theorem dX12_is_15 : decode cX12_is 15 = .ok (.getfield 94, 3) := by decide +kernel
theorem dX12_is_18 : decode cX12_is 18 = .ok (.invokevirtual 103, 3) := by decide +kernel
theorem dX12_is_21 : decode cX12_is 21 = .ok (.iload_n 2, 1) := by decide +kernel
theorem dX12_is_22 : decode cX12_is 22 = .ok (.if_icmp .ne 61, 3) := by decide +kernel
theorem dX12_is_25 : decode cX12_is 25 = .ok (.aload_n 0, 1) := by decide +kernel
theorem dX12_is_26 : decode cX12_is 26 = .ok (.aload_n 0, 1) := by decide +kernel
theorem dX12_is_27 : decode cX12_is 27 = .ok (.getfield 94, 3) := by decide +kernel
theorem dX12_is_30 : decode cX12_is 30 = .ok (.iconst 1, 1) := by decide +kernel
theorem dX12_is_31 : decode cX12_is 31 = .ok (.iadd, 1) := by decide +kernel
theorem dX12_is_32 : decode cX12_is 32 = .ok (.invokevirtual 103, 3) := by decide +kernel
theorem dX12_is_35 : decode cX12_is 35 = .ok (.iload_n 3, 1) := by decide +kernel
theorem dX12_is_36 : decode cX12_is 36 = .ok (.if_icmp .ne 47, 3) := by decide +kernel
theorem dX12_is_39 : decode cX12_is 39 = .ok (.iload_n 1, 1) := by decide +kernel
theorem dX12_is_40 : decode cX12_is 40 = .ok (.iconst 3, 1) := by decide +kernel
theorem dX12_is_41 : decode cX12_is 41 = .ok (.if_icmp .lt 18, 3) := by decide +kernel
theorem dX12_is_44 : decode cX12_is 44 = .ok (.aload_n 0, 1) := by decide +kernel
theorem dX12_is_45 : decode cX12_is 45 = .ok (.aload_n 0, 1) := by decide +kernel
theorem dX12_is_46 : decode cX12_is 46 = .ok (.getfield 94, 3) := by decide +kernel
theorem dX12_is_49 : decode cX12_is 49 = .ok (.iconst 2, 1) := by decide +kernel
theorem dX12_is_50 : decode cX12_is 50 = .ok (.iadd, 1) := by decide +kernel
theorem dX12_is_51 : decode cX12_is 51 = .ok (.invokevirtual 103, 3) := by decide +kernel
theorem dX12_is_54 : decode cX12_is 54 = .ok (.iload 4, 2) := by decide +kernel
theorem dX12_is_56 : decode cX12_is 56 = .ok (.if_icmp .ne 27, 3) := by decide +kernel
theorem dX12_is_59 : decode cX12_is 59 = .ok (.iload_n 1, 1) := by decide +kernel
theorem dX12_is_60 : decode cX12_is 60 = .ok (.iconst 4, 1) := by decide +kernel
theorem dX12_is_61 : decode cX12_is 61 = .ok (.if_icmp .lt 18, 3) := by decide +kernel
theorem dX12_is_64 : decode cX12_is 64 = .ok (.aload_n 0, 1) := by decide +kernel
theorem dX12_is_65 : decode cX12_is 65 = .ok (.aload_n 0, 1) := by decide +kernel
theorem dX12_is_66 : decode cX12_is 66 = .ok (.getfield 94, 3) := by decide +kernel
theorem dX12_is_69 : decode cX12_is 69 = .ok (.iconst 3, 1) := by decide +kernel
theorem dX12_is_70 : decode cX12_is 70 = .ok (.iadd, 1) := by decide +kernel
theorem dX12_is_71 : decode cX12_is 71 = .ok (.invokevirtual 103, 3) := by decide +kernel
theorem dX12_is_74 : decode cX12_is 74 = .ok (.iload 5, 2) := by decide +kernel
theorem dX12_is_76 : decode cX12_is 76 = .ok (.if_icmp .ne 7, 3) := by decide +kernel
theorem dX12_is_79 : decode cX12_is 79 = .ok (.iconst 1, 1) := by decide +kernel
theorem dX12_is_80 : decode cX12_is 80 = .ok (.goto 4, 3) := by decide +kernel
theorem dX12_is_83 : decode cX12_is 83 = .ok (.iconst 0, 1) := by decide +kernel
theorem dX12_is_84 : decode cX12_is 84 = .ok (.ireturn, 1) := by decide +kernel
theorem dX12_withNow_0 : decode cX12_withNow 0 = .ok (.aload_n 0, 1) := by decide +kernel
theorem dX12_withNow_1 : decode cX12_withNow 1 = .ok (.iconst 5, 1) := by decide +kernel
theorem dX12_withNow_2 : decode cX12_withNow 2 = .ok (.bipush 99, 2) := by decide +kernel
theorem dX12_withNow_4 : decode cX12_withNow 4 = .ok (.bipush 114, 2) := by decide +kernel
theorem dX12_withNow_6 : decode cX12_withNow 6 = .ok (.bipush 97, 2) := by decide +kernel
theorem dX12_withNow_8 : decode cX12_withNow 8 = .ok (.bipush 99, 2) := by decide +kernel
theorem dX12_withNow_10 : decode cX12_withNow 10 = .ok (.invokevirtual 107, 3) := by decide +kernel
theorem dX12_withNow_13 : decode cX12_withNow 13 = .ok (.ifCond .eq 21, 3) := by decide +kernel
theorem dX12_withNow_16 : decode cX12_withNow 16 = .ok (.aload_n 0, 1) := by decide +kernel
theorem dX12_withNow_17 : decode cX12_withNow 17 = .ok (.aload_n 0, 1) := by decide +kernel
theorem dX12_withNow_18 : decode cX12_withNow 18 = .ok (.getfield 94, 3) := by decide +kernel
theorem dX12_withNow_21 : decode cX12_withNow 21 = .ok (.iconst 4, 1) := by decide +kernel
theorem dX12_withNow_22 : decode cX12_withNow 22 = .ok (.iadd, 1) := by decide +kernel
theorem dX12_withNow_23 : decode cX12_withNow 23 = .ok (.invokevirtual 103, 3) := by decide +kernel
theorem dX12_withNow_26 : decode cX12_withNow 26 = .ok (.bipush 107, 2) := by decide +kernel
theorem dX12_withNow_28 : decode cX12_withNow 28 = .ok (.if_icmp .ne 6, 3) := by decide +kernel
theorem dX12_withNow_31 : decode cX12_withNow 31 = .ok (.bipush 20, 2) := by decide +kernel
theorem dX12_withNow_33 : decode cX12_withNow 33 = .ok (.ireturn, 1) := by decide +kernel
theorem dX12_withNow_34 : decode cX12_withNow 34 = .ok (.aload_n 0, 1) := by decide +kernel
theorem dX12_withNow_35 : decode cX12_withNow 35 = .ok (.iconst 5, 1) := by decide +kernel
theorem dX12_withNow_36 : decode cX12_withNow 36 = .ok (.bipush 108, 2) := by decide +kernel
theorem dX12_withNow_38 : decode cX12_withNow 38 = .ok (.bipush 101, 2) := by decide +kernel
theorem dX12_withNow_40 : decode cX12_withNow 40 = .ok (.bipush 100, 2) := by decide +kernel
theorem dX12_withNow_42 : decode cX12_withNow 42 = .ok (.bipush 103, 2) := by decide +kernel
theorem dX12_withNow_44 : decode cX12_withNow 44 = .ok (.invokevirtual 107, 3) := by decide +kernel
theorem dX12_withNow_47 : decode cX12_withNow 47 = .ok (.ifCond .eq 21, 3) := by decide +kernel
theorem dX12_withNow_50 : decode cX12_withNow 50 = .ok (.aload_n 0, 1) := by decide +kernel
theorem dX12_withNow_51 : decode cX12_withNow 51 = .ok (.aload_n 0, 1) := by decide +kernel
theorem dX12_withNow_52 : decode cX12_withNow 52 = .ok (.getfield 94, 3) := by decide +kernel
theorem dX12_withNow_55 : decode cX12_withNow 55 = .ok (.iconst 4, 1) := by decide +kernel
theorem dX12_withNow_56 : decode cX12_withNow 56 = .ok (.iadd, 1) := by decide +kernel
theorem dX12_withNow_57 : decode cX12_withNow 57 = .ok (.invokevirtual 103, 3) := by decide +kernel
theorem dX12_withNow_60 : decode cX12_withNow 60 = .ok (.bipush 101, 2) := by decide +kernel
theorem dX12_withNow_62 : decode cX12_withNow 62 = .ok (.if_icmp .ne 6, 3) := by decide +kernel
theorem dX12_withNow_65 : decode cX12_withNow 65 = .ok (.bipush 21, 2) := by decide +kernel
theorem dX12_withNow_67 : decode cX12_withNow 67 = .ok (.ireturn, 1) := by decide +kernel
theorem dX12_withNow_68 : decode cX12_withNow 68 = .ok (.aload_n 0, 1) := by decide +kernel
theorem dX12_withNow_69 : decode cX12_withNow 69 = .ok (.iconst 4, 1) := by decide +kernel
theorem dX12_withNow_70 : decode cX12_withNow 70 = .ok (.bipush 114, 2) := by decide +kernel
theorem dX12_withNow_72 : decode cX12_withNow 72 = .ok (.bipush 101, 2) := by decide +kernel
theorem dX12_withNow_74 : decode cX12_withNow 74 = .ok (.bipush 115, 2) := by decide +kernel
theorem dX12_withNow_76 : decode cX12_withNow 76 = .ok (.bipush 116, 2) := by decide +kernel
theorem dX12_withNow_78 : decode cX12_withNow 78 = .ok (.invokevirtual 107, 3) := by decide +kernel
theorem dX12_withNow_81 : decode cX12_withNow 81 = .ok (.ifCond .eq 8, 3) := by decide +kernel
theorem dX12_withNow_84 : decode cX12_withNow 84 = .ok (.bipush 22, 2) := by decide +kernel
theorem dX12_withNow_86 : decode cX12_withNow 86 = .ok (.goto 26, 3) := by decide +kernel
theorem dX12_withNow_89 : decode cX12_withNow 89 = .ok (.aload_n 0, 1) := by decide +kernel
theorem dX12_withNow_90 : decode cX12_withNow 90 = .ok (.iconst 4, 1) := by decide +kernel
theorem dX12_withNow_91 : decode cX12_withNow 91 = .ok (.bipush 115, 2) := by decide +kernel
theorem dX12_withNow_93 : decode cX12_withNow 93 = .ok (.bipush 105, 2) := by decide +kernel
theorem dX12_withNow_95 : decode cX12_withNow 95 = .ok (.bipush 100, 2) := by decide +kernel
theorem dX12_withNow_97 : decode cX12_withNow 97 = .ok (.bipush 101, 2) := by decide +kernel
theorem dX12_withNow_99 : decode cX12_withNow 99 = .ok (.invokevirtual 107, 3) := by decide +kernel
theorem dX12_withNow_102 : decode cX12_withNow 102 = .ok (.ifCond .eq 8, 3) := by decide +kernel
theorem dX12_withNow_105 : decode cX12_withNow 105 = .ok (.bipush 23, 2) := by decide +kernel
theorem dX12_withNow_107 : decode cX12_withNow 107 = .ok (.goto 5, 3) := by decide +kernel
theorem dX12_withNow_110 : decode cX12_withNow 110 = .ok (.bipush (-4), 2) := by decide +kernel
theorem dX12_withNow_112 : decode cX12_withNow 112 = .ok (.ireturn, 1) := by decide +kernel
abbrev q_X12_needs (g : Int) (c : Int) (σ : tw_M) : Option tw_V → tw_M → Prop := fun z τ => z = none ∧ tw_I τ ∧ tw_F (fun c j => (c = 88 ∧ (j = 17 ∨ j = 18))) σ τ ∧ ((¬ g = 0 ∧ τ 88 17 = σ 88 17) ∨ (g = 0 ∧ σ 88 17 = 0 ∧ τ 88 17 = c) ∨ (g = 0 ∧ ¬ σ 88 17 = 0 ∧ τ 88 17 = σ 88 17)) ∧ ((¬ g = 0 ∧ τ 88 17 = σ 88 17 ∧ τ 88 18 = σ 88 18) ∨ (g = 0 ∧ σ 88 17 = 0 ∧ τ 88 17 = c ∧ τ 88 18 = σ 88 14) ∨ (g = 0 ∧ ¬ σ 88 17 = 0 ∧ τ 88 17 = σ 88 17 ∧ τ 88 18 = σ 88 18)) ∧ (aM τ = need (decide (¬ g = 0)) c (aM σ))
set_option maxHeartbeats 4000000 in
set_option maxRecDepth 100000 in
theorem c_X12_needs {G : tw_G} (hM : tw_isM G) (g : Int) (hg : 0 ≤ g ∧ g ≤ 1) (c : Int) (hc : 1 ≤ c ∧ c ≤ 5) (σ : tw_M) (hI : tw_I σ) : tw_C G yX12_needs cX12_needs 3 none 0 [vR 88, vI g, vI c] σ (q_X12_needs g c σ) := by
  refine tw_met [(0, vR 88), (1, vI g), (2, vI c)] (by decide +kernel) rfl (Nat.le_of_ble_eq_true rfl) ?_
  refine j_iload_n (pc := 0) dX12_needs_0 rfl rfl ?_
  refine j_ifR_ne (pc := 1) (tgt := 24) ⟨by omega, by omega⟩ dX12_needs_1 rfl (fun h1 => ?_) (fun h1 => ?_)
  · exact j_vret (pc := 24) ⟨rfl, rfl⟩ dX12_needs_24 rfl ⟨rfl, hI, (tw_F_rf), by omega, by omega, (by first | exact aM_needt (fun _ => decide_eq_true (by omega)) | exact aM_need (by omega) (fun _ => decide_eq_false (by omega)) (by omega))⟩
  · refine j_aload_n (pc := 4) dX12_needs_4 rfl rfl ?_
    refine j_getI (pc := 5) fl_X12_91 dX12_needs_5 (a_88 hM) rfl ?_
    have f2 : (0 : Int) ≤ σ 88 17 ∧ σ 88 17 ≤ 5 := hI 88 17
    refine j_ifR_ne (pc := 8) (tgt := 24) ⟨by omega, by omega⟩ dX12_needs_8 rfl (fun h3 => ?_) (fun h3 => ?_)
    · exact j_vret (pc := 24) ⟨rfl, rfl⟩ dX12_needs_24 rfl ⟨rfl, hI, (tw_F_rf), by omega, by omega, (by first | exact aM_needt (fun _ => decide_eq_true (by omega)) | exact aM_need (by omega) (fun _ => decide_eq_false (by omega)) (by omega))⟩
    · refine j_aload_n (pc := 11) dX12_needs_11 rfl rfl ?_
      refine j_iload_n (pc := 12) dX12_needs_12 rfl rfl ?_
      refine j_putI (pc := 13) fl_X12_91 fp_X12_17 dX12_needs_13 (a_88 hM) rfl (j_nm (fun σ4 (eσ4 : σ4 = tw_up σ 88 17 c) => ?_))
      have hIσ4 : tw_I σ4 := tw_I_up hI eσ4 (show (0 : Int) ≤ c ∧ c ≤ 5 from ⟨by omega, by omega⟩)
      have hFσ4 : tw_F (fun c j => (c = 88 ∧ (j = 17 ∨ j = 18))) σ σ4 := tw_F_up (tw_F_rf) eσ4 (show (88 = 88 ∧ (17 = 17 ∨ 17 = 18)) from ⟨rfl, (Or.inl rfl)⟩)
      refine j_aload_n (pc := 16) dX12_needs_16 rfl rfl ?_
      refine j_aload_n (pc := 17) dX12_needs_17 rfl rfl ?_
      refine j_getI (pc := 18) fl_X12_94 dX12_needs_18 (a_88 hM) rfl ?_
      refine j_topV (show σ4 88 14 = σ 88 14 from (tw_ne1 eσ4 (by (first | decide | omega)))) ?_
      have f5 : (0 : Int) ≤ σ 88 14 ∧ σ 88 14 ≤ 400 := hI 88 14
      refine j_putI (pc := 21) fl_X12_97 fp_X12_18 dX12_needs_21 (a_88 hM) rfl (j_nm (fun σ6 (eσ6 : σ6 = tw_up σ4 88 18 (σ 88 14)) => ?_))
      have hIσ6 : tw_I σ6 := tw_I_up hIσ4 eσ6 (show (0 : Int) ≤ σ 88 14 ∧ σ 88 14 ≤ 400 from ⟨by omega, by omega⟩)
      have hFσ6 : tw_F (fun c j => (c = 88 ∧ (j = 17 ∨ j = 18))) σ σ6 := tw_F_up hFσ4 eσ6 (show (88 = 88 ∧ (18 = 17 ∨ 18 = 18)) from ⟨rfl, (Or.inr rfl)⟩)
      have y7 : σ6 88 17 = c := ((tw_ne1 eσ6 (by (first | decide | omega)))).trans (tw_eq1 eσ4)
      have y8 : σ6 88 17 = c := ((tw_ne1 eσ6 (by (first | decide | omega)))).trans (tw_eq1 eσ4)
      have y9 : σ6 88 18 = σ 88 14 := (tw_eq1 eσ6)
      exact j_vret (pc := 24) ⟨rfl, rfl⟩ dX12_needs_24 rfl ⟨rfl, hIσ6, hFσ6, by omega, by omega, (by first | exact aM_needt (fun _ => decide_eq_true (by omega)) | exact aM_need (by omega) (fun _ => decide_eq_false (by omega)) (by omega))⟩
abbrev q_X12_look (p : Int) (σ : tw_M) : Option tw_V → tw_M → Prop := fun z τ => ∃ r : Int, z = some (vI r) ∧ (-2147483648 ≤ r ∧ r ≤ 2147483647) ∧ σ = τ ∧ ((p < σ 88 12 ∧ r = σ 98 p.toNat) ∨ (¬ p < σ 88 12 ∧ r = -1)) ∧ (r = fM σ p)
set_option maxHeartbeats 4000000 in
set_option maxRecDepth 100000 in
theorem c_X12_look {G : tw_G} (hM : tw_isM G) (p : Int) (hp : 0 ≤ p ∧ p ≤ 2147483647) (σ : tw_M) (hI : tw_I σ) : tw_C G yX12_look cX12_look 2 (some .int) 0 [vR 88, vI p] σ (q_X12_look p σ) := by
  refine tw_met [(0, vR 88), (1, vI p)] (by decide +kernel) rfl (Nat.le_of_ble_eq_true rfl) ?_
  refine j_iload_n (pc := 0) dX12_look_0 rfl rfl ?_
  refine j_aload_n (pc := 1) dX12_look_1 rfl rfl ?_
  refine j_getI (pc := 2) fl_X12_86 dX12_look_2 (a_88 hM) rfl ?_
  have f1 : (0 : Int) ≤ σ 88 12 ∧ σ 88 12 ≤ 400 := hI 88 12
  refine j_icmpR_ge (pc := 5) (tgt := 17) ⟨by omega, by omega⟩ ⟨by omega, by omega⟩ dX12_look_5 rfl (fun h2 => ?_) (fun h2 => ?_)
  · refine j_iconst (pc := 17) dX12_look_17 ?_
    exact j_iret (pc := 18) ⟨rfl, rfl⟩ dX12_look_18 rfl ⟨_, rfl, ⟨by omega, by omega⟩, rfl, by omega, (by first | exact Eq.trans (by omega) (fM_at ⟨by omega, by omega⟩).symm | exact Eq.trans (by omega) (fM_no (by omega)).symm)⟩
  · refine j_aload_n (pc := 8) dX12_look_8 rfl rfl ?_
    refine j_getR (pc := 9) (r := 98) fl_X12_38 dX12_look_9 (a_88 hM) rfl ?_
    refine j_iload_n (pc := 12) dX12_look_12 rfl rfl ?_
    refine j_iald (pc := 13) dX12_look_13 (a_98 hM) (by omega) (by omega) (by decide) ?_
    have f3 : (-2147483648 : Int) ≤ σ 98 (p.toNat) ∧ σ 98 (p.toNat) ≤ 2147483647 := hI 98 (p.toNat)
    refine j_goto (pc := 14) (tgt := 18) dX12_look_14 rfl ?_
    exact j_iret (pc := 18) ⟨rfl, rfl⟩ dX12_look_18 rfl ⟨_, rfl, ⟨by omega, by omega⟩, rfl, by omega, (by first | exact Eq.trans (by omega) (fM_at ⟨by omega, by omega⟩).symm | exact Eq.trans (by omega) (fM_no (by omega)).symm)⟩
abbrev q_X12_is (n : Int) (a : Int) (b : Int) (c : Int) (d : Int) (σ : tw_M) : Option tw_V → tw_M → Prop := fun z τ => ∃ r : Int, z = some (vI r) ∧ (0 ≤ r ∧ r ≤ 1) ∧ σ = τ ∧ ((r = 1 ∧ σ 88 13 - σ 88 14 = n ∧ fM σ (σ 88 14) = a ∧ fM σ (σ 88 14 + 1) = b ∧ (n < 3 ∨ fM σ (σ 88 14 + 2) = c) ∧ (n < 4 ∨ fM σ (σ 88 14 + 3) = d)) ∨ (r = 0 ∧ ¬ (σ 88 13 - σ 88 14 = n ∧ fM σ (σ 88 14) = a ∧ fM σ (σ 88 14 + 1) = b ∧ (n < 3 ∨ fM σ (σ 88 14 + 2) = c) ∧ (n < 4 ∨ fM σ (σ 88 14 + 3) = d))))
set_option maxHeartbeats 4000000 in
set_option maxRecDepth 100000 in
theorem c_X12_is {G : tw_G} (hM : tw_isM G) (n : Int) (hn : -2147483648 ≤ n ∧ n ≤ 2147483647) (a : Int) (ha : -2147483648 ≤ a ∧ a ≤ 2147483647) (b : Int) (hb : -2147483648 ≤ b ∧ b ≤ 2147483647) (c : Int) (hc : -2147483648 ≤ c ∧ c ≤ 2147483647) (d : Int) (hd : -2147483648 ≤ d ∧ d ≤ 2147483647) (σ : tw_M) (hI : tw_I σ) : tw_C G yX12_is cX12_is 6 (some .boolean) 1 [vR 88, vI n, vI a, vI b, vI c, vI d] σ (q_X12_is n a b c d σ) := by
  refine tw_met [(0, vR 88), (1, vI n), (2, vI a), (3, vI b), (4, vI c), (5, vI d)] (by decide +kernel) rfl (Nat.le_of_ble_eq_true rfl) ?_
  refine j_aload_n (pc := 0) dX12_is_0 rfl rfl ?_
  refine j_getI (pc := 1) fl_X12_100 dX12_is_1 (a_88 hM) rfl ?_
  have f1 : (0 : Int) ≤ σ 88 13 ∧ σ 88 13 ≤ 400 := hI 88 13
  refine j_aload_n (pc := 4) dX12_is_4 rfl rfl ?_
  refine j_getI (pc := 5) fl_X12_94 dX12_is_5 (a_88 hM) rfl ?_
  have f2 : (0 : Int) ≤ σ 88 14 ∧ σ 88 14 ≤ 400 := hI 88 14
  refine j_isub (pc := 8) dX12_is_8 ?_
  refine j_iload_n (pc := 9) dX12_is_9 rfl rfl ?_
  refine j_icmpR_ne (pc := 10) (tgt := 83) ⟨by omega, by omega⟩ ⟨by omega, by omega⟩ dX12_is_10 rfl (fun h3 => ?_) (fun h3 => ?_)
  · refine j_iconst (pc := 83) dX12_is_83 ?_
    exact j_zret (pc := 84) ⟨rfl, rfl⟩ dX12_is_84 rfl (nar_bool (by omega) (by omega)) ⟨_, rfl, ⟨by omega, by omega⟩, rfl, by omega⟩
  · refine j_aload_n (pc := 13) dX12_is_13 rfl rfl ?_
    refine j_aload_n (pc := 14) dX12_is_14 rfl rfl ?_
    refine j_getI (pc := 15) fl_X12_94 dX12_is_15 (a_88 hM) rfl ?_
    refine j_callV (pc := 18) (As := [vI (σ 88 14)]) (st := []) (c_X12_look hM (σ 88 14) ⟨by omega, by omega⟩ σ hI) mv_X12_103 rfl rfl rfl (a_88 hM) dX12_is_18 ⟨Nat.le_of_ble_eq_true rfl, Nat.le_of_ble_eq_true rfl⟩ ⟨Nat.le_refl _, Nat.le_refl _⟩ rfl (Nat.le_of_ble_eq_true rfl) rfl (fun z4 σ5 hz4 => ?_)
    obtain ⟨r7, rfl, hr7, rfl, q6_0, q6_1⟩ := hz4
    replace q6_0 : ((σ 88 14) < σ 88 12 ∧ r7 = σ 98 (σ 88 14).toNat) ∨ (¬ (σ 88 14) < σ 88 12 ∧ r7 = -1) := q6_0
    replace q6_1 : r7 = fM σ (σ 88 14) := q6_1
    refine j_st (st' := [vI r7]) rfl ?_
    refine j_iload_n (pc := 21) dX12_is_21 rfl rfl ?_
    refine j_icmpR_ne (pc := 22) (tgt := 83) ⟨by omega, by omega⟩ ⟨by omega, by omega⟩ dX12_is_22 rfl (fun h8 => ?_) (fun h8 => ?_)
    · refine j_iconst (pc := 83) dX12_is_83 ?_
      exact j_zret (pc := 84) ⟨rfl, rfl⟩ dX12_is_84 rfl (nar_bool (by omega) (by omega)) ⟨_, rfl, ⟨by omega, by omega⟩, rfl, by omega⟩
    · refine j_aload_n (pc := 25) dX12_is_25 rfl rfl ?_
      refine j_aload_n (pc := 26) dX12_is_26 rfl rfl ?_
      refine j_getI (pc := 27) fl_X12_94 dX12_is_27 (a_88 hM) rfl ?_
      refine j_iconst (pc := 30) dX12_is_30 ?_
      refine j_iadd (pc := 31) dX12_is_31 ?_
      refine j_callV (pc := 32) (As := [vI ((σ 88 14) + 1)]) (st := []) (c_X12_look hM ((σ 88 14) + 1) ⟨by omega, by omega⟩ σ hI) mv_X12_103 rfl rfl rfl (a_88 hM) dX12_is_32 ⟨Nat.le_of_ble_eq_true rfl, Nat.le_of_ble_eq_true rfl⟩ ⟨Nat.le_refl _, Nat.le_refl _⟩ rfl (Nat.le_of_ble_eq_true rfl) rfl (fun z9 σ10 hz9 => ?_)
      obtain ⟨r12, rfl, hr12, rfl, q11_0, q11_1⟩ := hz9
      replace q11_0 : (((σ 88 14) + 1) < σ 88 12 ∧ r12 = σ 98 ((σ 88 14) + 1).toNat) ∨ (¬ ((σ 88 14) + 1) < σ 88 12 ∧ r12 = -1) := q11_0
      replace q11_1 : r12 = fM σ ((σ 88 14) + 1) := q11_1
      refine j_st (st' := [vI r12]) rfl ?_
      refine j_iload_n (pc := 35) dX12_is_35 rfl rfl ?_
      refine j_icmpR_ne (pc := 36) (tgt := 83) ⟨by omega, by omega⟩ ⟨by omega, by omega⟩ dX12_is_36 rfl (fun h13 => ?_) (fun h13 => ?_)
      · refine j_iconst (pc := 83) dX12_is_83 ?_
        exact j_zret (pc := 84) ⟨rfl, rfl⟩ dX12_is_84 rfl (nar_bool (by omega) (by omega)) ⟨_, rfl, ⟨by omega, by omega⟩, rfl, by omega⟩
      · refine j_iload_n (pc := 39) dX12_is_39 rfl rfl ?_
        refine j_iconst (pc := 40) dX12_is_40 ?_
        refine j_icmpR_lt (pc := 41) (tgt := 59) ⟨by omega, by omega⟩ ⟨by omega, by omega⟩ dX12_is_41 rfl (fun h14 => ?_) (fun h14 => ?_)
        · refine j_iload_n (pc := 59) dX12_is_59 rfl rfl ?_
          refine j_iconst (pc := 60) dX12_is_60 ?_
          refine j_icmpR_lt (pc := 61) (tgt := 79) ⟨by omega, by omega⟩ ⟨by omega, by omega⟩ dX12_is_61 rfl (fun h15 => ?_) (fun h15 => by exfalso; omega)
          refine j_iconst (pc := 79) dX12_is_79 ?_
          refine j_goto (pc := 80) (tgt := 84) dX12_is_80 rfl ?_
          exact j_zret (pc := 84) ⟨rfl, rfl⟩ dX12_is_84 rfl (nar_bool (by omega) (by omega)) ⟨_, rfl, ⟨by omega, by omega⟩, rfl, by omega⟩
        · refine j_aload_n (pc := 44) dX12_is_44 rfl rfl ?_
          refine j_aload_n (pc := 45) dX12_is_45 rfl rfl ?_
          refine j_getI (pc := 46) fl_X12_94 dX12_is_46 (a_88 hM) rfl ?_
          refine j_iconst (pc := 49) dX12_is_49 ?_
          refine j_iadd (pc := 50) dX12_is_50 ?_
          refine j_callV (pc := 51) (As := [vI ((σ 88 14) + 2)]) (st := []) (c_X12_look hM ((σ 88 14) + 2) ⟨by omega, by omega⟩ σ hI) mv_X12_103 rfl rfl rfl (a_88 hM) dX12_is_51 ⟨Nat.le_of_ble_eq_true rfl, Nat.le_of_ble_eq_true rfl⟩ ⟨Nat.le_refl _, Nat.le_refl _⟩ rfl (Nat.le_of_ble_eq_true rfl) rfl (fun z16 σ17 hz16 => ?_)
          obtain ⟨r19, rfl, hr19, rfl, q18_0, q18_1⟩ := hz16
          replace q18_0 : (((σ 88 14) + 2) < σ 88 12 ∧ r19 = σ 98 ((σ 88 14) + 2).toNat) ∨ (¬ ((σ 88 14) + 2) < σ 88 12 ∧ r19 = -1) := q18_0
          replace q18_1 : r19 = fM σ ((σ 88 14) + 2) := q18_1
          refine j_st (st' := [vI r19]) rfl ?_
          refine j_iload (pc := 54) dX12_is_54 rfl ?_
          refine j_icmpR_ne (pc := 56) (tgt := 83) ⟨by omega, by omega⟩ ⟨by omega, by omega⟩ dX12_is_56 rfl (fun h20 => ?_) (fun h20 => ?_)
          · refine j_iconst (pc := 83) dX12_is_83 ?_
            exact j_zret (pc := 84) ⟨rfl, rfl⟩ dX12_is_84 rfl (nar_bool (by omega) (by omega)) ⟨_, rfl, ⟨by omega, by omega⟩, rfl, by omega⟩
          · refine j_iload_n (pc := 59) dX12_is_59 rfl rfl ?_
            refine j_iconst (pc := 60) dX12_is_60 ?_
            refine j_icmpR_lt (pc := 61) (tgt := 79) ⟨by omega, by omega⟩ ⟨by omega, by omega⟩ dX12_is_61 rfl (fun h21 => ?_) (fun h21 => ?_)
            · refine j_iconst (pc := 79) dX12_is_79 ?_
              refine j_goto (pc := 80) (tgt := 84) dX12_is_80 rfl ?_
              exact j_zret (pc := 84) ⟨rfl, rfl⟩ dX12_is_84 rfl (nar_bool (by omega) (by omega)) ⟨_, rfl, ⟨by omega, by omega⟩, rfl, by omega⟩
            · refine j_aload_n (pc := 64) dX12_is_64 rfl rfl ?_
              refine j_aload_n (pc := 65) dX12_is_65 rfl rfl ?_
              refine j_getI (pc := 66) fl_X12_94 dX12_is_66 (a_88 hM) rfl ?_
              refine j_iconst (pc := 69) dX12_is_69 ?_
              refine j_iadd (pc := 70) dX12_is_70 ?_
              refine j_callV (pc := 71) (As := [vI ((σ 88 14) + 3)]) (st := []) (c_X12_look hM ((σ 88 14) + 3) ⟨by omega, by omega⟩ σ hI) mv_X12_103 rfl rfl rfl (a_88 hM) dX12_is_71 ⟨Nat.le_of_ble_eq_true rfl, Nat.le_of_ble_eq_true rfl⟩ ⟨Nat.le_refl _, Nat.le_refl _⟩ rfl (Nat.le_of_ble_eq_true rfl) rfl (fun z22 σ23 hz22 => ?_)
              obtain ⟨r25, rfl, hr25, rfl, q24_0, q24_1⟩ := hz22
              replace q24_0 : (((σ 88 14) + 3) < σ 88 12 ∧ r25 = σ 98 ((σ 88 14) + 3).toNat) ∨ (¬ ((σ 88 14) + 3) < σ 88 12 ∧ r25 = -1) := q24_0
              replace q24_1 : r25 = fM σ ((σ 88 14) + 3) := q24_1
              refine j_st (st' := [vI r25]) rfl ?_
              refine j_iload (pc := 74) dX12_is_74 rfl ?_
              refine j_icmpR_ne (pc := 76) (tgt := 83) ⟨by omega, by omega⟩ ⟨by omega, by omega⟩ dX12_is_76 rfl (fun h26 => ?_) (fun h26 => ?_)
              · refine j_iconst (pc := 83) dX12_is_83 ?_
                exact j_zret (pc := 84) ⟨rfl, rfl⟩ dX12_is_84 rfl (nar_bool (by omega) (by omega)) ⟨_, rfl, ⟨by omega, by omega⟩, rfl, by omega⟩
              · refine j_iconst (pc := 79) dX12_is_79 ?_
                refine j_goto (pc := 80) (tgt := 84) dX12_is_80 rfl ?_
                exact j_zret (pc := 84) ⟨rfl, rfl⟩ dX12_is_84 rfl (nar_bool (by omega) (by omega)) ⟨_, rfl, ⟨by omega, by omega⟩, rfl, by omega⟩
abbrev q_X12_withNow  (σ : tw_M) : Option tw_V → tw_M → Prop := fun z τ => ∃ r : Int, z = some (vI r) ∧ (-4 ≤ r ∧ r ≤ 23) ∧ σ = τ ∧ (r = -4 ∨ 20 ≤ r) ∧ ((r = -4 ∧ wnm (fM σ) 1 (σ 88 14) (σ 88 13) = -1) ∨ (r = 20 + wnm (fM σ) 1 (σ 88 14) (σ 88 13) ∧ 0 ≤ wnm (fM σ) 1 (σ 88 14) (σ 88 13) ∧ wnm (fM σ) 1 (σ 88 14) (σ 88 13) ≤ 3))
set_option maxHeartbeats 4000000 in
set_option maxRecDepth 100000 in
theorem c_X12_withNow {G : tw_G} (hM : tw_isM G) (σ : tw_M) (hI : tw_I σ) : tw_C G yX12_withNow cX12_withNow 1 (some .int) 2 [vR 88] σ (q_X12_withNow σ) := by
  refine tw_met [(0, vR 88)] (by decide +kernel) rfl (Nat.le_of_ble_eq_true rfl) ?_
  refine j_aload_n (pc := 0) dX12_withNow_0 rfl rfl ?_
  refine j_iconst (pc := 1) dX12_withNow_1 ?_
  refine j_bipush (pc := 2) dX12_withNow_2 rfl ?_
  refine j_bipush (pc := 4) dX12_withNow_4 rfl ?_
  refine j_bipush (pc := 6) dX12_withNow_6 rfl ?_
  refine j_bipush (pc := 8) dX12_withNow_8 rfl ?_
  refine j_callV (pc := 10) (As := [vI 5, vI 99, vI 114, vI 97, vI 99]) (st := []) (c_X12_is hM 5 (by (first | decide | exact ⟨by omega, by omega⟩)) 99 (by (first | decide | exact ⟨by omega, by omega⟩)) 114 (by (first | decide | exact ⟨by omega, by omega⟩)) 97 (by (first | decide | exact ⟨by omega, by omega⟩)) 99 (by (first | decide | exact ⟨by omega, by omega⟩)) σ hI) mv_X12_107 rfl rfl rfl (a_88 hM) dX12_withNow_10 ⟨Nat.le_of_ble_eq_true rfl, Nat.le_of_ble_eq_true rfl⟩ ⟨Nat.le_refl _, Nat.le_refl _⟩ rfl (Nat.le_of_ble_eq_true rfl) rfl (fun z1 σ2 hz1 => ?_)
  obtain ⟨r4, rfl, hr4, rfl, q3_0⟩ := hz1
  replace q3_0 : (r4 = 1 ∧ σ 88 13 - σ 88 14 = (5 : Int) ∧ fM σ (σ 88 14) = (99 : Int) ∧ fM σ (σ 88 14 + 1) = (114 : Int) ∧ ((5 : Int) < 3 ∨ fM σ (σ 88 14 + 2) = (97 : Int)) ∧ ((5 : Int) < 4 ∨ fM σ (σ 88 14 + 3) = (99 : Int))) ∨ (r4 = 0 ∧ ¬ (σ 88 13 - σ 88 14 = (5 : Int) ∧ fM σ (σ 88 14) = (99 : Int) ∧ fM σ (σ 88 14 + 1) = (114 : Int) ∧ ((5 : Int) < 3 ∨ fM σ (σ 88 14 + 2) = (97 : Int)) ∧ ((5 : Int) < 4 ∨ fM σ (σ 88 14 + 3) = (99 : Int)))) := q3_0
  refine j_st (st' := [vI r4]) rfl ?_
  refine j_ifR_eq (pc := 13) (tgt := 34) ⟨by omega, by omega⟩ dX12_withNow_13 rfl (fun h5 => ?_) (fun h5 => ?_)
  · have z10 : ¬ nm (fM σ) (σ 88 14) (σ 88 13) 10 = 1 := by (have e := nmE_10 (fM σ) (σ 88 14) (σ 88 13)); omega
    clear q3_0
    refine j_aload_n (pc := 34) dX12_withNow_34 rfl rfl ?_
    refine j_iconst (pc := 35) dX12_withNow_35 ?_
    refine j_bipush (pc := 36) dX12_withNow_36 rfl ?_
    refine j_bipush (pc := 38) dX12_withNow_38 rfl ?_
    refine j_bipush (pc := 40) dX12_withNow_40 rfl ?_
    refine j_bipush (pc := 42) dX12_withNow_42 rfl ?_
    refine j_callV (pc := 44) (As := [vI 5, vI 108, vI 101, vI 100, vI 103]) (st := []) (c_X12_is hM 5 (by (first | decide | exact ⟨by omega, by omega⟩)) 108 (by (first | decide | exact ⟨by omega, by omega⟩)) 101 (by (first | decide | exact ⟨by omega, by omega⟩)) 100 (by (first | decide | exact ⟨by omega, by omega⟩)) 103 (by (first | decide | exact ⟨by omega, by omega⟩)) σ hI) mv_X12_107 rfl rfl rfl (a_88 hM) dX12_withNow_44 ⟨Nat.le_of_ble_eq_true rfl, Nat.le_of_ble_eq_true rfl⟩ ⟨Nat.le_refl _, Nat.le_refl _⟩ rfl (Nat.le_of_ble_eq_true rfl) rfl (fun z6 σ7 hz6 => ?_)
    obtain ⟨r9, rfl, hr9, rfl, q8_0⟩ := hz6
    replace q8_0 : (r9 = 1 ∧ σ 88 13 - σ 88 14 = (5 : Int) ∧ fM σ (σ 88 14) = (108 : Int) ∧ fM σ (σ 88 14 + 1) = (101 : Int) ∧ ((5 : Int) < 3 ∨ fM σ (σ 88 14 + 2) = (100 : Int)) ∧ ((5 : Int) < 4 ∨ fM σ (σ 88 14 + 3) = (103 : Int))) ∨ (r9 = 0 ∧ ¬ (σ 88 13 - σ 88 14 = (5 : Int) ∧ fM σ (σ 88 14) = (108 : Int) ∧ fM σ (σ 88 14 + 1) = (101 : Int) ∧ ((5 : Int) < 3 ∨ fM σ (σ 88 14 + 2) = (100 : Int)) ∧ ((5 : Int) < 4 ∨ fM σ (σ 88 14 + 3) = (103 : Int)))) := q8_0
    refine j_st (st' := [vI r9]) rfl ?_
    refine j_ifR_eq (pc := 47) (tgt := 68) ⟨by omega, by omega⟩ dX12_withNow_47 rfl (fun h10 => ?_) (fun h10 => ?_)
    · have z11 : ¬ nm (fM σ) (σ 88 14) (σ 88 13) 11 = 1 := by (have e := nmE_11 (fM σ) (σ 88 14) (σ 88 13)); omega
      clear q8_0
      refine j_aload_n (pc := 68) dX12_withNow_68 rfl rfl ?_
      refine j_iconst (pc := 69) dX12_withNow_69 ?_
      refine j_bipush (pc := 70) dX12_withNow_70 rfl ?_
      refine j_bipush (pc := 72) dX12_withNow_72 rfl ?_
      refine j_bipush (pc := 74) dX12_withNow_74 rfl ?_
      refine j_bipush (pc := 76) dX12_withNow_76 rfl ?_
      refine j_callV (pc := 78) (As := [vI 4, vI 114, vI 101, vI 115, vI 116]) (st := []) (c_X12_is hM 4 (by (first | decide | exact ⟨by omega, by omega⟩)) 114 (by (first | decide | exact ⟨by omega, by omega⟩)) 101 (by (first | decide | exact ⟨by omega, by omega⟩)) 115 (by (first | decide | exact ⟨by omega, by omega⟩)) 116 (by (first | decide | exact ⟨by omega, by omega⟩)) σ hI) mv_X12_107 rfl rfl rfl (a_88 hM) dX12_withNow_78 ⟨Nat.le_of_ble_eq_true rfl, Nat.le_of_ble_eq_true rfl⟩ ⟨Nat.le_refl _, Nat.le_refl _⟩ rfl (Nat.le_of_ble_eq_true rfl) rfl (fun z11 σ12 hz11 => ?_)
      obtain ⟨r14, rfl, hr14, rfl, q13_0⟩ := hz11
      replace q13_0 : (r14 = 1 ∧ σ 88 13 - σ 88 14 = (4 : Int) ∧ fM σ (σ 88 14) = (114 : Int) ∧ fM σ (σ 88 14 + 1) = (101 : Int) ∧ ((4 : Int) < 3 ∨ fM σ (σ 88 14 + 2) = (115 : Int)) ∧ ((4 : Int) < 4 ∨ fM σ (σ 88 14 + 3) = (116 : Int))) ∨ (r14 = 0 ∧ ¬ (σ 88 13 - σ 88 14 = (4 : Int) ∧ fM σ (σ 88 14) = (114 : Int) ∧ fM σ (σ 88 14 + 1) = (101 : Int) ∧ ((4 : Int) < 3 ∨ fM σ (σ 88 14 + 2) = (115 : Int)) ∧ ((4 : Int) < 4 ∨ fM σ (σ 88 14 + 3) = (116 : Int)))) := q13_0
      refine j_st (st' := [vI r14]) rfl ?_
      refine j_ifR_eq (pc := 81) (tgt := 89) ⟨by omega, by omega⟩ dX12_withNow_81 rfl (fun h15 => ?_) (fun h15 => ?_)
      · have z12 : ¬ nm (fM σ) (σ 88 14) (σ 88 13) 12 = 1 := by (have e := nmE_12 (fM σ) (σ 88 14) (σ 88 13)); omega
        clear q13_0
        refine j_aload_n (pc := 89) dX12_withNow_89 rfl rfl ?_
        refine j_iconst (pc := 90) dX12_withNow_90 ?_
        refine j_bipush (pc := 91) dX12_withNow_91 rfl ?_
        refine j_bipush (pc := 93) dX12_withNow_93 rfl ?_
        refine j_bipush (pc := 95) dX12_withNow_95 rfl ?_
        refine j_bipush (pc := 97) dX12_withNow_97 rfl ?_
        refine j_callV (pc := 99) (As := [vI 4, vI 115, vI 105, vI 100, vI 101]) (st := []) (c_X12_is hM 4 (by (first | decide | exact ⟨by omega, by omega⟩)) 115 (by (first | decide | exact ⟨by omega, by omega⟩)) 105 (by (first | decide | exact ⟨by omega, by omega⟩)) 100 (by (first | decide | exact ⟨by omega, by omega⟩)) 101 (by (first | decide | exact ⟨by omega, by omega⟩)) σ hI) mv_X12_107 rfl rfl rfl (a_88 hM) dX12_withNow_99 ⟨Nat.le_of_ble_eq_true rfl, Nat.le_of_ble_eq_true rfl⟩ ⟨Nat.le_refl _, Nat.le_refl _⟩ rfl (Nat.le_of_ble_eq_true rfl) rfl (fun z16 σ17 hz16 => ?_)
        obtain ⟨r19, rfl, hr19, rfl, q18_0⟩ := hz16
        replace q18_0 : (r19 = 1 ∧ σ 88 13 - σ 88 14 = (4 : Int) ∧ fM σ (σ 88 14) = (115 : Int) ∧ fM σ (σ 88 14 + 1) = (105 : Int) ∧ ((4 : Int) < 3 ∨ fM σ (σ 88 14 + 2) = (100 : Int)) ∧ ((4 : Int) < 4 ∨ fM σ (σ 88 14 + 3) = (101 : Int))) ∨ (r19 = 0 ∧ ¬ (σ 88 13 - σ 88 14 = (4 : Int) ∧ fM σ (σ 88 14) = (115 : Int) ∧ fM σ (σ 88 14 + 1) = (105 : Int) ∧ ((4 : Int) < 3 ∨ fM σ (σ 88 14 + 2) = (100 : Int)) ∧ ((4 : Int) < 4 ∨ fM σ (σ 88 14 + 3) = (101 : Int)))) := q18_0
        refine j_st (st' := [vI r19]) rfl ?_
        refine j_ifR_eq (pc := 102) (tgt := 110) ⟨by omega, by omega⟩ dX12_withNow_102 rfl (fun h20 => ?_) (fun h20 => ?_)
        · have z13 : ¬ nm (fM σ) (σ 88 14) (σ 88 13) 13 = 1 := by (have e := nmE_13 (fM σ) (σ 88 14) (σ 88 13)); omega
          clear q18_0
          have zl : wnm (fM σ) 1 (σ 88 14) (σ 88 13) = -1 := by unfold wnm; rw [if_neg (by decide)]; repeat (first | rw [if_pos (by omega)] | rw [if_neg (by omega)])
          refine j_bipush (pc := 110) dX12_withNow_110 rfl ?_
          exact j_iret (pc := 112) ⟨rfl, rfl⟩ dX12_withNow_112 rfl ⟨_, rfl, ⟨by omega, by omega⟩, rfl, by omega, by omega⟩
        · have z13 : nm (fM σ) (σ 88 14) (σ 88 13) 13 = 1 := by (have e := nmE_13 (fM σ) (σ 88 14) (σ 88 13)); omega
          clear q18_0
          have zl : wnm (fM σ) 1 (σ 88 14) (σ 88 13) = 3 := by unfold wnm; rw [if_neg (by decide)]; repeat (first | rw [if_pos (by omega)] | rw [if_neg (by omega)])
          refine j_bipush (pc := 105) dX12_withNow_105 rfl ?_
          refine j_goto (pc := 107) (tgt := 112) dX12_withNow_107 rfl ?_
          exact j_iret (pc := 112) ⟨rfl, rfl⟩ dX12_withNow_112 rfl ⟨_, rfl, ⟨by omega, by omega⟩, rfl, by omega, by omega⟩
      · have z12 : nm (fM σ) (σ 88 14) (σ 88 13) 12 = 1 := by (have e := nmE_12 (fM σ) (σ 88 14) (σ 88 13)); omega
        clear q13_0
        have zl : wnm (fM σ) 1 (σ 88 14) (σ 88 13) = 2 := by unfold wnm; rw [if_neg (by decide)]; repeat (first | rw [if_pos (by omega)] | rw [if_neg (by omega)])
        refine j_bipush (pc := 84) dX12_withNow_84 rfl ?_
        refine j_goto (pc := 86) (tgt := 112) dX12_withNow_86 rfl ?_
        exact j_iret (pc := 112) ⟨rfl, rfl⟩ dX12_withNow_112 rfl ⟨_, rfl, ⟨by omega, by omega⟩, rfl, by omega, by omega⟩
    · refine j_aload_n (pc := 50) dX12_withNow_50 rfl rfl ?_
      refine j_aload_n (pc := 51) dX12_withNow_51 rfl rfl ?_
      refine j_getI (pc := 52) fl_X12_94 dX12_withNow_52 (a_88 hM) rfl ?_
      have f21 : (0 : Int) ≤ σ 88 14 ∧ σ 88 14 ≤ 400 := hI 88 14
      refine j_iconst (pc := 55) dX12_withNow_55 ?_
      refine j_iadd (pc := 56) dX12_withNow_56 ?_
      refine j_callV (pc := 57) (As := [vI ((σ 88 14) + 4)]) (st := []) (c_X12_look hM ((σ 88 14) + 4) ⟨by omega, by omega⟩ σ hI) mv_X12_103 rfl rfl rfl (a_88 hM) dX12_withNow_57 ⟨Nat.le_of_ble_eq_true rfl, Nat.le_of_ble_eq_true rfl⟩ ⟨Nat.le_refl _, Nat.le_refl _⟩ rfl (Nat.le_of_ble_eq_true rfl) rfl (fun z22 σ23 hz22 => ?_)
      obtain ⟨r25, rfl, hr25, rfl, q24_0, q24_1⟩ := hz22
      replace q24_0 : (((σ 88 14) + 4) < σ 88 12 ∧ r25 = σ 98 ((σ 88 14) + 4).toNat) ∨ (¬ ((σ 88 14) + 4) < σ 88 12 ∧ r25 = -1) := q24_0
      replace q24_1 : r25 = fM σ ((σ 88 14) + 4) := q24_1
      refine j_st (st' := [vI r25]) rfl ?_
      refine j_bipush (pc := 60) dX12_withNow_60 rfl ?_
      refine j_icmpR_ne (pc := 62) (tgt := 68) ⟨by omega, by omega⟩ ⟨by omega, by omega⟩ dX12_withNow_62 rfl (fun h26 => ?_) (fun h26 => ?_)
      · have z11 : ¬ nm (fM σ) (σ 88 14) (σ 88 13) 11 = 1 := by (have e := nmE_11 (fM σ) (σ 88 14) (σ 88 13)); omega
        clear q8_0 q24_0 q24_1
        refine j_aload_n (pc := 68) dX12_withNow_68 rfl rfl ?_
        refine j_iconst (pc := 69) dX12_withNow_69 ?_
        refine j_bipush (pc := 70) dX12_withNow_70 rfl ?_
        refine j_bipush (pc := 72) dX12_withNow_72 rfl ?_
        refine j_bipush (pc := 74) dX12_withNow_74 rfl ?_
        refine j_bipush (pc := 76) dX12_withNow_76 rfl ?_
        refine j_callV (pc := 78) (As := [vI 4, vI 114, vI 101, vI 115, vI 116]) (st := []) (c_X12_is hM 4 (by (first | decide | exact ⟨by omega, by omega⟩)) 114 (by (first | decide | exact ⟨by omega, by omega⟩)) 101 (by (first | decide | exact ⟨by omega, by omega⟩)) 115 (by (first | decide | exact ⟨by omega, by omega⟩)) 116 (by (first | decide | exact ⟨by omega, by omega⟩)) σ hI) mv_X12_107 rfl rfl rfl (a_88 hM) dX12_withNow_78 ⟨Nat.le_of_ble_eq_true rfl, Nat.le_of_ble_eq_true rfl⟩ ⟨Nat.le_refl _, Nat.le_refl _⟩ rfl (Nat.le_of_ble_eq_true rfl) rfl (fun z27 σ28 hz27 => ?_)
        obtain ⟨r30, rfl, hr30, rfl, q29_0⟩ := hz27
        replace q29_0 : (r30 = 1 ∧ σ 88 13 - σ 88 14 = (4 : Int) ∧ fM σ (σ 88 14) = (114 : Int) ∧ fM σ (σ 88 14 + 1) = (101 : Int) ∧ ((4 : Int) < 3 ∨ fM σ (σ 88 14 + 2) = (115 : Int)) ∧ ((4 : Int) < 4 ∨ fM σ (σ 88 14 + 3) = (116 : Int))) ∨ (r30 = 0 ∧ ¬ (σ 88 13 - σ 88 14 = (4 : Int) ∧ fM σ (σ 88 14) = (114 : Int) ∧ fM σ (σ 88 14 + 1) = (101 : Int) ∧ ((4 : Int) < 3 ∨ fM σ (σ 88 14 + 2) = (115 : Int)) ∧ ((4 : Int) < 4 ∨ fM σ (σ 88 14 + 3) = (116 : Int)))) := q29_0
        refine j_st (st' := [vI r30]) rfl ?_
        refine j_ifR_eq (pc := 81) (tgt := 89) ⟨by omega, by omega⟩ dX12_withNow_81 rfl (fun h31 => ?_) (fun h31 => ?_)
        · have z12 : ¬ nm (fM σ) (σ 88 14) (σ 88 13) 12 = 1 := by (have e := nmE_12 (fM σ) (σ 88 14) (σ 88 13)); omega
          clear q29_0
          refine j_aload_n (pc := 89) dX12_withNow_89 rfl rfl ?_
          refine j_iconst (pc := 90) dX12_withNow_90 ?_
          refine j_bipush (pc := 91) dX12_withNow_91 rfl ?_
          refine j_bipush (pc := 93) dX12_withNow_93 rfl ?_
          refine j_bipush (pc := 95) dX12_withNow_95 rfl ?_
          refine j_bipush (pc := 97) dX12_withNow_97 rfl ?_
          refine j_callV (pc := 99) (As := [vI 4, vI 115, vI 105, vI 100, vI 101]) (st := []) (c_X12_is hM 4 (by (first | decide | exact ⟨by omega, by omega⟩)) 115 (by (first | decide | exact ⟨by omega, by omega⟩)) 105 (by (first | decide | exact ⟨by omega, by omega⟩)) 100 (by (first | decide | exact ⟨by omega, by omega⟩)) 101 (by (first | decide | exact ⟨by omega, by omega⟩)) σ hI) mv_X12_107 rfl rfl rfl (a_88 hM) dX12_withNow_99 ⟨Nat.le_of_ble_eq_true rfl, Nat.le_of_ble_eq_true rfl⟩ ⟨Nat.le_refl _, Nat.le_refl _⟩ rfl (Nat.le_of_ble_eq_true rfl) rfl (fun z32 σ33 hz32 => ?_)
          obtain ⟨r35, rfl, hr35, rfl, q34_0⟩ := hz32
          replace q34_0 : (r35 = 1 ∧ σ 88 13 - σ 88 14 = (4 : Int) ∧ fM σ (σ 88 14) = (115 : Int) ∧ fM σ (σ 88 14 + 1) = (105 : Int) ∧ ((4 : Int) < 3 ∨ fM σ (σ 88 14 + 2) = (100 : Int)) ∧ ((4 : Int) < 4 ∨ fM σ (σ 88 14 + 3) = (101 : Int))) ∨ (r35 = 0 ∧ ¬ (σ 88 13 - σ 88 14 = (4 : Int) ∧ fM σ (σ 88 14) = (115 : Int) ∧ fM σ (σ 88 14 + 1) = (105 : Int) ∧ ((4 : Int) < 3 ∨ fM σ (σ 88 14 + 2) = (100 : Int)) ∧ ((4 : Int) < 4 ∨ fM σ (σ 88 14 + 3) = (101 : Int)))) := q34_0
          refine j_st (st' := [vI r35]) rfl ?_
          refine j_ifR_eq (pc := 102) (tgt := 110) ⟨by omega, by omega⟩ dX12_withNow_102 rfl (fun h36 => ?_) (fun h36 => ?_)
          · have z13 : ¬ nm (fM σ) (σ 88 14) (σ 88 13) 13 = 1 := by (have e := nmE_13 (fM σ) (σ 88 14) (σ 88 13)); omega
            clear q34_0
            have zl : wnm (fM σ) 1 (σ 88 14) (σ 88 13) = -1 := by unfold wnm; rw [if_neg (by decide)]; repeat (first | rw [if_pos (by omega)] | rw [if_neg (by omega)])
            refine j_bipush (pc := 110) dX12_withNow_110 rfl ?_
            exact j_iret (pc := 112) ⟨rfl, rfl⟩ dX12_withNow_112 rfl ⟨_, rfl, ⟨by omega, by omega⟩, rfl, by omega, by omega⟩
          · have z13 : nm (fM σ) (σ 88 14) (σ 88 13) 13 = 1 := by (have e := nmE_13 (fM σ) (σ 88 14) (σ 88 13)); omega
            clear q34_0
            have zl : wnm (fM σ) 1 (σ 88 14) (σ 88 13) = 3 := by unfold wnm; rw [if_neg (by decide)]; repeat (first | rw [if_pos (by omega)] | rw [if_neg (by omega)])
            refine j_bipush (pc := 105) dX12_withNow_105 rfl ?_
            refine j_goto (pc := 107) (tgt := 112) dX12_withNow_107 rfl ?_
            exact j_iret (pc := 112) ⟨rfl, rfl⟩ dX12_withNow_112 rfl ⟨_, rfl, ⟨by omega, by omega⟩, rfl, by omega, by omega⟩
        · have z12 : nm (fM σ) (σ 88 14) (σ 88 13) 12 = 1 := by (have e := nmE_12 (fM σ) (σ 88 14) (σ 88 13)); omega
          clear q29_0
          have zl : wnm (fM σ) 1 (σ 88 14) (σ 88 13) = 2 := by unfold wnm; rw [if_neg (by decide)]; repeat (first | rw [if_pos (by omega)] | rw [if_neg (by omega)])
          refine j_bipush (pc := 84) dX12_withNow_84 rfl ?_
          refine j_goto (pc := 86) (tgt := 112) dX12_withNow_86 rfl ?_
          exact j_iret (pc := 112) ⟨rfl, rfl⟩ dX12_withNow_112 rfl ⟨_, rfl, ⟨by omega, by omega⟩, rfl, by omega, by omega⟩
      · have z11 : nm (fM σ) (σ 88 14) (σ 88 13) 11 = 1 := by (have e := nmE_11 (fM σ) (σ 88 14) (σ 88 13)); omega
        clear q8_0 q24_0 q24_1
        have zl : wnm (fM σ) 1 (σ 88 14) (σ 88 13) = 1 := by unfold wnm; rw [if_neg (by decide)]; repeat (first | rw [if_pos (by omega)] | rw [if_neg (by omega)])
        refine j_bipush (pc := 65) dX12_withNow_65 rfl ?_
        exact j_iret (pc := 67) ⟨rfl, rfl⟩ dX12_withNow_67 rfl ⟨_, rfl, ⟨by omega, by omega⟩, rfl, by omega, by omega⟩
  · refine j_aload_n (pc := 16) dX12_withNow_16 rfl rfl ?_
    refine j_aload_n (pc := 17) dX12_withNow_17 rfl rfl ?_
    refine j_getI (pc := 18) fl_X12_94 dX12_withNow_18 (a_88 hM) rfl ?_
    have f37 : (0 : Int) ≤ σ 88 14 ∧ σ 88 14 ≤ 400 := hI 88 14
    refine j_iconst (pc := 21) dX12_withNow_21 ?_
    refine j_iadd (pc := 22) dX12_withNow_22 ?_
    refine j_callV (pc := 23) (As := [vI ((σ 88 14) + 4)]) (st := []) (c_X12_look hM ((σ 88 14) + 4) ⟨by omega, by omega⟩ σ hI) mv_X12_103 rfl rfl rfl (a_88 hM) dX12_withNow_23 ⟨Nat.le_of_ble_eq_true rfl, Nat.le_of_ble_eq_true rfl⟩ ⟨Nat.le_refl _, Nat.le_refl _⟩ rfl (Nat.le_of_ble_eq_true rfl) rfl (fun z38 σ39 hz38 => ?_)
    obtain ⟨r41, rfl, hr41, rfl, q40_0, q40_1⟩ := hz38
    replace q40_0 : (((σ 88 14) + 4) < σ 88 12 ∧ r41 = σ 98 ((σ 88 14) + 4).toNat) ∨ (¬ ((σ 88 14) + 4) < σ 88 12 ∧ r41 = -1) := q40_0
    replace q40_1 : r41 = fM σ ((σ 88 14) + 4) := q40_1
    refine j_st (st' := [vI r41]) rfl ?_
    refine j_bipush (pc := 26) dX12_withNow_26 rfl ?_
    refine j_icmpR_ne (pc := 28) (tgt := 34) ⟨by omega, by omega⟩ ⟨by omega, by omega⟩ dX12_withNow_28 rfl (fun h42 => ?_) (fun h42 => ?_)
    · have z10 : ¬ nm (fM σ) (σ 88 14) (σ 88 13) 10 = 1 := by (have e := nmE_10 (fM σ) (σ 88 14) (σ 88 13)); omega
      clear q3_0 q40_0 q40_1
      refine j_aload_n (pc := 34) dX12_withNow_34 rfl rfl ?_
      refine j_iconst (pc := 35) dX12_withNow_35 ?_
      refine j_bipush (pc := 36) dX12_withNow_36 rfl ?_
      refine j_bipush (pc := 38) dX12_withNow_38 rfl ?_
      refine j_bipush (pc := 40) dX12_withNow_40 rfl ?_
      refine j_bipush (pc := 42) dX12_withNow_42 rfl ?_
      refine j_callV (pc := 44) (As := [vI 5, vI 108, vI 101, vI 100, vI 103]) (st := []) (c_X12_is hM 5 (by (first | decide | exact ⟨by omega, by omega⟩)) 108 (by (first | decide | exact ⟨by omega, by omega⟩)) 101 (by (first | decide | exact ⟨by omega, by omega⟩)) 100 (by (first | decide | exact ⟨by omega, by omega⟩)) 103 (by (first | decide | exact ⟨by omega, by omega⟩)) σ hI) mv_X12_107 rfl rfl rfl (a_88 hM) dX12_withNow_44 ⟨Nat.le_of_ble_eq_true rfl, Nat.le_of_ble_eq_true rfl⟩ ⟨Nat.le_refl _, Nat.le_refl _⟩ rfl (Nat.le_of_ble_eq_true rfl) rfl (fun z43 σ44 hz43 => ?_)
      obtain ⟨r46, rfl, hr46, rfl, q45_0⟩ := hz43
      replace q45_0 : (r46 = 1 ∧ σ 88 13 - σ 88 14 = (5 : Int) ∧ fM σ (σ 88 14) = (108 : Int) ∧ fM σ (σ 88 14 + 1) = (101 : Int) ∧ ((5 : Int) < 3 ∨ fM σ (σ 88 14 + 2) = (100 : Int)) ∧ ((5 : Int) < 4 ∨ fM σ (σ 88 14 + 3) = (103 : Int))) ∨ (r46 = 0 ∧ ¬ (σ 88 13 - σ 88 14 = (5 : Int) ∧ fM σ (σ 88 14) = (108 : Int) ∧ fM σ (σ 88 14 + 1) = (101 : Int) ∧ ((5 : Int) < 3 ∨ fM σ (σ 88 14 + 2) = (100 : Int)) ∧ ((5 : Int) < 4 ∨ fM σ (σ 88 14 + 3) = (103 : Int)))) := q45_0
      refine j_st (st' := [vI r46]) rfl ?_
      refine j_ifR_eq (pc := 47) (tgt := 68) ⟨by omega, by omega⟩ dX12_withNow_47 rfl (fun h47 => ?_) (fun h47 => ?_)
      · have z11 : ¬ nm (fM σ) (σ 88 14) (σ 88 13) 11 = 1 := by (have e := nmE_11 (fM σ) (σ 88 14) (σ 88 13)); omega
        clear q45_0
        refine j_aload_n (pc := 68) dX12_withNow_68 rfl rfl ?_
        refine j_iconst (pc := 69) dX12_withNow_69 ?_
        refine j_bipush (pc := 70) dX12_withNow_70 rfl ?_
        refine j_bipush (pc := 72) dX12_withNow_72 rfl ?_
        refine j_bipush (pc := 74) dX12_withNow_74 rfl ?_
        refine j_bipush (pc := 76) dX12_withNow_76 rfl ?_
        refine j_callV (pc := 78) (As := [vI 4, vI 114, vI 101, vI 115, vI 116]) (st := []) (c_X12_is hM 4 (by (first | decide | exact ⟨by omega, by omega⟩)) 114 (by (first | decide | exact ⟨by omega, by omega⟩)) 101 (by (first | decide | exact ⟨by omega, by omega⟩)) 115 (by (first | decide | exact ⟨by omega, by omega⟩)) 116 (by (first | decide | exact ⟨by omega, by omega⟩)) σ hI) mv_X12_107 rfl rfl rfl (a_88 hM) dX12_withNow_78 ⟨Nat.le_of_ble_eq_true rfl, Nat.le_of_ble_eq_true rfl⟩ ⟨Nat.le_refl _, Nat.le_refl _⟩ rfl (Nat.le_of_ble_eq_true rfl) rfl (fun z48 σ49 hz48 => ?_)
        obtain ⟨r51, rfl, hr51, rfl, q50_0⟩ := hz48
        replace q50_0 : (r51 = 1 ∧ σ 88 13 - σ 88 14 = (4 : Int) ∧ fM σ (σ 88 14) = (114 : Int) ∧ fM σ (σ 88 14 + 1) = (101 : Int) ∧ ((4 : Int) < 3 ∨ fM σ (σ 88 14 + 2) = (115 : Int)) ∧ ((4 : Int) < 4 ∨ fM σ (σ 88 14 + 3) = (116 : Int))) ∨ (r51 = 0 ∧ ¬ (σ 88 13 - σ 88 14 = (4 : Int) ∧ fM σ (σ 88 14) = (114 : Int) ∧ fM σ (σ 88 14 + 1) = (101 : Int) ∧ ((4 : Int) < 3 ∨ fM σ (σ 88 14 + 2) = (115 : Int)) ∧ ((4 : Int) < 4 ∨ fM σ (σ 88 14 + 3) = (116 : Int)))) := q50_0
        refine j_st (st' := [vI r51]) rfl ?_
        refine j_ifR_eq (pc := 81) (tgt := 89) ⟨by omega, by omega⟩ dX12_withNow_81 rfl (fun h52 => ?_) (fun h52 => ?_)
        · have z12 : ¬ nm (fM σ) (σ 88 14) (σ 88 13) 12 = 1 := by (have e := nmE_12 (fM σ) (σ 88 14) (σ 88 13)); omega
          clear q50_0
          refine j_aload_n (pc := 89) dX12_withNow_89 rfl rfl ?_
          refine j_iconst (pc := 90) dX12_withNow_90 ?_
          refine j_bipush (pc := 91) dX12_withNow_91 rfl ?_
          refine j_bipush (pc := 93) dX12_withNow_93 rfl ?_
          refine j_bipush (pc := 95) dX12_withNow_95 rfl ?_
          refine j_bipush (pc := 97) dX12_withNow_97 rfl ?_
          refine j_callV (pc := 99) (As := [vI 4, vI 115, vI 105, vI 100, vI 101]) (st := []) (c_X12_is hM 4 (by (first | decide | exact ⟨by omega, by omega⟩)) 115 (by (first | decide | exact ⟨by omega, by omega⟩)) 105 (by (first | decide | exact ⟨by omega, by omega⟩)) 100 (by (first | decide | exact ⟨by omega, by omega⟩)) 101 (by (first | decide | exact ⟨by omega, by omega⟩)) σ hI) mv_X12_107 rfl rfl rfl (a_88 hM) dX12_withNow_99 ⟨Nat.le_of_ble_eq_true rfl, Nat.le_of_ble_eq_true rfl⟩ ⟨Nat.le_refl _, Nat.le_refl _⟩ rfl (Nat.le_of_ble_eq_true rfl) rfl (fun z53 σ54 hz53 => ?_)
          obtain ⟨r56, rfl, hr56, rfl, q55_0⟩ := hz53
          replace q55_0 : (r56 = 1 ∧ σ 88 13 - σ 88 14 = (4 : Int) ∧ fM σ (σ 88 14) = (115 : Int) ∧ fM σ (σ 88 14 + 1) = (105 : Int) ∧ ((4 : Int) < 3 ∨ fM σ (σ 88 14 + 2) = (100 : Int)) ∧ ((4 : Int) < 4 ∨ fM σ (σ 88 14 + 3) = (101 : Int))) ∨ (r56 = 0 ∧ ¬ (σ 88 13 - σ 88 14 = (4 : Int) ∧ fM σ (σ 88 14) = (115 : Int) ∧ fM σ (σ 88 14 + 1) = (105 : Int) ∧ ((4 : Int) < 3 ∨ fM σ (σ 88 14 + 2) = (100 : Int)) ∧ ((4 : Int) < 4 ∨ fM σ (σ 88 14 + 3) = (101 : Int)))) := q55_0
          refine j_st (st' := [vI r56]) rfl ?_
          refine j_ifR_eq (pc := 102) (tgt := 110) ⟨by omega, by omega⟩ dX12_withNow_102 rfl (fun h57 => ?_) (fun h57 => ?_)
          · have z13 : ¬ nm (fM σ) (σ 88 14) (σ 88 13) 13 = 1 := by (have e := nmE_13 (fM σ) (σ 88 14) (σ 88 13)); omega
            clear q55_0
            have zl : wnm (fM σ) 1 (σ 88 14) (σ 88 13) = -1 := by unfold wnm; rw [if_neg (by decide)]; repeat (first | rw [if_pos (by omega)] | rw [if_neg (by omega)])
            refine j_bipush (pc := 110) dX12_withNow_110 rfl ?_
            exact j_iret (pc := 112) ⟨rfl, rfl⟩ dX12_withNow_112 rfl ⟨_, rfl, ⟨by omega, by omega⟩, rfl, by omega, by omega⟩
          · have z13 : nm (fM σ) (σ 88 14) (σ 88 13) 13 = 1 := by (have e := nmE_13 (fM σ) (σ 88 14) (σ 88 13)); omega
            clear q55_0
            have zl : wnm (fM σ) 1 (σ 88 14) (σ 88 13) = 3 := by unfold wnm; rw [if_neg (by decide)]; repeat (first | rw [if_pos (by omega)] | rw [if_neg (by omega)])
            refine j_bipush (pc := 105) dX12_withNow_105 rfl ?_
            refine j_goto (pc := 107) (tgt := 112) dX12_withNow_107 rfl ?_
            exact j_iret (pc := 112) ⟨rfl, rfl⟩ dX12_withNow_112 rfl ⟨_, rfl, ⟨by omega, by omega⟩, rfl, by omega, by omega⟩
        · have z12 : nm (fM σ) (σ 88 14) (σ 88 13) 12 = 1 := by (have e := nmE_12 (fM σ) (σ 88 14) (σ 88 13)); omega
          clear q50_0
          have zl : wnm (fM σ) 1 (σ 88 14) (σ 88 13) = 2 := by unfold wnm; rw [if_neg (by decide)]; repeat (first | rw [if_pos (by omega)] | rw [if_neg (by omega)])
          refine j_bipush (pc := 84) dX12_withNow_84 rfl ?_
          refine j_goto (pc := 86) (tgt := 112) dX12_withNow_86 rfl ?_
          exact j_iret (pc := 112) ⟨rfl, rfl⟩ dX12_withNow_112 rfl ⟨_, rfl, ⟨by omega, by omega⟩, rfl, by omega, by omega⟩
      · refine j_aload_n (pc := 50) dX12_withNow_50 rfl rfl ?_
        refine j_aload_n (pc := 51) dX12_withNow_51 rfl rfl ?_
        refine j_getI (pc := 52) fl_X12_94 dX12_withNow_52 (a_88 hM) rfl ?_
        refine j_iconst (pc := 55) dX12_withNow_55 ?_
        refine j_iadd (pc := 56) dX12_withNow_56 ?_
        refine j_callV (pc := 57) (As := [vI ((σ 88 14) + 4)]) (st := []) (c_X12_look hM ((σ 88 14) + 4) ⟨by omega, by omega⟩ σ hI) mv_X12_103 rfl rfl rfl (a_88 hM) dX12_withNow_57 ⟨Nat.le_of_ble_eq_true rfl, Nat.le_of_ble_eq_true rfl⟩ ⟨Nat.le_refl _, Nat.le_refl _⟩ rfl (Nat.le_of_ble_eq_true rfl) rfl (fun z58 σ59 hz58 => ?_)
        obtain ⟨r61, rfl, hr61, rfl, q60_0, q60_1⟩ := hz58
        replace q60_0 : (((σ 88 14) + 4) < σ 88 12 ∧ r61 = σ 98 ((σ 88 14) + 4).toNat) ∨ (¬ ((σ 88 14) + 4) < σ 88 12 ∧ r61 = -1) := q60_0
        replace q60_1 : r61 = fM σ ((σ 88 14) + 4) := q60_1
        refine j_st (st' := [vI r61]) rfl ?_
        refine j_bipush (pc := 60) dX12_withNow_60 rfl ?_
        refine j_icmpR_ne (pc := 62) (tgt := 68) ⟨by omega, by omega⟩ ⟨by omega, by omega⟩ dX12_withNow_62 rfl (fun h62 => ?_) (fun h62 => ?_)
        · have z11 : ¬ nm (fM σ) (σ 88 14) (σ 88 13) 11 = 1 := by (have e := nmE_11 (fM σ) (σ 88 14) (σ 88 13)); omega
          clear q45_0 q60_0 q60_1
          refine j_aload_n (pc := 68) dX12_withNow_68 rfl rfl ?_
          refine j_iconst (pc := 69) dX12_withNow_69 ?_
          refine j_bipush (pc := 70) dX12_withNow_70 rfl ?_
          refine j_bipush (pc := 72) dX12_withNow_72 rfl ?_
          refine j_bipush (pc := 74) dX12_withNow_74 rfl ?_
          refine j_bipush (pc := 76) dX12_withNow_76 rfl ?_
          refine j_callV (pc := 78) (As := [vI 4, vI 114, vI 101, vI 115, vI 116]) (st := []) (c_X12_is hM 4 (by (first | decide | exact ⟨by omega, by omega⟩)) 114 (by (first | decide | exact ⟨by omega, by omega⟩)) 101 (by (first | decide | exact ⟨by omega, by omega⟩)) 115 (by (first | decide | exact ⟨by omega, by omega⟩)) 116 (by (first | decide | exact ⟨by omega, by omega⟩)) σ hI) mv_X12_107 rfl rfl rfl (a_88 hM) dX12_withNow_78 ⟨Nat.le_of_ble_eq_true rfl, Nat.le_of_ble_eq_true rfl⟩ ⟨Nat.le_refl _, Nat.le_refl _⟩ rfl (Nat.le_of_ble_eq_true rfl) rfl (fun z63 σ64 hz63 => ?_)
          obtain ⟨r66, rfl, hr66, rfl, q65_0⟩ := hz63
          replace q65_0 : (r66 = 1 ∧ σ 88 13 - σ 88 14 = (4 : Int) ∧ fM σ (σ 88 14) = (114 : Int) ∧ fM σ (σ 88 14 + 1) = (101 : Int) ∧ ((4 : Int) < 3 ∨ fM σ (σ 88 14 + 2) = (115 : Int)) ∧ ((4 : Int) < 4 ∨ fM σ (σ 88 14 + 3) = (116 : Int))) ∨ (r66 = 0 ∧ ¬ (σ 88 13 - σ 88 14 = (4 : Int) ∧ fM σ (σ 88 14) = (114 : Int) ∧ fM σ (σ 88 14 + 1) = (101 : Int) ∧ ((4 : Int) < 3 ∨ fM σ (σ 88 14 + 2) = (115 : Int)) ∧ ((4 : Int) < 4 ∨ fM σ (σ 88 14 + 3) = (116 : Int)))) := q65_0
          refine j_st (st' := [vI r66]) rfl ?_
          refine j_ifR_eq (pc := 81) (tgt := 89) ⟨by omega, by omega⟩ dX12_withNow_81 rfl (fun h67 => ?_) (fun h67 => ?_)
          · have z12 : ¬ nm (fM σ) (σ 88 14) (σ 88 13) 12 = 1 := by (have e := nmE_12 (fM σ) (σ 88 14) (σ 88 13)); omega
            clear q65_0
            refine j_aload_n (pc := 89) dX12_withNow_89 rfl rfl ?_
            refine j_iconst (pc := 90) dX12_withNow_90 ?_
            refine j_bipush (pc := 91) dX12_withNow_91 rfl ?_
            refine j_bipush (pc := 93) dX12_withNow_93 rfl ?_
            refine j_bipush (pc := 95) dX12_withNow_95 rfl ?_
            refine j_bipush (pc := 97) dX12_withNow_97 rfl ?_
            refine j_callV (pc := 99) (As := [vI 4, vI 115, vI 105, vI 100, vI 101]) (st := []) (c_X12_is hM 4 (by (first | decide | exact ⟨by omega, by omega⟩)) 115 (by (first | decide | exact ⟨by omega, by omega⟩)) 105 (by (first | decide | exact ⟨by omega, by omega⟩)) 100 (by (first | decide | exact ⟨by omega, by omega⟩)) 101 (by (first | decide | exact ⟨by omega, by omega⟩)) σ hI) mv_X12_107 rfl rfl rfl (a_88 hM) dX12_withNow_99 ⟨Nat.le_of_ble_eq_true rfl, Nat.le_of_ble_eq_true rfl⟩ ⟨Nat.le_refl _, Nat.le_refl _⟩ rfl (Nat.le_of_ble_eq_true rfl) rfl (fun z68 σ69 hz68 => ?_)
            obtain ⟨r71, rfl, hr71, rfl, q70_0⟩ := hz68
            replace q70_0 : (r71 = 1 ∧ σ 88 13 - σ 88 14 = (4 : Int) ∧ fM σ (σ 88 14) = (115 : Int) ∧ fM σ (σ 88 14 + 1) = (105 : Int) ∧ ((4 : Int) < 3 ∨ fM σ (σ 88 14 + 2) = (100 : Int)) ∧ ((4 : Int) < 4 ∨ fM σ (σ 88 14 + 3) = (101 : Int))) ∨ (r71 = 0 ∧ ¬ (σ 88 13 - σ 88 14 = (4 : Int) ∧ fM σ (σ 88 14) = (115 : Int) ∧ fM σ (σ 88 14 + 1) = (105 : Int) ∧ ((4 : Int) < 3 ∨ fM σ (σ 88 14 + 2) = (100 : Int)) ∧ ((4 : Int) < 4 ∨ fM σ (σ 88 14 + 3) = (101 : Int)))) := q70_0
            refine j_st (st' := [vI r71]) rfl ?_
            refine j_ifR_eq (pc := 102) (tgt := 110) ⟨by omega, by omega⟩ dX12_withNow_102 rfl (fun h72 => ?_) (fun h72 => ?_)
            · have z13 : ¬ nm (fM σ) (σ 88 14) (σ 88 13) 13 = 1 := by (have e := nmE_13 (fM σ) (σ 88 14) (σ 88 13)); omega
              clear q70_0
              have zl : wnm (fM σ) 1 (σ 88 14) (σ 88 13) = -1 := by unfold wnm; rw [if_neg (by decide)]; repeat (first | rw [if_pos (by omega)] | rw [if_neg (by omega)])
              refine j_bipush (pc := 110) dX12_withNow_110 rfl ?_
              exact j_iret (pc := 112) ⟨rfl, rfl⟩ dX12_withNow_112 rfl ⟨_, rfl, ⟨by omega, by omega⟩, rfl, by omega, by omega⟩
            · have z13 : nm (fM σ) (σ 88 14) (σ 88 13) 13 = 1 := by (have e := nmE_13 (fM σ) (σ 88 14) (σ 88 13)); omega
              clear q70_0
              have zl : wnm (fM σ) 1 (σ 88 14) (σ 88 13) = 3 := by unfold wnm; rw [if_neg (by decide)]; repeat (first | rw [if_pos (by omega)] | rw [if_neg (by omega)])
              refine j_bipush (pc := 105) dX12_withNow_105 rfl ?_
              refine j_goto (pc := 107) (tgt := 112) dX12_withNow_107 rfl ?_
              exact j_iret (pc := 112) ⟨rfl, rfl⟩ dX12_withNow_112 rfl ⟨_, rfl, ⟨by omega, by omega⟩, rfl, by omega, by omega⟩
          · have z12 : nm (fM σ) (σ 88 14) (σ 88 13) 12 = 1 := by (have e := nmE_12 (fM σ) (σ 88 14) (σ 88 13)); omega
            clear q65_0
            have zl : wnm (fM σ) 1 (σ 88 14) (σ 88 13) = 2 := by unfold wnm; rw [if_neg (by decide)]; repeat (first | rw [if_pos (by omega)] | rw [if_neg (by omega)])
            refine j_bipush (pc := 84) dX12_withNow_84 rfl ?_
            refine j_goto (pc := 86) (tgt := 112) dX12_withNow_86 rfl ?_
            exact j_iret (pc := 112) ⟨rfl, rfl⟩ dX12_withNow_112 rfl ⟨_, rfl, ⟨by omega, by omega⟩, rfl, by omega, by omega⟩
        · have z11 : nm (fM σ) (σ 88 14) (σ 88 13) 11 = 1 := by (have e := nmE_11 (fM σ) (σ 88 14) (σ 88 13)); omega
          clear q45_0 q60_0 q60_1
          have zl : wnm (fM σ) 1 (σ 88 14) (σ 88 13) = 1 := by unfold wnm; rw [if_neg (by decide)]; repeat (first | rw [if_pos (by omega)] | rw [if_neg (by omega)])
          refine j_bipush (pc := 65) dX12_withNow_65 rfl ?_
          exact j_iret (pc := 67) ⟨rfl, rfl⟩ dX12_withNow_67 rfl ⟨_, rfl, ⟨by omega, by omega⟩, rfl, by omega, by omega⟩
    · have z10 : nm (fM σ) (σ 88 14) (σ 88 13) 10 = 1 := by (have e := nmE_10 (fM σ) (σ 88 14) (σ 88 13)); omega
      clear q3_0 q40_0 q40_1
      have zl : wnm (fM σ) 1 (σ 88 14) (σ 88 13) = 0 := by unfold wnm; rw [if_neg (by decide)]; repeat (first | rw [if_pos (by omega)] | rw [if_neg (by omega)])
      refine j_bipush (pc := 31) dX12_withNow_31 rfl ?_
      exact j_iret (pc := 33) ⟨rfl, rfl⟩ dX12_withNow_33 rfl ⟨_, rfl, ⟨by omega, by omega⟩, rfl, by omega, by omega⟩
