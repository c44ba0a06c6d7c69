/-! 35b.model -/
theorem dX12_readRack_0 : decode cX12_readRack 0 = .ok (.aload_n 0, 1) := by decide +kernel
theorem dX12_readRack_1 : decode cX12_readRack 1 = .ok (.iconst 1, 1) := by decide +kernel
theorem dX12_readRack_2 : decode cX12_readRack 2 = .ok (.bipush 10, 2) := by decide +kernel
theorem dX12_readRack_4 : decode cX12_readRack 4 = .ok (.invokevirtual 133, 3) := by decide +kernel
theorem dX12_readRack_7 : decode cX12_readRack 7 = .ok (.aload_n 0, 1) := by decide +kernel
theorem dX12_readRack_8 : decode cX12_readRack 8 = .ok (.getfield 91, 3) := by decide +kernel
theorem dX12_readRack_11 : decode cX12_readRack 11 = .ok (.ifCond .ne 10, 3) := by decide +kernel
theorem dX12_readRack_14 : decode cX12_readRack 14 = .ok (.aload_n 0, 1) := by decide +kernel
theorem dX12_readRack_15 : decode cX12_readRack 15 = .ok (.getfield 126, 3) := by decide +kernel
theorem dX12_readRack_18 : decode cX12_readRack 18 = .ok (.goto 4, 3) := by decide +kernel
theorem dX12_readRack_21 : decode cX12_readRack 21 = .ok (.iconst 0, 1) := by decide +kernel
theorem dX12_readRack_22 : decode cX12_readRack 22 = .ok (.istore_n 1, 1) := by decide +kernel
theorem dX12_readRack_23 : decode cX12_readRack 23 = .ok (.aload_n 0, 1) := by decide +kernel
theorem dX12_readRack_24 : decode cX12_readRack 24 = .ok (.getfield 91, 3) := by decide +kernel
theorem dX12_readRack_27 : decode cX12_readRack 27 = .ok (.ifCond .ne 29, 3) := by decide +kernel
theorem dX12_readRack_30 : decode cX12_readRack 30 = .ok (.aload_n 0, 1) := by decide +kernel
theorem dX12_readRack_31 : decode cX12_readRack 31 = .ok (.aload_n 0, 1) := by decide +kernel
theorem dX12_readRack_32 : decode cX12_readRack 32 = .ok (.getfield 35, 3) := by decide +kernel
theorem dX12_readRack_35 : decode cX12_readRack 35 = .ok (.iload_n 1, 1) := by decide +kernel
theorem dX12_readRack_36 : decode cX12_readRack 36 = .ok (.baload, 1) := by decide +kernel
theorem dX12_readRack_37 : decode cX12_readRack 37 = .ok (.ifCond .ne 7, 3) := by decide +kernel
theorem dX12_readRack_40 : decode cX12_readRack 40 = .ok (.iconst 1, 1) := by decide +kernel
theorem dX12_readRack_41 : decode cX12_readRack 41 = .ok (.goto 4, 3) := by decide +kernel
theorem dX12_readRack_44 : decode cX12_readRack 44 = .ok (.iconst 0, 1) := by decide +kernel
theorem dX12_readRack_45 : decode cX12_readRack 45 = .ok (.iconst 4, 1) := by decide +kernel
theorem dX12_readRack_46 : decode cX12_readRack 46 = .ok (.invokevirtual 129, 3) := by decide +kernel
theorem dX12_readRack_49 : decode cX12_readRack 49 = .ok (.aload_n 0, 1) := by decide +kernel
theorem dX12_readRack_50 : decode cX12_readRack 50 = .ok (.getfield 35, 3) := by decide +kernel
theorem dX12_readRack_53 : decode cX12_readRack 53 = .ok (.iload_n 1, 1) := by decide +kernel
theorem dX12_readRack_54 : decode cX12_readRack 54 = .ok (.iconst 1, 1) := by decide +kernel
theorem dX12_readRack_55 : decode cX12_readRack 55 = .ok (.bastore, 1) := by decide +kernel
theorem dX12_readRack_56 : decode cX12_readRack 56 = .ok (.aload_n 0, 1) := by decide +kernel
theorem dX12_readRack_57 : decode cX12_readRack 57 = .ok (.invokevirtual 137, 3) := by decide +kernel
theorem dX12_readRack_60 : decode cX12_readRack 60 = .ok (.aload_n 0, 1) := by decide +kernel
theorem dX12_readRack_61 : decode cX12_readRack 61 = .ok (.getfield 29, 3) := by decide +kernel
theorem dX12_readRack_64 : decode cX12_readRack 64 = .ok (.iload_n 1, 1) := by decide +kernel
theorem dX12_readRack_65 : decode cX12_readRack 65 = .ok (.aload_n 0, 1) := by decide +kernel
theorem dX12_readRack_66 : decode cX12_readRack 66 = .ok (.iconst 0, 1) := by decide +kernel
theorem dX12_readRack_67 : decode cX12_readRack 67 = .ok (.iconst 5, 1) := by decide +kernel
theorem dX12_readRack_68 : decode cX12_readRack 68 = .ok (.invokevirtual 140, 3) := by decide +kernel
theorem dX12_readRack_71 : decode cX12_readRack 71 = .ok (.iastore, 1) := by decide +kernel
theorem dX12_readRack_72 : decode cX12_readRack 72 = .ok (.return_, 1) := by decide +kernel
theorem dX12_lowest_0 : decode cX12_lowest 0 = .ok (.iload_n 1, 1) := by decide +kernel
theorem dX12_lowest_1 : decode cX12_lowest 1 = .ok (.ifCond .eq 13, 3) := by decide +kernel
theorem dX12_lowest_4 : decode cX12_lowest 4 = .ok (.iload_n 1, 1) := by decide +kernel
theorem dX12_lowest_5 : decode cX12_lowest 5 = .ok (.iconst 1, 1) := by decide +kernel
theorem dX12_lowest_6 : decode cX12_lowest 6 = .ok (.if_icmp .eq 8, 3) := by decide +kernel
theorem dX12_lowest_9 : decode cX12_lowest 9 = .ok (.iload_n 1, 1) := by decide +kernel
theorem dX12_lowest_10 : decode cX12_lowest 10 = .ok (.iconst 3, 1) := by decide +kernel
theorem dX12_lowest_11 : decode cX12_lowest 11 = .ok (.if_icmp .ne 7, 3) := by decide +kernel
theorem dX12_lowest_14 : decode cX12_lowest 14 = .ok (.iconst 1, 1) := by decide +kernel
theorem dX12_lowest_15 : decode cX12_lowest 15 = .ok (.goto 4, 3) := by decide +kernel
theorem dX12_lowest_18 : decode cX12_lowest 18 = .ok (.iconst 0, 1) := by decide +kernel
theorem dX12_lowest_19 : decode cX12_lowest 19 = .ok (.ireturn, 1) := by decide +kernel
theorem dX12_highest_0 : decode cX12_highest 0 = .ok (.iload_n 1, 1) := by decide +kernel
theorem dX12_highest_1 : decode cX12_highest 1 = .ok (.ifCond .ne 8, 3) := by decide +kernel
theorem dX12_highest_4 : decode cX12_highest 4 = .ok (.bipush 40, 2) := by decide +kernel
theorem dX12_highest_6 : decode cX12_highest 6 = .ok (.goto 62, 3) := by decide +kernel
theorem dX12_highest_9 : decode cX12_highest 9 = .ok (.iload_n 1, 1) := by decide +kernel
theorem dX12_highest_10 : decode cX12_highest 10 = .ok (.iconst 1, 1) := by decide +kernel
theorem dX12_highest_11 : decode cX12_highest 11 = .ok (.if_icmp .ne 9, 3) := by decide +kernel
theorem dX12_highest_14 : decode cX12_highest 14 = .ok (.sipush 999, 3) := by decide +kernel
theorem dX12_highest_17 : decode cX12_highest 17 = .ok (.goto 51, 3) := by decide +kernel
theorem dX12_highest_20 : decode cX12_highest 20 = .ok (.iload_n 1, 1) := by decide +kernel
theorem dX12_highest_21 : decode cX12_highest 21 = .ok (.iconst 2, 1) := by decide +kernel
theorem dX12_highest_22 : decode cX12_highest 22 = .ok (.if_icmp .ne 8, 3) := by decide +kernel
theorem dX12_highest_25 : decode cX12_highest 25 = .ok (.bipush 99, 2) := by decide +kernel
theorem dX12_highest_27 : decode cX12_highest 27 = .ok (.goto 41, 3) := by decide +kernel
theorem dX12_highest_30 : decode cX12_highest 30 = .ok (.iload_n 1, 1) := by decide +kernel
theorem dX12_highest_31 : decode cX12_highest 31 = .ok (.iconst 3, 1) := by decide +kernel
theorem dX12_highest_32 : decode cX12_highest 32 = .ok (.if_icmp .eq 9, 3) := by decide +kernel
theorem dX12_highest_35 : decode cX12_highest 35 = .ok (.iload_n 1, 1) := by decide +kernel
theorem dX12_highest_36 : decode cX12_highest 36 = .ok (.bipush 7, 2) := by decide +kernel
theorem dX12_highest_38 : decode cX12_highest 38 = .ok (.if_icmp .ne 8, 3) := by decide +kernel
theorem dX12_highest_41 : decode cX12_highest 41 = .ok (.bipush 60, 2) := by decide +kernel
theorem dX12_highest_43 : decode cX12_highest 43 = .ok (.goto 25, 3) := by decide +kernel
theorem dX12_highest_46 : decode cX12_highest 46 = .ok (.iload_n 1, 1) := by decide +kernel
theorem dX12_highest_47 : decode cX12_highest 47 = .ok (.iconst 4, 1) := by decide +kernel
theorem dX12_highest_48 : decode cX12_highest 48 = .ok (.if_icmp .ne 8, 3) := by decide +kernel
theorem dX12_highest_51 : decode cX12_highest 51 = .ok (.bipush 50, 2) := by decide +kernel
theorem dX12_highest_53 : decode cX12_highest 53 = .ok (.goto 15, 3) := by decide +kernel
theorem dX12_highest_56 : decode cX12_highest 56 = .ok (.iload_n 1, 1) := by decide +kernel
theorem dX12_highest_57 : decode cX12_highest 57 = .ok (.iconst 5, 1) := by decide +kernel
theorem dX12_highest_58 : decode cX12_highest 58 = .ok (.if_icmp .ne 8, 3) := by decide +kernel
theorem dX12_highest_61 : decode cX12_highest 61 = .ok (.bipush 20, 2) := by decide +kernel
theorem dX12_highest_63 : decode cX12_highest 63 = .ok (.goto 5, 3) := by decide +kernel
theorem dX12_highest_66 : decode cX12_highest 66 = .ok (.bipush 9, 2) := by decide +kernel
theorem dX12_highest_68 : decode cX12_highest 68 = .ok (.ireturn, 1) := by decide +kernel
abbrev q_X12_readRack  (σ : tw_M) : Option tw_V → tw_M → Prop := fun z τ => z = none ∧ tw_I τ ∧ tw_F (fun c j => (c = 88 ∧ (j = 13 ∨ j = 14 ∨ j = 15 ∨ j = 16 ∨ j = 17 ∨ j = 18)) ∨ c = 95 ∨ c = 97) σ τ ∧ (¬ τ 88 17 = 0 ∨ σ 88 17 = 0) ∧ (σ 88 13 ≤ τ 88 13) ∧ (aM τ = rackM (fM σ) (aM σ))
set_option maxHeartbeats 4000000 in
set_option maxRecDepth 100000 in
theorem c_X12_readRack {G : tw_G} (hM : tw_isM G) (σ : tw_M) (hI : tw_I σ) : tw_C G yX12_readRack cX12_readRack 2 none 3 [vR 88] σ (q_X12_readRack σ) := by
  refine tw_met [(0, vR 88)] (by decide +kernel) rfl (Nat.le_of_ble_eq_true rfl) ?_
  refine j_aload_n (pc := 0) dX12_readRack_0 rfl rfl ?_
  refine j_iconst (pc := 1) dX12_readRack_1 ?_
  refine j_bipush (pc := 2) dX12_readRack_2 rfl ?_
  refine j_callV (pc := 4) (As := [vI 1, vI 10]) (st := []) (c_X12_isNumber hM 1 (by (first | decide | exact ⟨by omega, by omega⟩)) 10 (by (first | decide | exact ⟨by omega, by omega⟩)) σ hI) mv_X12_133 rfl rfl rfl (a_88 hM) dX12_readRack_4 ⟨Nat.le_of_ble_eq_true rfl, Nat.le_of_ble_eq_true rfl⟩ ⟨Nat.le_refl _, Nat.le_refl _⟩ rfl (Nat.le_of_ble_eq_true rfl) rfl (fun z1 σ2 hz1 => ?_)
  obtain ⟨rfl, hIσ2, hGσ2, q3_0, q3_1⟩ := hz1
  replace q3_0 : ¬ σ2 88 17 = 0 ∨ (σ 88 17 = 0 ∧ (1 : Int) ≤ σ 88 16 ∧ σ 88 16 ≤ (10 : Int)) := q3_0
  replace q3_1 : aM σ2 = numS (1 : Int) (10 : Int) (aM σ) := q3_1
  have hFσ2 : tw_F (fun c j => (c = 88 ∧ (j = 13 ∨ j = 14 ∨ j = 15 ∨ j = 16 ∨ j = 17 ∨ j = 18)) ∨ c = 95 ∨ c = 97) σ σ2 := tw_F_tr (tw_F_rf) hGσ2 (fun c j q => (show (c = 88 ∧ (j = 13 ∨ j = 14 ∨ j = 15 ∨ j = 16 ∨ j = 17 ∨ j = 18)) ∨ c = 95 ∨ c = 97 from by replace q : (c = 88 ∧ (j = 17 ∨ j = 18)) := q; exact (Or.inl ⟨q.1, (q.2.elim (fun z => (Or.inr (Or.inr (Or.inr (Or.inr (Or.inl z)))))) (fun z => (Or.inr (Or.inr (Or.inr (Or.inr (Or.inr z)))))))⟩)))
  refine j_st (st' := []) rfl ?_
  have c1 := q3_1
  have y97 : ∀ j, σ2 97 j = σ 97 j := fun j => hGσ2 97 j (show ¬ ((97 = 88 ∧ (j = 17 ∨ j = 18))) from fun h => absurd h.1 (by decide))
  refine j_aload_n (pc := 7) dX12_readRack_7 rfl rfl ?_
  refine j_getI (pc := 8) fl_X12_91 dX12_readRack_8 (a_88 hM) rfl ?_
  have f5 : (0 : Int) ≤ σ2 88 17 ∧ σ2 88 17 ≤ 5 := hIσ2 88 17
  refine j_ifR_ne (pc := 11) (tgt := 21) ⟨by omega, by omega⟩ dX12_readRack_11 rfl (fun h6 => ?_) (fun h6 => ?_)
  · refine j_iconst (pc := 21) dX12_readRack_21 ?_
    refine j_istore_n (pc := 22) (i := 1) (ls' := [(0, vR 88), (1, vI 0)]) [1, 0] dX12_readRack_22 rfl (Nat.le_of_ble_eq_true rfl) rfl rfl ?_
    have v1 := aM_numv (r := 0) c1 ((hGσ2 88 15 (show ¬ ((88 = 88 ∧ (15 = 17 ∨ 15 = 18))) from by decide))) ((hGσ2 88 16 (show ¬ ((88 = 88 ∧ (16 = 17 ∨ 16 = 18))) from by decide))) (by omega)
    refine j_aload_n (pc := 23) dX12_readRack_23 rfl rfl ?_
    refine j_getI (pc := 24) fl_X12_91 dX12_readRack_24 (a_88 hM) rfl ?_
    refine j_ifR_ne (pc := 27) (tgt := 56) ⟨by omega, by omega⟩ dX12_readRack_27 rfl (fun h7 => ?_) (fun h7 => by exfalso; omega)
    refine j_aload_n (pc := 56) dX12_readRack_56 rfl rfl ?_
    have fz : fM σ2 = fM σ := fM_F (hFσ2 88 12 (show ¬ ((88 = 88 ∧ (12 = 13 ∨ 12 = 14 ∨ 12 = 15 ∨ 12 = 16 ∨ 12 = 17 ∨ 12 = 18)) ∨ 88 = 95 ∨ 88 = 97) from by decide)) (fun j => hFσ2 98 j (show ¬ ((98 = 88 ∧ (j = 13 ∨ j = 14 ∨ j = 15 ∨ j = 16 ∨ j = 17 ∨ j = 18)) ∨ 98 = 95 ∨ 98 = 97) from fun h => h.elim (fun h => absurd h.1 (by decide)) (fun h => h.elim (fun h => absurd h (by decide)) (fun h => absurd h (by decide)))))
    refine j_callV (pc := 57) (As := []) (st := []) (c_X12_next hM σ2 hIσ2) mv_X12_137 rfl rfl rfl (a_88 hM) dX12_readRack_57 ⟨Nat.le_of_ble_eq_true rfl, Nat.le_of_ble_eq_true rfl⟩ ⟨Nat.le_refl _, Nat.le_refl _⟩ rfl (Nat.le_of_ble_eq_true rfl) rfl (fun z8 σ9 hz8 => ?_)
    obtain ⟨rfl, hIσ9, hGσ9, q10_0, q10_1, q10_2, q10_3⟩ := hz8
    replace q10_0 : ¬ σ9 88 17 = 0 ∨ σ2 88 17 = 0 := q10_0
    replace q10_1 : σ2 88 13 ≤ σ9 88 13 := q10_1
    have y12 : σ2 88 13 = σ 88 13 := (hGσ2 88 13 (show ¬ ((88 = 88 ∧ (13 = 17 ∨ 13 = 18))) from by decide))
    have f13 : (0 : Int) ≤ σ 88 13 ∧ σ 88 13 ≤ 400 := hI 88 13
    replace q10_2 : ¬ σ9 88 17 = 0 ∨ σ9 88 15 = 0 ∨ σ2 88 13 < σ9 88 13 := q10_2
    have y14 : σ2 88 13 = σ 88 13 := (hGσ2 88 13 (show ¬ ((88 = 88 ∧ (13 = 17 ∨ 13 = 18))) from by decide))
    replace q10_3 : aM σ9 = tok (fM σ2) (aM σ2) := q10_3
    have hFσ9 : tw_F (fun c j => (c = 88 ∧ (j = 13 ∨ j = 14 ∨ j = 15 ∨ j = 16 ∨ j = 17 ∨ j = 18)) ∨ c = 95 ∨ c = 97) σ σ9 := tw_F_tr hFσ2 hGσ9 (fun c j q => (show (c = 88 ∧ (j = 13 ∨ j = 14 ∨ j = 15 ∨ j = 16 ∨ j = 17 ∨ j = 18)) ∨ c = 95 ∨ c = 97 from by replace q : (c = 88 ∧ (j = 13 ∨ j = 14 ∨ j = 15 ∨ j = 16 ∨ j = 17 ∨ j = 18)) := q; exact (Or.inl q)))
    refine j_st (st' := []) rfl ?_
    have c4 := q10_3; rw [fz] at c4
    refine j_aload_n (pc := 60) dX12_readRack_60 rfl rfl ?_
    refine j_getR (pc := 61) (r := 95) fl_X12_29 dX12_readRack_61 (a_88 hM) rfl ?_
    refine j_iload_n (pc := 64) dX12_readRack_64 rfl rfl ?_
    refine j_aload_n (pc := 65) dX12_readRack_65 rfl rfl ?_
    refine j_iconst (pc := 66) dX12_readRack_66 ?_
    refine j_iconst (pc := 67) dX12_readRack_67 ?_
    have fz : fM σ9 = fM σ := fM_F (hFσ9 88 12 (show ¬ ((88 = 88 ∧ (12 = 13 ∨ 12 = 14 ∨ 12 = 15 ∨ 12 = 16 ∨ 12 = 17 ∨ 12 = 18)) ∨ 88 = 95 ∨ 88 = 97) from by decide)) (fun j => hFσ9 98 j (show ¬ ((98 = 88 ∧ (j = 13 ∨ j = 14 ∨ j = 15 ∨ j = 16 ∨ j = 17 ∨ j = 18)) ∨ 98 = 95 ∨ 98 = 97) from fun h => h.elim (fun h => absurd h.1 (by decide)) (fun h => h.elim (fun h => absurd h (by decide)) (fun h => absurd h (by decide)))))
    refine j_callV (pc := 68) (As := [vI 0, vI 5]) (st := [vI 0, vR 95]) (c_X12_readNumber hM 0 (by (first | decide | exact ⟨by omega, by omega⟩)) 5 (by (first | decide | exact ⟨by omega, by omega⟩)) σ9 hIσ9) mv_X12_140 rfl rfl rfl (a_88 hM) dX12_readRack_68 ⟨Nat.le_of_ble_eq_true rfl, Nat.le_of_ble_eq_true rfl⟩ ⟨Nat.le_refl _, Nat.le_refl _⟩ rfl (Nat.le_of_ble_eq_true rfl) rfl (fun z15 σ16 hz15 => ?_)
    obtain ⟨r18, rfl, hr18, hIσ16, hGσ16, q17_0, q17_1, q17_2, q17_3, q17_4⟩ := hz15
    replace q17_0 : ¬ σ16 88 17 = 0 ∨ (σ9 88 17 = 0 ∧ (0 : Int) ≤ r18 ∧ r18 ≤ (5 : Int)) := q17_0
    replace q17_1 : σ9 88 13 ≤ σ16 88 13 := q17_1
    replace q17_2 : ¬ σ16 88 17 = 0 ∨ σ16 88 15 = 0 ∨ σ9 88 13 < σ16 88 13 := q17_2
    replace q17_3 : aM σ16 = tok (fM σ9) (numS (0 : Int) (5 : Int) (aM σ9)) := q17_3
    replace q17_4 : (aM σ16) 4 = 0 → r18 = (numS (0 : Int) (5 : Int) (aM σ9)) 3 := q17_4
    have hFσ16 : tw_F (fun c j => (c = 88 ∧ (j = 13 ∨ j = 14 ∨ j = 15 ∨ j = 16 ∨ j = 17 ∨ j = 18)) ∨ c = 95 ∨ c = 97) σ σ16 := tw_F_tr hFσ9 hGσ16 (fun c j q => (show (c = 88 ∧ (j = 13 ∨ j = 14 ∨ j = 15 ∨ j = 16 ∨ j = 17 ∨ j = 18)) ∨ c = 95 ∨ c = 97 from by replace q : (c = 88 ∧ (j = 13 ∨ j = 14 ∨ j = 15 ∨ j = 16 ∨ j = 17 ∨ j = 18)) := q; exact (Or.inl q)))
    refine j_st (st' := [vI r18, vI 0, vR 95]) rfl ?_
    have c5 := q17_3; rw [fz] at c5
    have v5 := q17_4
    refine j_iast (pc := 71) dX12_readRack_71 (a_95 hM) (by omega) (by omega) (by decide) (j_nm (fun σ19 (eσ19 : σ19 = tw_up σ16 95 0 r18) => ?_))
    have hIσ19 : tw_I σ19 := tw_I_up hIσ16 eσ19 (show (-2147483648 : Int) ≤ r18 ∧ r18 ≤ 2147483647 from ⟨by omega, by omega⟩)
    have hFσ19 : tw_F (fun c j => (c = 88 ∧ (j = 13 ∨ j = 14 ∨ j = 15 ∨ j = 16 ∨ j = 17 ∨ j = 18)) ∨ c = 95 ∨ c = 97) σ σ19 := tw_F_up hFσ16 eσ19 (show (95 = 88 ∧ (0 = 13 ∨ 0 = 14 ∨ 0 = 15 ∨ 0 = 16 ∨ 0 = 17 ∨ 0 = 18)) ∨ 95 = 95 ∨ 95 = 97 from (Or.inr (Or.inl rfl)))
    have c6 := aM_wr (i := 200) eσ19 (Or.inr (Or.inr (Or.inr (Or.inl ⟨rfl, by omega, by omega⟩))))
    have y20 : σ19 88 17 = σ16 88 17 := (tw_ne1 eσ19 (by (first | decide | omega)))
    have f21 : (0 : Int) ≤ σ16 88 17 ∧ σ16 88 17 ≤ 5 := hIσ16 88 17
    have y22 : σ19 88 13 = σ16 88 13 := (tw_ne1 eσ19 (by (first | decide | omega)))
    have f23 : (0 : Int) ≤ σ16 88 13 ∧ σ16 88 13 ≤ 400 := hIσ16 88 13
    exact j_vret (pc := 72) ⟨rfl, rfl⟩ dX12_readRack_72 rfl ⟨rfl, hIσ19, hFσ19, by omega, by omega, (by first | exact rackM_of c1 c2 c3 c4 c5 c6 | exact rackM_no c1 (by rw [aM_4]; omega) c4 c5 c6)⟩
  · refine j_aload_n (pc := 14) dX12_readRack_14 rfl rfl ?_
    refine j_getI (pc := 15) fl_X12_126 dX12_readRack_15 (a_88 hM) rfl ?_
    refine j_topV (show σ2 88 16 = σ 88 16 from (hGσ2 88 16 (show ¬ ((88 = 88 ∧ (16 = 17 ∨ 16 = 18))) from by decide))) ?_
    have f24 : (-2147483648 : Int) ≤ σ 88 16 ∧ σ 88 16 ≤ 2147483647 := hI 88 16
    have g25 : (0 : Int) ≤ σ 88 16 ∧ σ 88 16 ≤ 10 := (by omega)
    refine j_goto (pc := 18) (tgt := 22) dX12_readRack_18 rfl ?_
    refine j_istore_n (pc := 22) (i := 1) (ls' := [(0, vR 88), (1, vI (σ 88 16))]) [1, 0] dX12_readRack_22 rfl (Nat.le_of_ble_eq_true rfl) rfl rfl ?_
    have v1 := aM_numv (r := (σ 88 16)) c1 ((hGσ2 88 15 (show ¬ ((88 = 88 ∧ (15 = 17 ∨ 15 = 18))) from by decide))) ((hGσ2 88 16 (show ¬ ((88 = 88 ∧ (16 = 17 ∨ 16 = 18))) from by decide))) (by omega)
    refine j_aload_n (pc := 23) dX12_readRack_23 rfl rfl ?_
    refine j_getI (pc := 24) fl_X12_91 dX12_readRack_24 (a_88 hM) rfl ?_
    refine j_ifR_ne (pc := 27) (tgt := 56) ⟨by omega, by omega⟩ dX12_readRack_27 rfl (fun h26 => by exfalso; omega) (fun h26 => ?_)
    refine j_aload_n (pc := 30) dX12_readRack_30 rfl rfl ?_
    refine j_aload_n (pc := 31) dX12_readRack_31 rfl rfl ?_
    refine j_getR (pc := 32) (r := 97) fl_X12_35 dX12_readRack_32 (a_88 hM) rfl ?_
    refine j_iload_n (pc := 35) dX12_readRack_35 rfl rfl ?_
    refine j_zald (pc := 36) dX12_readRack_36 (a_97 hM) (by omega) (by omega) (by decide) ?_
    refine j_topV (show σ2 97 ((σ 88 16).toNat) = σ 97 ((σ 88 16).toNat) from (hGσ2 97 ((σ 88 16).toNat) (show ¬ ((97 = 88 ∧ ((σ 88 16).toNat = 17 ∨ (σ 88 16).toNat = 18))) from fun h => absurd h.1 (by decide)))) ?_
    have f27 : (0 : Int) ≤ σ 97 ((σ 88 16).toNat) ∧ σ 97 ((σ 88 16).toNat) ≤ 1 := hI 97 ((σ 88 16).toNat)
    refine j_ifR_ne (pc := 37) (tgt := 44) ⟨by omega, by omega⟩ dX12_readRack_37 rfl (fun h28 => ?_) (fun h28 => ?_)
    · refine j_iconst (pc := 44) dX12_readRack_44 ?_
      refine j_iconst (pc := 45) dX12_readRack_45 ?_
      refine j_callV (pc := 46) (As := [vI 0, vI 4]) (st := []) (c_X12_needs hM 0 (by (first | decide | exact ⟨by omega, by omega⟩)) 4 (by (first | decide | exact ⟨by omega, by omega⟩)) σ2 hIσ2) mv_X12_129 rfl rfl rfl (a_88 hM) dX12_readRack_46 ⟨Nat.le_of_ble_eq_true rfl, Nat.le_of_ble_eq_true rfl⟩ ⟨Nat.le_refl _, Nat.le_refl _⟩ rfl (Nat.le_of_ble_eq_true rfl) rfl (fun z29 σ30 hz29 => ?_)
      obtain ⟨rfl, hIσ30, hGσ30, q31_0, q31_1, q31_2⟩ := hz29
      replace q31_0 : (¬ (0 : Int) = 0 ∧ σ30 88 17 = σ2 88 17) ∨ ((0 : Int) = 0 ∧ σ2 88 17 = 0 ∧ σ30 88 17 = (4 : Int)) ∨ ((0 : Int) = 0 ∧ ¬ σ2 88 17 = 0 ∧ σ30 88 17 = σ2 88 17) := q31_0
      replace q31_1 : (¬ (0 : Int) = 0 ∧ σ30 88 17 = σ2 88 17 ∧ σ30 88 18 = σ2 88 18) ∨ ((0 : Int) = 0 ∧ σ2 88 17 = 0 ∧ σ30 88 17 = (4 : Int) ∧ σ30 88 18 = σ2 88 14) ∨ ((0 : Int) = 0 ∧ ¬ σ2 88 17 = 0 ∧ σ30 88 17 = σ2 88 17 ∧ σ30 88 18 = σ2 88 18) := q31_1
      have y33 : σ2 88 14 = σ 88 14 := (hGσ2 88 14 (show ¬ ((88 = 88 ∧ (14 = 17 ∨ 14 = 18))) from by decide))
      have f34 : (0 : Int) ≤ σ 88 14 ∧ σ 88 14 ≤ 400 := hI 88 14
      replace q31_2 : aM σ30 = need (decide (¬ (0 : Int) = 0)) (4 : Int) (aM σ2) := q31_2
      have hFσ30 : tw_F (fun c j => (c = 88 ∧ (j = 13 ∨ j = 14 ∨ j = 15 ∨ j = 16 ∨ j = 17 ∨ j = 18)) ∨ c = 95 ∨ c = 97) σ σ30 := tw_F_tr hFσ2 hGσ30 (fun c j q => (show (c = 88 ∧ (j = 13 ∨ j = 14 ∨ j = 15 ∨ j = 16 ∨ j = 17 ∨ j = 18)) ∨ c = 95 ∨ c = 97 from by replace q : (c = 88 ∧ (j = 17 ∨ j = 18)) := q; exact (Or.inl ⟨q.1, (q.2.elim (fun z => (Or.inr (Or.inr (Or.inr (Or.inr (Or.inl z)))))) (fun z => (Or.inr (Or.inr (Or.inr (Or.inr (Or.inr z)))))))⟩)))
      refine j_st (st' := []) rfl ?_
      have c2 : aM σ30 = need (decide ((aM σ2) (ci 700 ((aM σ2) 3)) = 0)) 4 (aM σ2) := (q31_2).trans (need_cg (fun h4 => by rw [aM_4] at h4; first | exact (decide_eq_true (by omega)).trans (mtold_t h4 v1 ⟨by omega, by omega⟩ (by rw [y97]; omega)).symm | exact (decide_eq_false (by omega)).trans (mtold_f h4 v1 ⟨by omega, by omega⟩ (by rw [y97]; omega)).symm))
      refine j_aload_n (pc := 49) dX12_readRack_49 rfl rfl ?_
      refine j_getR (pc := 50) (r := 97) fl_X12_35 dX12_readRack_50 (a_88 hM) rfl ?_
      refine j_iload_n (pc := 53) dX12_readRack_53 rfl rfl ?_
      refine j_iconst (pc := 54) dX12_readRack_54 ?_
      refine j_zast (pc := 55) (by omega) dX12_readRack_55 (a_97 hM) (by omega) (by omega) (by decide) (j_nm (fun σ35 (eσ35 : σ35 = tw_up σ30 97 ((σ 88 16).toNat) 1) => ?_))
      have hIσ35 : tw_I σ35 := tw_I_up hIσ30 eσ35 (show (0 : Int) ≤ 1 ∧ 1 ≤ 1 from by decide)
      have hFσ35 : tw_F (fun c j => (c = 88 ∧ (j = 13 ∨ j = 14 ∨ j = 15 ∨ j = 16 ∨ j = 17 ∨ j = 18)) ∨ c = 95 ∨ c = 97) σ σ35 := tw_F_up hFσ30 eσ35 (show (97 = 88 ∧ ((σ 88 16).toNat = 13 ∨ (σ 88 16).toNat = 14 ∨ (σ 88 16).toNat = 15 ∨ (σ 88 16).toNat = 16 ∨ (σ 88 16).toNat = 17 ∨ (σ 88 16).toNat = 18)) ∨ 97 = 95 ∨ 97 = 97 from (Or.inr (Or.inr rfl)))
      have c3 := (aM_wr (i := 700 + (σ 88 16).toNat) eσ35 (Or.inr (Or.inr (Or.inr (Or.inr (Or.inr (Or.inr ⟨rfl, by omega, by omega⟩))))))).trans (wr_at v1 (fun h4 => by rw [aM_4] at h4 ⊢; omega))
      refine j_aload_n (pc := 56) dX12_readRack_56 rfl rfl ?_
      have fz : fM σ35 = fM σ := fM_F (hFσ35 88 12 (show ¬ ((88 = 88 ∧ (12 = 13 ∨ 12 = 14 ∨ 12 = 15 ∨ 12 = 16 ∨ 12 = 17 ∨ 12 = 18)) ∨ 88 = 95 ∨ 88 = 97) from by decide)) (fun j => hFσ35 98 j (show ¬ ((98 = 88 ∧ (j = 13 ∨ j = 14 ∨ j = 15 ∨ j = 16 ∨ j = 17 ∨ j = 18)) ∨ 98 = 95 ∨ 98 = 97) from fun h => h.elim (fun h => absurd h.1 (by decide)) (fun h => h.elim (fun h => absurd h (by decide)) (fun h => absurd h (by decide)))))
      refine j_callV (pc := 57) (As := []) (st := []) (c_X12_next hM σ35 hIσ35) mv_X12_137 rfl rfl rfl (a_88 hM) dX12_readRack_57 ⟨Nat.le_of_ble_eq_true rfl, Nat.le_of_ble_eq_true rfl⟩ ⟨Nat.le_refl _, Nat.le_refl _⟩ rfl (Nat.le_of_ble_eq_true rfl) rfl (fun z36 σ37 hz36 => ?_)
      obtain ⟨rfl, hIσ37, hGσ37, q38_0, q38_1, q38_2, q38_3⟩ := hz36
      replace q38_0 : ¬ σ37 88 17 = 0 ∨ σ35 88 17 = 0 := q38_0
      have y40 : σ35 88 17 = σ30 88 17 := (tw_ne1 eσ35 (by (first | decide | omega)))
      have f41 : (0 : Int) ≤ σ30 88 17 ∧ σ30 88 17 ≤ 5 := hIσ30 88 17
      replace q38_1 : σ35 88 13 ≤ σ37 88 13 := q38_1
      have y42 : σ35 88 13 = σ 88 13 := (((tw_ne1 eσ35 (by (first | decide | omega)))).trans (hGσ30 88 13 (show ¬ ((88 = 88 ∧ (13 = 17 ∨ 13 = 18))) from by decide))).trans (hGσ2 88 13 (show ¬ ((88 = 88 ∧ (13 = 17 ∨ 13 = 18))) from by decide))
      have f43 : (0 : Int) ≤ σ 88 13 ∧ σ 88 13 ≤ 400 := hI 88 13
      replace q38_2 : ¬ σ37 88 17 = 0 ∨ σ37 88 15 = 0 ∨ σ35 88 13 < σ37 88 13 := q38_2
      have y44 : σ35 88 13 = σ 88 13 := (((tw_ne1 eσ35 (by (first | decide | omega)))).trans (hGσ30 88 13 (show ¬ ((88 = 88 ∧ (13 = 17 ∨ 13 = 18))) from by decide))).trans (hGσ2 88 13 (show ¬ ((88 = 88 ∧ (13 = 17 ∨ 13 = 18))) from by decide))
      replace q38_3 : aM σ37 = tok (fM σ35) (aM σ35) := q38_3
      have hFσ37 : tw_F (fun c j => (c = 88 ∧ (j = 13 ∨ j = 14 ∨ j = 15 ∨ j = 16 ∨ j = 17 ∨ j = 18)) ∨ c = 95 ∨ c = 97) σ σ37 := tw_F_tr hFσ35 hGσ37 (fun c j q => (show (c = 88 ∧ (j = 13 ∨ j = 14 ∨ j = 15 ∨ j = 16 ∨ j = 17 ∨ j = 18)) ∨ c = 95 ∨ c = 97 from by replace q : (c = 88 ∧ (j = 13 ∨ j = 14 ∨ j = 15 ∨ j = 16 ∨ j = 17 ∨ j = 18)) := q; exact (Or.inl q)))
      refine j_st (st' := []) rfl ?_
      have c4 := q38_3; rw [fz] at c4
      refine j_aload_n (pc := 60) dX12_readRack_60 rfl rfl ?_
      refine j_getR (pc := 61) (r := 95) fl_X12_29 dX12_readRack_61 (a_88 hM) rfl ?_
      refine j_iload_n (pc := 64) dX12_readRack_64 rfl rfl ?_
      refine j_aload_n (pc := 65) dX12_readRack_65 rfl rfl ?_
      refine j_iconst (pc := 66) dX12_readRack_66 ?_
      refine j_iconst (pc := 67) dX12_readRack_67 ?_
      have fz : fM σ37 = fM σ := fM_F (hFσ37 88 12 (show ¬ ((88 = 88 ∧ (12 = 13 ∨ 12 = 14 ∨ 12 = 15 ∨ 12 = 16 ∨ 12 = 17 ∨ 12 = 18)) ∨ 88 = 95 ∨ 88 = 97) from by decide)) (fun j => hFσ37 98 j (show ¬ ((98 = 88 ∧ (j = 13 ∨ j = 14 ∨ j = 15 ∨ j = 16 ∨ j = 17 ∨ j = 18)) ∨ 98 = 95 ∨ 98 = 97) from fun h => h.elim (fun h => absurd h.1 (by decide)) (fun h => h.elim (fun h => absurd h (by decide)) (fun h => absurd h (by decide)))))
      refine j_callV (pc := 68) (As := [vI 0, vI 5]) (st := [vI (σ 88 16), vR 95]) (c_X12_readNumber hM 0 (by (first | decide | exact ⟨by omega, by omega⟩)) 5 (by (first | decide | exact ⟨by omega, by omega⟩)) σ37 hIσ37) mv_X12_140 rfl rfl rfl (a_88 hM) dX12_readRack_68 ⟨Nat.le_of_ble_eq_true rfl, Nat.le_of_ble_eq_true rfl⟩ ⟨Nat.le_refl _, Nat.le_refl _⟩ rfl (Nat.le_of_ble_eq_true rfl) rfl (fun z45 σ46 hz45 => ?_)
      obtain ⟨r48, rfl, hr48, hIσ46, hGσ46, q47_0, q47_1, q47_2, q47_3, q47_4⟩ := hz45
      replace q47_0 : ¬ σ46 88 17 = 0 ∨ (σ37 88 17 = 0 ∧ (0 : Int) ≤ r48 ∧ r48 ≤ (5 : Int)) := q47_0
      replace q47_1 : σ37 88 13 ≤ σ46 88 13 := q47_1
      replace q47_2 : ¬ σ46 88 17 = 0 ∨ σ46 88 15 = 0 ∨ σ37 88 13 < σ46 88 13 := q47_2
      replace q47_3 : aM σ46 = tok (fM σ37) (numS (0 : Int) (5 : Int) (aM σ37)) := q47_3
      replace q47_4 : (aM σ46) 4 = 0 → r48 = (numS (0 : Int) (5 : Int) (aM σ37)) 3 := q47_4
      have hFσ46 : tw_F (fun c j => (c = 88 ∧ (j = 13 ∨ j = 14 ∨ j = 15 ∨ j = 16 ∨ j = 17 ∨ j = 18)) ∨ c = 95 ∨ c = 97) σ σ46 := tw_F_tr hFσ37 hGσ46 (fun c j q => (show (c = 88 ∧ (j = 13 ∨ j = 14 ∨ j = 15 ∨ j = 16 ∨ j = 17 ∨ j = 18)) ∨ c = 95 ∨ c = 97 from by replace q : (c = 88 ∧ (j = 13 ∨ j = 14 ∨ j = 15 ∨ j = 16 ∨ j = 17 ∨ j = 18)) := q; exact (Or.inl q)))
      refine j_st (st' := [vI r48, vI (σ 88 16), vR 95]) rfl ?_
      have c5 := q47_3; rw [fz] at c5
      have v5 := q47_4
      refine j_iast (pc := 71) dX12_readRack_71 (a_95 hM) (by omega) (by omega) (by decide) (j_nm (fun σ49 (eσ49 : σ49 = tw_up σ46 95 ((σ 88 16).toNat) r48) => ?_))
      have hIσ49 : tw_I σ49 := tw_I_up hIσ46 eσ49 (show (-2147483648 : Int) ≤ r48 ∧ r48 ≤ 2147483647 from ⟨by omega, by omega⟩)
      have hFσ49 : tw_F (fun c j => (c = 88 ∧ (j = 13 ∨ j = 14 ∨ j = 15 ∨ j = 16 ∨ j = 17 ∨ j = 18)) ∨ c = 95 ∨ c = 97) σ σ49 := tw_F_up hFσ46 eσ49 (show (95 = 88 ∧ ((σ 88 16).toNat = 13 ∨ (σ 88 16).toNat = 14 ∨ (σ 88 16).toNat = 15 ∨ (σ 88 16).toNat = 16 ∨ (σ 88 16).toNat = 17 ∨ (σ 88 16).toNat = 18)) ∨ 95 = 95 ∨ 95 = 97 from (Or.inr (Or.inl rfl)))
      have c6 := (aM_wr (i := 200 + (σ 88 16).toNat) eσ49 (Or.inr (Or.inr (Or.inr (Or.inl ⟨rfl, by omega, by omega⟩))))).trans ((wr_at v1 (fun h4 => by rw [aM_4] at h4 ⊢; omega)).trans (wr_cg v5))
      have y50 : σ49 88 17 = σ46 88 17 := (tw_ne1 eσ49 (by (first | decide | omega)))
      have f51 : (0 : Int) ≤ σ46 88 17 ∧ σ46 88 17 ≤ 5 := hIσ46 88 17
      have y52 : σ49 88 13 = σ46 88 13 := (tw_ne1 eσ49 (by (first | decide | omega)))
      have f53 : (0 : Int) ≤ σ46 88 13 ∧ σ46 88 13 ≤ 400 := hIσ46 88 13
      exact j_vret (pc := 72) ⟨rfl, rfl⟩ dX12_readRack_72 rfl ⟨rfl, hIσ49, hFσ49, by omega, by omega, (by first | exact rackM_of c1 c2 c3 c4 c5 c6 | exact rackM_no c1 (by rw [aM_4]; omega) c4 c5 c6)⟩
    · refine j_iconst (pc := 40) dX12_readRack_40 ?_
      refine j_goto (pc := 41) (tgt := 45) dX12_readRack_41 rfl ?_
      refine j_iconst (pc := 45) dX12_readRack_45 ?_
      refine j_callV (pc := 46) (As := [vI 1, vI 4]) (st := []) (c_X12_needs hM 1 (by (first | decide | exact ⟨by omega, by omega⟩)) 4 (by (first | decide | exact ⟨by omega, by omega⟩)) σ2 hIσ2) mv_X12_129 rfl rfl rfl (a_88 hM) dX12_readRack_46 ⟨Nat.le_of_ble_eq_true rfl, Nat.le_of_ble_eq_true rfl⟩ ⟨Nat.le_refl _, Nat.le_refl _⟩ rfl (Nat.le_of_ble_eq_true rfl) rfl (fun z54 σ55 hz54 => ?_)
      obtain ⟨rfl, hIσ55, hGσ55, q56_0, q56_1, q56_2⟩ := hz54
      replace q56_0 : (¬ (1 : Int) = 0 ∧ σ55 88 17 = σ2 88 17) ∨ ((1 : Int) = 0 ∧ σ2 88 17 = 0 ∧ σ55 88 17 = (4 : Int)) ∨ ((1 : Int) = 0 ∧ ¬ σ2 88 17 = 0 ∧ σ55 88 17 = σ2 88 17) := q56_0
      replace q56_1 : (¬ (1 : Int) = 0 ∧ σ55 88 17 = σ2 88 17 ∧ σ55 88 18 = σ2 88 18) ∨ ((1 : Int) = 0 ∧ σ2 88 17 = 0 ∧ σ55 88 17 = (4 : Int) ∧ σ55 88 18 = σ2 88 14) ∨ ((1 : Int) = 0 ∧ ¬ σ2 88 17 = 0 ∧ σ55 88 17 = σ2 88 17 ∧ σ55 88 18 = σ2 88 18) := q56_1
      have y58 : σ2 88 14 = σ 88 14 := (hGσ2 88 14 (show ¬ ((88 = 88 ∧ (14 = 17 ∨ 14 = 18))) from by decide))
      have f59 : (0 : Int) ≤ σ 88 14 ∧ σ 88 14 ≤ 400 := hI 88 14
      replace q56_2 : aM σ55 = need (decide (¬ (1 : Int) = 0)) (4 : Int) (aM σ2) := q56_2
      have hFσ55 : tw_F (fun c j => (c = 88 ∧ (j = 13 ∨ j = 14 ∨ j = 15 ∨ j = 16 ∨ j = 17 ∨ j = 18)) ∨ c = 95 ∨ c = 97) σ σ55 := tw_F_tr hFσ2 hGσ55 (fun c j q => (show (c = 88 ∧ (j = 13 ∨ j = 14 ∨ j = 15 ∨ j = 16 ∨ j = 17 ∨ j = 18)) ∨ c = 95 ∨ c = 97 from by replace q : (c = 88 ∧ (j = 17 ∨ j = 18)) := q; exact (Or.inl ⟨q.1, (q.2.elim (fun z => (Or.inr (Or.inr (Or.inr (Or.inr (Or.inl z)))))) (fun z => (Or.inr (Or.inr (Or.inr (Or.inr (Or.inr z)))))))⟩)))
      refine j_st (st' := []) rfl ?_
      have c2 : aM σ55 = need (decide ((aM σ2) (ci 700 ((aM σ2) 3)) = 0)) 4 (aM σ2) := (q56_2).trans (need_cg (fun h4 => by rw [aM_4] at h4; first | exact (decide_eq_true (by omega)).trans (mtold_t h4 v1 ⟨by omega, by omega⟩ (by rw [y97]; omega)).symm | exact (decide_eq_false (by omega)).trans (mtold_f h4 v1 ⟨by omega, by omega⟩ (by rw [y97]; omega)).symm))
      refine j_aload_n (pc := 49) dX12_readRack_49 rfl rfl ?_
      refine j_getR (pc := 50) (r := 97) fl_X12_35 dX12_readRack_50 (a_88 hM) rfl ?_
      refine j_iload_n (pc := 53) dX12_readRack_53 rfl rfl ?_
      refine j_iconst (pc := 54) dX12_readRack_54 ?_
      refine j_zast (pc := 55) (by omega) dX12_readRack_55 (a_97 hM) (by omega) (by omega) (by decide) (j_nm (fun σ60 (eσ60 : σ60 = tw_up σ55 97 ((σ 88 16).toNat) 1) => ?_))
      have hIσ60 : tw_I σ60 := tw_I_up hIσ55 eσ60 (show (0 : Int) ≤ 1 ∧ 1 ≤ 1 from by decide)
      have hFσ60 : tw_F (fun c j => (c = 88 ∧ (j = 13 ∨ j = 14 ∨ j = 15 ∨ j = 16 ∨ j = 17 ∨ j = 18)) ∨ c = 95 ∨ c = 97) σ σ60 := tw_F_up hFσ55 eσ60 (show (97 = 88 ∧ ((σ 88 16).toNat = 13 ∨ (σ 88 16).toNat = 14 ∨ (σ 88 16).toNat = 15 ∨ (σ 88 16).toNat = 16 ∨ (σ 88 16).toNat = 17 ∨ (σ 88 16).toNat = 18)) ∨ 97 = 95 ∨ 97 = 97 from (Or.inr (Or.inr rfl)))
      have c3 := (aM_wr (i := 700 + (σ 88 16).toNat) eσ60 (Or.inr (Or.inr (Or.inr (Or.inr (Or.inr (Or.inr ⟨rfl, by omega, by omega⟩))))))).trans (wr_at v1 (fun h4 => by rw [aM_4] at h4 ⊢; omega))
      refine j_aload_n (pc := 56) dX12_readRack_56 rfl rfl ?_
      have fz : fM σ60 = fM σ := fM_F (hFσ60 88 12 (show ¬ ((88 = 88 ∧ (12 = 13 ∨ 12 = 14 ∨ 12 = 15 ∨ 12 = 16 ∨ 12 = 17 ∨ 12 = 18)) ∨ 88 = 95 ∨ 88 = 97) from by decide)) (fun j => hFσ60 98 j (show ¬ ((98 = 88 ∧ (j = 13 ∨ j = 14 ∨ j = 15 ∨ j = 16 ∨ j = 17 ∨ j = 18)) ∨ 98 = 95 ∨ 98 = 97) from fun h => h.elim (fun h => absurd h.1 (by decide)) (fun h => h.elim (fun h => absurd h (by decide)) (fun h => absurd h (by decide)))))
      refine j_callV (pc := 57) (As := []) (st := []) (c_X12_next hM σ60 hIσ60) mv_X12_137 rfl rfl rfl (a_88 hM) dX12_readRack_57 ⟨Nat.le_of_ble_eq_true rfl, Nat.le_of_ble_eq_true rfl⟩ ⟨Nat.le_refl _, Nat.le_refl _⟩ rfl (Nat.le_of_ble_eq_true rfl) rfl (fun z61 σ62 hz61 => ?_)
      obtain ⟨rfl, hIσ62, hGσ62, q63_0, q63_1, q63_2, q63_3⟩ := hz61
      replace q63_0 : ¬ σ62 88 17 = 0 ∨ σ60 88 17 = 0 := q63_0
      have y65 : σ60 88 17 = σ55 88 17 := (tw_ne1 eσ60 (by (first | decide | omega)))
      have f66 : (0 : Int) ≤ σ55 88 17 ∧ σ55 88 17 ≤ 5 := hIσ55 88 17
      replace q63_1 : σ60 88 13 ≤ σ62 88 13 := q63_1
      have y67 : σ60 88 13 = σ 88 13 := (((tw_ne1 eσ60 (by (first | decide | omega)))).trans (hGσ55 88 13 (show ¬ ((88 = 88 ∧ (13 = 17 ∨ 13 = 18))) from by decide))).trans (hGσ2 88 13 (show ¬ ((88 = 88 ∧ (13 = 17 ∨ 13 = 18))) from by decide))
      have f68 : (0 : Int) ≤ σ 88 13 ∧ σ 88 13 ≤ 400 := hI 88 13
      replace q63_2 : ¬ σ62 88 17 = 0 ∨ σ62 88 15 = 0 ∨ σ60 88 13 < σ62 88 13 := q63_2
      have y69 : σ60 88 13 = σ 88 13 := (((tw_ne1 eσ60 (by (first | decide | omega)))).trans (hGσ55 88 13 (show ¬ ((88 = 88 ∧ (13 = 17 ∨ 13 = 18))) from by decide))).trans (hGσ2 88 13 (show ¬ ((88 = 88 ∧ (13 = 17 ∨ 13 = 18))) from by decide))
      replace q63_3 : aM σ62 = tok (fM σ60) (aM σ60) := q63_3
      have hFσ62 : tw_F (fun c j => (c = 88 ∧ (j = 13 ∨ j = 14 ∨ j = 15 ∨ j = 16 ∨ j = 17 ∨ j = 18)) ∨ c = 95 ∨ c = 97) σ σ62 := tw_F_tr hFσ60 hGσ62 (fun c j q => (show (c = 88 ∧ (j = 13 ∨ j = 14 ∨ j = 15 ∨ j = 16 ∨ j = 17 ∨ j = 18)) ∨ c = 95 ∨ c = 97 from by replace q : (c = 88 ∧ (j = 13 ∨ j = 14 ∨ j = 15 ∨ j = 16 ∨ j = 17 ∨ j = 18)) := q; exact (Or.inl q)))
      refine j_st (st' := []) rfl ?_
      have c4 := q63_3; rw [fz] at c4
      refine j_aload_n (pc := 60) dX12_readRack_60 rfl rfl ?_
      refine j_getR (pc := 61) (r := 95) fl_X12_29 dX12_readRack_61 (a_88 hM) rfl ?_
      refine j_iload_n (pc := 64) dX12_readRack_64 rfl rfl ?_
      refine j_aload_n (pc := 65) dX12_readRack_65 rfl rfl ?_
      refine j_iconst (pc := 66) dX12_readRack_66 ?_
      refine j_iconst (pc := 67) dX12_readRack_67 ?_
      have fz : fM σ62 = fM σ := fM_F (hFσ62 88 12 (show ¬ ((88 = 88 ∧ (12 = 13 ∨ 12 = 14 ∨ 12 = 15 ∨ 12 = 16 ∨ 12 = 17 ∨ 12 = 18)) ∨ 88 = 95 ∨ 88 = 97) from by decide)) (fun j => hFσ62 98 j (show ¬ ((98 = 88 ∧ (j = 13 ∨ j = 14 ∨ j = 15 ∨ j = 16 ∨ j = 17 ∨ j = 18)) ∨ 98 = 95 ∨ 98 = 97) from fun h => h.elim (fun h => absurd h.1 (by decide)) (fun h => h.elim (fun h => absurd h (by decide)) (fun h => absurd h (by decide)))))
      refine j_callV (pc := 68) (As := [vI 0, vI 5]) (st := [vI (σ 88 16), vR 95]) (c_X12_readNumber hM 0 (by (first | decide | exact ⟨by omega, by omega⟩)) 5 (by (first | decide | exact ⟨by omega, by omega⟩)) σ62 hIσ62) mv_X12_140 rfl rfl rfl (a_88 hM) dX12_readRack_68 ⟨Nat.le_of_ble_eq_true rfl, Nat.le_of_ble_eq_true rfl⟩ ⟨Nat.le_refl _, Nat.le_refl _⟩ rfl (Nat.le_of_ble_eq_true rfl) rfl (fun z70 σ71 hz70 => ?_)
      obtain ⟨r73, rfl, hr73, hIσ71, hGσ71, q72_0, q72_1, q72_2, q72_3, q72_4⟩ := hz70
      replace q72_0 : ¬ σ71 88 17 = 0 ∨ (σ62 88 17 = 0 ∧ (0 : Int) ≤ r73 ∧ r73 ≤ (5 : Int)) := q72_0
      replace q72_1 : σ62 88 13 ≤ σ71 88 13 := q72_1
      replace q72_2 : ¬ σ71 88 17 = 0 ∨ σ71 88 15 = 0 ∨ σ62 88 13 < σ71 88 13 := q72_2
      replace q72_3 : aM σ71 = tok (fM σ62) (numS (0 : Int) (5 : Int) (aM σ62)) := q72_3
      replace q72_4 : (aM σ71) 4 = 0 → r73 = (numS (0 : Int) (5 : Int) (aM σ62)) 3 := q72_4
      have hFσ71 : tw_F (fun c j => (c = 88 ∧ (j = 13 ∨ j = 14 ∨ j = 15 ∨ j = 16 ∨ j = 17 ∨ j = 18)) ∨ c = 95 ∨ c = 97) σ σ71 := tw_F_tr hFσ62 hGσ71 (fun c j q => (show (c = 88 ∧ (j = 13 ∨ j = 14 ∨ j = 15 ∨ j = 16 ∨ j = 17 ∨ j = 18)) ∨ c = 95 ∨ c = 97 from by replace q : (c = 88 ∧ (j = 13 ∨ j = 14 ∨ j = 15 ∨ j = 16 ∨ j = 17 ∨ j = 18)) := q; exact (Or.inl q)))
      refine j_st (st' := [vI r73, vI (σ 88 16), vR 95]) rfl ?_
      have c5 := q72_3; rw [fz] at c5
      have v5 := q72_4
      refine j_iast (pc := 71) dX12_readRack_71 (a_95 hM) (by omega) (by omega) (by decide) (j_nm (fun σ74 (eσ74 : σ74 = tw_up σ71 95 ((σ 88 16).toNat) r73) => ?_))
      have hIσ74 : tw_I σ74 := tw_I_up hIσ71 eσ74 (show (-2147483648 : Int) ≤ r73 ∧ r73 ≤ 2147483647 from ⟨by omega, by omega⟩)
      have hFσ74 : tw_F (fun c j => (c = 88 ∧ (j = 13 ∨ j = 14 ∨ j = 15 ∨ j = 16 ∨ j = 17 ∨ j = 18)) ∨ c = 95 ∨ c = 97) σ σ74 := tw_F_up hFσ71 eσ74 (show (95 = 88 ∧ ((σ 88 16).toNat = 13 ∨ (σ 88 16).toNat = 14 ∨ (σ 88 16).toNat = 15 ∨ (σ 88 16).toNat = 16 ∨ (σ 88 16).toNat = 17 ∨ (σ 88 16).toNat = 18)) ∨ 95 = 95 ∨ 95 = 97 from (Or.inr (Or.inl rfl)))
      have c6 := (aM_wr (i := 200 + (σ 88 16).toNat) eσ74 (Or.inr (Or.inr (Or.inr (Or.inl ⟨rfl, by omega, by omega⟩))))).trans ((wr_at v1 (fun h4 => by rw [aM_4] at h4 ⊢; omega)).trans (wr_cg v5))
      have y75 : σ74 88 17 = σ71 88 17 := (tw_ne1 eσ74 (by (first | decide | omega)))
      have f76 : (0 : Int) ≤ σ71 88 17 ∧ σ71 88 17 ≤ 5 := hIσ71 88 17
      have y77 : σ74 88 13 = σ71 88 13 := (tw_ne1 eσ74 (by (first | decide | omega)))
      have f78 : (0 : Int) ≤ σ71 88 13 ∧ σ71 88 13 ≤ 400 := hIσ71 88 13
      exact j_vret (pc := 72) ⟨rfl, rfl⟩ dX12_readRack_72 rfl ⟨rfl, hIσ74, hFσ74, by omega, by omega, (by first | exact rackM_of c1 c2 c3 c4 c5 c6 | exact rackM_no c1 (by rw [aM_4]; omega) c4 c5 c6)⟩
abbrev q_X12_lowest (k : Int) (σ : tw_M) : Option tw_V → tw_M → Prop := fun z τ => ∃ r : Int, z = some (vI r) ∧ (-2147483648 ≤ r ∧ r ≤ 2147483647) ∧ σ = τ ∧ (((k = 0 ∨ k = 1 ∨ k = 3) ∧ r = 1) ∨ (¬ (k = 0 ∨ k = 1 ∨ k = 3) ∧ r = 0))
set_option maxHeartbeats 4000000 in
set_option maxRecDepth 100000 in
theorem c_X12_lowest {G : tw_G} (hM : tw_isM G) (k : Int) (hk : -2147483648 ≤ k ∧ k ≤ 2147483647) (σ : tw_M) (hI : tw_I σ) : tw_C G yX12_lowest cX12_lowest 2 (some .int) 0 [vR 88, vI k] σ (q_X12_lowest k σ) := by
  refine tw_met [(0, vR 88), (1, vI k)] (by decide +kernel) rfl (Nat.le_of_ble_eq_true rfl) ?_
  refine j_iload_n (pc := 0) dX12_lowest_0 rfl rfl ?_
  refine j_ifR_eq (pc := 1) (tgt := 14) ⟨by omega, by omega⟩ dX12_lowest_1 rfl (fun h1 => ?_) (fun h1 => ?_)
  · refine j_iconst (pc := 14) dX12_lowest_14 ?_
    refine j_goto (pc := 15) (tgt := 19) dX12_lowest_15 rfl ?_
    exact j_iret (pc := 19) ⟨rfl, rfl⟩ dX12_lowest_19 rfl ⟨_, rfl, ⟨by omega, by omega⟩, rfl, by omega⟩
  · refine j_iload_n (pc := 4) dX12_lowest_4 rfl rfl ?_
    refine j_iconst (pc := 5) dX12_lowest_5 ?_
    refine j_icmpR_eq (pc := 6) (tgt := 14) ⟨by omega, by omega⟩ ⟨by omega, by omega⟩ dX12_lowest_6 rfl (fun h2 => ?_) (fun h2 => ?_)
    · refine j_iconst (pc := 14) dX12_lowest_14 ?_
      refine j_goto (pc := 15) (tgt := 19) dX12_lowest_15 rfl ?_
      exact j_iret (pc := 19) ⟨rfl, rfl⟩ dX12_lowest_19 rfl ⟨_, rfl, ⟨by omega, by omega⟩, rfl, by omega⟩
    · refine j_iload_n (pc := 9) dX12_lowest_9 rfl rfl ?_
      refine j_iconst (pc := 10) dX12_lowest_10 ?_
      refine j_icmpR_ne (pc := 11) (tgt := 18) ⟨by omega, by omega⟩ ⟨by omega, by omega⟩ dX12_lowest_11 rfl (fun h3 => ?_) (fun h3 => ?_)
      · refine j_iconst (pc := 18) dX12_lowest_18 ?_
        exact j_iret (pc := 19) ⟨rfl, rfl⟩ dX12_lowest_19 rfl ⟨_, rfl, ⟨by omega, by omega⟩, rfl, by omega⟩
      · refine j_iconst (pc := 14) dX12_lowest_14 ?_
        refine j_goto (pc := 15) (tgt := 19) dX12_lowest_15 rfl ?_
        exact j_iret (pc := 19) ⟨rfl, rfl⟩ dX12_lowest_19 rfl ⟨_, rfl, ⟨by omega, by omega⟩, rfl, by omega⟩
abbrev q_X12_highest (k : Int) (σ : tw_M) : Option tw_V → tw_M → Prop := fun z τ => ∃ r : Int, z = some (vI r) ∧ (-2147483648 ≤ r ∧ r ≤ 2147483647) ∧ σ = τ ∧ ((k = 0 ∧ r = 40) ∨ (k = 1 ∧ r = 999) ∨ (k = 2 ∧ r = 99) ∨ (k = 3 ∧ r = 60) ∨ (k = 7 ∧ r = 60) ∨ (k = 4 ∧ r = 50) ∨ (k = 5 ∧ r = 20) ∨ ((k < 0 ∨ k = 6 ∨ 7 < k) ∧ r = 9))
set_option maxHeartbeats 4000000 in
set_option maxRecDepth 100000 in
theorem c_X12_highest {G : tw_G} (hM : tw_isM G) (k : Int) (hk : -2147483648 ≤ k ∧ k ≤ 2147483647) (σ : tw_M) (hI : tw_I σ) : tw_C G yX12_highest cX12_highest 2 (some .int) 0 [vR 88, vI k] σ (q_X12_highest k σ) := by
  refine tw_met [(0, vR 88), (1, vI k)] (by decide +kernel) rfl (Nat.le_of_ble_eq_true rfl) ?_
  refine j_iload_n (pc := 0) dX12_highest_0 rfl rfl ?_
  refine j_ifR_ne (pc := 1) (tgt := 9) ⟨by omega, by omega⟩ dX12_highest_1 rfl (fun h1 => ?_) (fun h1 => ?_)
  · refine j_iload_n (pc := 9) dX12_highest_9 rfl rfl ?_
    refine j_iconst (pc := 10) dX12_highest_10 ?_
    refine j_icmpR_ne (pc := 11) (tgt := 20) ⟨by omega, by omega⟩ ⟨by omega, by omega⟩ dX12_highest_11 rfl (fun h2 => ?_) (fun h2 => ?_)
    · refine j_iload_n (pc := 20) dX12_highest_20 rfl rfl ?_
      refine j_iconst (pc := 21) dX12_highest_21 ?_
      refine j_icmpR_ne (pc := 22) (tgt := 30) ⟨by omega, by omega⟩ ⟨by omega, by omega⟩ dX12_highest_22 rfl (fun h3 => ?_) (fun h3 => ?_)
      · refine j_iload_n (pc := 30) dX12_highest_30 rfl rfl ?_
        refine j_iconst (pc := 31) dX12_highest_31 ?_
        refine j_icmpR_eq (pc := 32) (tgt := 41) ⟨by omega, by omega⟩ ⟨by omega, by omega⟩ dX12_highest_32 rfl (fun h4 => ?_) (fun h4 => ?_)
        · refine j_bipush (pc := 41) dX12_highest_41 rfl ?_
          refine j_goto (pc := 43) (tgt := 68) dX12_highest_43 rfl ?_
          exact j_iret (pc := 68) ⟨rfl, rfl⟩ dX12_highest_68 rfl ⟨_, rfl, ⟨by omega, by omega⟩, rfl, by omega⟩
        · refine j_iload_n (pc := 35) dX12_highest_35 rfl rfl ?_
          refine j_bipush (pc := 36) dX12_highest_36 rfl ?_
          refine j_icmpR_ne (pc := 38) (tgt := 46) ⟨by omega, by omega⟩ ⟨by omega, by omega⟩ dX12_highest_38 rfl (fun h5 => ?_) (fun h5 => ?_)
          · refine j_iload_n (pc := 46) dX12_highest_46 rfl rfl ?_
            refine j_iconst (pc := 47) dX12_highest_47 ?_
            refine j_icmpR_ne (pc := 48) (tgt := 56) ⟨by omega, by omega⟩ ⟨by omega, by omega⟩ dX12_highest_48 rfl (fun h6 => ?_) (fun h6 => ?_)
            · refine j_iload_n (pc := 56) dX12_highest_56 rfl rfl ?_
              refine j_iconst (pc := 57) dX12_highest_57 ?_
              refine j_icmpR_ne (pc := 58) (tgt := 66) ⟨by omega, by omega⟩ ⟨by omega, by omega⟩ dX12_highest_58 rfl (fun h7 => ?_) (fun h7 => ?_)
              · refine j_bipush (pc := 66) dX12_highest_66 rfl ?_
                exact j_iret (pc := 68) ⟨rfl, rfl⟩ dX12_highest_68 rfl ⟨_, rfl, ⟨by omega, by omega⟩, rfl, by omega⟩
              · refine j_bipush (pc := 61) dX12_highest_61 rfl ?_
                refine j_goto (pc := 63) (tgt := 68) dX12_highest_63 rfl ?_
                exact j_iret (pc := 68) ⟨rfl, rfl⟩ dX12_highest_68 rfl ⟨_, rfl, ⟨by omega, by omega⟩, rfl, by omega⟩
            · refine j_bipush (pc := 51) dX12_highest_51 rfl ?_
              refine j_goto (pc := 53) (tgt := 68) dX12_highest_53 rfl ?_
              exact j_iret (pc := 68) ⟨rfl, rfl⟩ dX12_highest_68 rfl ⟨_, rfl, ⟨by omega, by omega⟩, rfl, by omega⟩
          · refine j_bipush (pc := 41) dX12_highest_41 rfl ?_
            refine j_goto (pc := 43) (tgt := 68) dX12_highest_43 rfl ?_
            exact j_iret (pc := 68) ⟨rfl, rfl⟩ dX12_highest_68 rfl ⟨_, rfl, ⟨by omega, by omega⟩, rfl, by omega⟩
      · refine j_bipush (pc := 25) dX12_highest_25 rfl ?_
        refine j_goto (pc := 27) (tgt := 68) dX12_highest_27 rfl ?_
        exact j_iret (pc := 68) ⟨rfl, rfl⟩ dX12_highest_68 rfl ⟨_, rfl, ⟨by omega, by omega⟩, rfl, by omega⟩
    · refine j_sipush (pc := 14) dX12_highest_14 rfl ?_
      refine j_goto (pc := 17) (tgt := 68) dX12_highest_17 rfl ?_
      exact j_iret (pc := 68) ⟨rfl, rfl⟩ dX12_highest_68 rfl ⟨_, rfl, ⟨by omega, by omega⟩, rfl, by omega⟩
  · refine j_bipush (pc := 4) dX12_highest_4 rfl ?_
    refine j_goto (pc := 6) (tgt := 68) dX12_highest_6 rfl ?_
    exact j_iret (pc := 68) ⟨rfl, rfl⟩ dX12_highest_68 rfl ⟨_, rfl, ⟨by omega, by omega⟩, rfl, by omega⟩
