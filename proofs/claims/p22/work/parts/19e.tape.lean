/-! 19e.tape -/
theorem dX9_readWith_0 : decode cX9_readWith 0 = .ok (.aload_n 0, 1) := by decide +kernel
theorem dX9_readWith_1 : decode cX9_readWith 1 = .ok (.invokevirtual 45, 3) := by decide +kernel
theorem dX9_readWith_4 : decode cX9_readWith 4 = .ok (.iload_n 2, 1) := by decide +kernel
theorem dX9_readWith_5 : decode cX9_readWith 5 = .ok (.iconst 1, 1) := by decide +kernel
theorem dX9_readWith_6 : decode cX9_readWith 6 = .ok (.if_icmp .ne 16, 3) := by decide +kernel
theorem dX9_readWith_9 : decode cX9_readWith 9 = .ok (.aload_n 0, 1) := by decide +kernel
theorem dX9_readWith_10 : decode cX9_readWith 10 = .ok (.getfield 25, 3) := by decide +kernel
theorem dX9_readWith_13 : decode cX9_readWith 13 = .ok (.getfield 171, 3) := by decide +kernel
theorem dX9_readWith_16 : decode cX9_readWith 16 = .ok (.iload_n 1, 1) := by decide +kernel
theorem dX9_readWith_17 : decode cX9_readWith 17 = .ok (.iconst 1, 1) := by decide +kernel
theorem dX9_readWith_18 : decode cX9_readWith 18 = .ok (.iastore, 1) := by decide +kernel
theorem dX9_readWith_19 : decode cX9_readWith 19 = .ok (.goto 68, 3) := by decide +kernel
theorem dX9_readWith_22 : decode cX9_readWith 22 = .ok (.iload_n 2, 1) := by decide +kernel
theorem dX9_readWith_23 : decode cX9_readWith 23 = .ok (.iconst 2, 1) := by decide +kernel
theorem dX9_readWith_24 : decode cX9_readWith 24 = .ok (.if_icmp .ne 16, 3) := by decide +kernel
theorem dX9_readWith_27 : decode cX9_readWith 27 = .ok (.aload_n 0, 1) := by decide +kernel
theorem dX9_readWith_28 : decode cX9_readWith 28 = .ok (.getfield 25, 3) := by decide +kernel
theorem dX9_readWith_31 : decode cX9_readWith 31 = .ok (.getfield 173, 3) := by decide +kernel
theorem dX9_readWith_34 : decode cX9_readWith 34 = .ok (.iload_n 1, 1) := by decide +kernel
theorem dX9_readWith_35 : decode cX9_readWith 35 = .ok (.iconst 1, 1) := by decide +kernel
theorem dX9_readWith_36 : decode cX9_readWith 36 = .ok (.iastore, 1) := by decide +kernel
theorem dX9_readWith_37 : decode cX9_readWith 37 = .ok (.goto 50, 3) := by decide +kernel
theorem dX9_readWith_40 : decode cX9_readWith 40 = .ok (.iload_n 2, 1) := by decide +kernel
theorem dX9_readWith_41 : decode cX9_readWith 41 = .ok (.ifCond .ne 26, 3) := by decide +kernel
theorem dX9_readWith_44 : decode cX9_readWith 44 = .ok (.aload_n 0, 1) := by decide +kernel
theorem dX9_readWith_45 : decode cX9_readWith 45 = .ok (.getfield 25, 3) := by decide +kernel
theorem dX9_readWith_48 : decode cX9_readWith 48 = .ok (.getfield 175, 3) := by decide +kernel
theorem dX9_readWith_51 : decode cX9_readWith 51 = .ok (.iload_n 1, 1) := by decide +kernel
theorem dX9_readWith_52 : decode cX9_readWith 52 = .ok (.aload_n 0, 1) := by decide +kernel
theorem dX9_readWith_53 : decode cX9_readWith 53 = .ok (.iconst 1, 1) := by decide +kernel
theorem dX9_readWith_54 : decode cX9_readWith 54 = .ok (.bipush 10, 2) := by decide +kernel
theorem dX9_readWith_56 : decode cX9_readWith 56 = .ok (.invokevirtual 152, 3) := by decide +kernel
theorem dX9_readWith_59 : decode cX9_readWith 59 = .ok (.iastore, 1) := by decide +kernel
theorem dX9_readWith_60 : decode cX9_readWith 60 = .ok (.aload_n 0, 1) := by decide +kernel
theorem dX9_readWith_61 : decode cX9_readWith 61 = .ok (.invokevirtual 45, 3) := by decide +kernel
theorem dX9_readWith_64 : decode cX9_readWith 64 = .ok (.goto 23, 3) := by decide +kernel
theorem dX9_readWith_67 : decode cX9_readWith 67 = .ok (.aload_n 0, 1) := by decide +kernel
theorem dX9_readWith_68 : decode cX9_readWith 68 = .ok (.getfield 25, 3) := by decide +kernel
theorem dX9_readWith_71 : decode cX9_readWith 71 = .ok (.getfield 177, 3) := by decide +kernel
theorem dX9_readWith_74 : decode cX9_readWith 74 = .ok (.iload_n 1, 1) := by decide +kernel
theorem dX9_readWith_75 : decode cX9_readWith 75 = .ok (.aload_n 0, 1) := by decide +kernel
theorem dX9_readWith_76 : decode cX9_readWith 76 = .ok (.iconst 0, 1) := by decide +kernel
theorem dX9_readWith_77 : decode cX9_readWith 77 = .ok (.bipush 9, 2) := by decide +kernel
theorem dX9_readWith_79 : decode cX9_readWith 79 = .ok (.invokevirtual 152, 3) := by decide +kernel
theorem dX9_readWith_82 : decode cX9_readWith 82 = .ok (.iastore, 1) := by decide +kernel
theorem dX9_readWith_83 : decode cX9_readWith 83 = .ok (.aload_n 0, 1) := by decide +kernel
theorem dX9_readWith_84 : decode cX9_readWith 84 = .ok (.invokevirtual 45, 3) := by decide +kernel
theorem dX9_readWith_87 : decode cX9_readWith 87 = .ok (.return_, 1) := by decide +kernel
abbrev q_X9_readWith (h : Int) (w : Int) (σ : tw_M) : Option tw_V → tw_M → Prop := fun z τ => z = none ∧ tw_I τ ∧ tw_F (fun c j => (c = 10 ∧ (j = 5 ∨ j = 6 ∨ j = 7 ∨ j = 8 ∨ j = 11 ∨ j = 12)) ∨ (14 ≤ c ∧ c < 23)) σ τ ∧ (aX τ = withX (fX σ) h w (aX σ)) ∧ (¬ σ 10 5 ≤ σ 10 10 ∨ τ 10 5 ≤ σ 10 10) ∧ (¬ τ 10 11 = 0 ∨ (σ 10 11 = 0 ∧ σ 10 5 ≤ τ 10 5)) ∧ (¬ τ 10 11 = 0 ∨ τ 10 6 = 0 ∨ σ 10 5 < τ 10 5)
set_option maxHeartbeats 4000000 in
set_option maxRecDepth 100000 in
theorem c_X9_readWith {G : tw_G} (hX : tw_isX G) (h : Int) (hh : 1 ≤ h ∧ h ≤ 40) (w : Int) (hw : 0 ≤ w ∧ w ≤ 3) (σ : tw_M) (hI : tw_I σ) : tw_C G yX9_readWith cX9_readWith 3 none 3 [vR 10, vI h, vI w] σ (q_X9_readWith h w σ) := by
  refine tw_met [(0, vR 10), (1, vI h), (2, vI w)] (by decide +kernel) rfl (Nat.le_of_ble_eq_true rfl) ?_
  refine j_aload_n (pc := 0) dX9_readWith_0 rfl rfl ?_
  have fz : fX σ = fX σ := by first | rfl | exact fX_F ((tw_F_rf) 10 10 (show ¬ ((10 = 10 ∧ (10 = 5 ∨ 10 = 6 ∨ 10 = 7 ∨ 10 = 8 ∨ 10 = 11 ∨ 10 = 12)) ∨ (14 ≤ 10 ∧ 10 < 23)) from by decide)) (fun j => (tw_F_rf) 11 j (show ¬ ((11 = 10 ∧ (j = 5 ∨ j = 6 ∨ j = 7 ∨ j = 8 ∨ j = 11 ∨ j = 12)) ∨ (14 ≤ 11 ∧ 11 < 23)) from fun h => h.elim (fun h => absurd h.1 (by decide)) (fun h => absurd h (by decide))))
  refine j_callV (pc := 1) (As := []) (st := []) (c_X9_advance hX σ hI) mv_X9_45 rfl rfl rfl (a_10 hX) dX9_readWith_1 ⟨Nat.le_of_ble_eq_true rfl, Nat.le_of_ble_eq_true rfl⟩ ⟨Nat.le_refl _, Nat.le_refl _⟩ rfl (Nat.le_of_ble_eq_true rfl) rfl (fun z1 σ2 hz1 => ?_)
  obtain ⟨rfl, hIσ2, hGσ2, q3_0, q3_1, q3_2, q3_3⟩ := hz1
  replace q3_0 : aX σ2 = tok (fX σ) (aX σ) := q3_0
  replace q3_1 : ¬ σ 10 5 ≤ σ 10 10 ∨ σ2 10 5 ≤ σ 10 10 := q3_1
  replace q3_2 : ¬ σ 10 5 ≤ σ 10 10 ∨ ¬ σ2 10 11 = 0 ∨ ¬ σ2 10 6 = 0 ∨ σ2 10 7 = σ 10 10 := q3_2
  replace q3_3 : ¬ σ2 10 11 = 0 ∨ (σ 10 11 = 0 ∧ σ 10 5 ≤ σ2 10 5 ∧ (σ2 10 6 = 0 ∨ σ 10 5 < σ2 10 5)) := q3_3
  have hFσ2 : tw_F (fun c j => (c = 10 ∧ (j = 5 ∨ j = 6 ∨ j = 7 ∨ j = 8 ∨ j = 11 ∨ j = 12)) ∨ (14 ≤ c ∧ c < 23)) σ σ2 := tw_F_tr (tw_F_rf) hGσ2 (fun c j q => (show (c = 10 ∧ (j = 5 ∨ j = 6 ∨ j = 7 ∨ j = 8 ∨ j = 11 ∨ j = 12)) ∨ (14 ≤ c ∧ c < 23) from by replace q : (c = 10 ∧ (j = 5 ∨ j = 6 ∨ j = 7 ∨ j = 8 ∨ j = 11 ∨ j = 12)) := q; exact (Or.inl q)))
  refine j_st (st' := []) rfl ?_
  have c1 := q3_0; rw [fz] at c1
  refine j_iload_n (pc := 4) dX9_readWith_4 rfl rfl ?_
  refine j_iconst (pc := 5) dX9_readWith_5 ?_
  refine j_icmpR_ne (pc := 6) (tgt := 22) ⟨by omega, by omega⟩ ⟨by omega, by omega⟩ dX9_readWith_6 rfl (fun h5 => ?_) (fun h5 => ?_)
  · refine j_iload_n (pc := 22) dX9_readWith_22 rfl rfl ?_
    refine j_iconst (pc := 23) dX9_readWith_23 ?_
    refine j_icmpR_ne (pc := 24) (tgt := 40) ⟨by omega, by omega⟩ ⟨by omega, by omega⟩ dX9_readWith_24 rfl (fun h6 => ?_) (fun h6 => ?_)
    · refine j_iload_n (pc := 40) dX9_readWith_40 rfl rfl ?_
      refine j_ifR_ne (pc := 41) (tgt := 67) ⟨by omega, by omega⟩ dX9_readWith_41 rfl (fun h7 => ?_) (fun h7 => ?_)
      · refine j_aload_n (pc := 67) dX9_readWith_67 rfl rfl ?_
        refine j_getR (pc := 68) (r := 14) fl_X9_25 dX9_readWith_68 (a_10 hX) rfl ?_
        refine j_getR (pc := 71) (r := 21) fl_X9_177 dX9_readWith_71 (a_14 hX) rfl ?_
        refine j_iload_n (pc := 74) dX9_readWith_74 rfl rfl ?_
        refine j_aload_n (pc := 75) dX9_readWith_75 rfl rfl ?_
        refine j_iconst (pc := 76) dX9_readWith_76 ?_
        refine j_bipush (pc := 77) dX9_readWith_77 rfl ?_
        refine j_callV (pc := 79) (As := [vI 0, vI 9]) (st := [vI h, vR 21]) (c_X9_number hX 0 (by (first | decide | exact ⟨by omega, by omega⟩)) 9 (by (first | decide | exact ⟨by omega, by omega⟩)) σ2 hIσ2 (by omega)) mv_X9_152 rfl rfl rfl (a_10 hX) dX9_readWith_79 ⟨Nat.le_of_ble_eq_true rfl, Nat.le_of_ble_eq_true rfl⟩ ⟨Nat.le_refl _, Nat.le_refl _⟩ rfl (Nat.le_of_ble_eq_true rfl) rfl (fun z8 σ9 hz8 => ?_)
        obtain ⟨r11, rfl, hr11, hIσ9, hGσ9, q10_0, q10_1, q10_2, q10_3, q10_4, q10_5⟩ := hz8
        replace q10_0 : (0 : Int) ≤ r11 ∧ r11 ≤ (9 : Int) := q10_0
        replace q10_1 : aX σ9 = numS (0 : Int) (9 : Int) (aX σ2) := q10_1
        replace q10_2 : ¬ σ9 10 11 = 0 ∨ r11 = σ2 10 8 := q10_2
        replace q10_3 : ¬ σ9 10 11 = 0 ∨ σ2 10 11 = 0 := q10_3
        replace q10_4 : True ∨ σ2 10 6 = σ9 10 12 := q10_4
        replace q10_5 : ¬ σ9 10 11 = 0 ∨ σ2 10 6 = 2 := q10_5
        have hFσ9 : tw_F (fun c j => (c = 10 ∧ (j = 5 ∨ j = 6 ∨ j = 7 ∨ j = 8 ∨ j = 11 ∨ j = 12)) ∨ (14 ≤ c ∧ c < 23)) σ σ9 := tw_F_tr hFσ2 hGσ9 (fun c j q => (show (c = 10 ∧ (j = 5 ∨ j = 6 ∨ j = 7 ∨ j = 8 ∨ j = 11 ∨ j = 12)) ∨ (14 ≤ c ∧ c < 23) from by replace q : (c = 10 ∧ (j = 11 ∨ j = 12)) := q; exact (Or.inl ⟨q.1, (q.2.elim (fun z => (Or.inr (Or.inr (Or.inr (Or.inr (Or.inl z)))))) (fun z => (Or.inr (Or.inr (Or.inr (Or.inr (Or.inr z)))))))⟩)))
        refine j_st (st' := [vI r11, vI h, vR 21]) rfl ?_
        have c2 := q10_1
        have v2 := aX_numv q10_1 ((hGσ9 10 6 (show ¬ ((10 = 10 ∧ (6 = 11 ∨ 6 = 12))) from by decide))) ((hGσ9 10 8 (show ¬ ((10 = 10 ∧ (8 = 11 ∨ 8 = 12))) from by decide))) q10_2
        refine j_iast (pc := 82) dX9_readWith_82 (a_21 hX) (by omega) (by omega) (by decide) (j_nm (fun σ12 (eσ12 : σ12 = tw_up σ9 21 (h.toNat) r11) => ?_))
        have hIσ12 : tw_I σ12 := tw_I_up hIσ9 eσ12 (show (0 : Int) ≤ r11 ∧ r11 ≤ 9 from ⟨by omega, by omega⟩)
        have hFσ12 : tw_F (fun c j => (c = 10 ∧ (j = 5 ∨ j = 6 ∨ j = 7 ∨ j = 8 ∨ j = 11 ∨ j = 12)) ∨ (14 ≤ c ∧ c < 23)) σ σ12 := tw_F_up hFσ9 eσ12 (show (21 = 10 ∧ (h.toNat = 5 ∨ h.toNat = 6 ∨ h.toNat = 7 ∨ h.toNat = 8 ∨ h.toNat = 11 ∨ h.toNat = 12)) ∨ (14 ≤ 21 ∧ 21 < 23) from (Or.inr (by decide)))
        have c3 : aX σ12 = wr (ci 304 (5 * h)) ((aX σ9) 3) (aX σ9) := by rw [← ci5 (by omega)]; exact (aX_wr eσ12 (Or.inr (Or.inr (Or.inr (Or.inr (Or.inr (Or.inr (Or.inr (Or.inr (Or.inl ⟨rfl, by omega, by omega⟩)))))))))).trans (wr_cg v2)
        refine j_aload_n (pc := 83) dX9_readWith_83 rfl rfl ?_
        have fz : fX σ12 = fX σ := by first | rfl | exact fX_F (hFσ12 10 10 (show ¬ ((10 = 10 ∧ (10 = 5 ∨ 10 = 6 ∨ 10 = 7 ∨ 10 = 8 ∨ 10 = 11 ∨ 10 = 12)) ∨ (14 ≤ 10 ∧ 10 < 23)) from by decide)) (fun j => hFσ12 11 j (show ¬ ((11 = 10 ∧ (j = 5 ∨ j = 6 ∨ j = 7 ∨ j = 8 ∨ j = 11 ∨ j = 12)) ∨ (14 ≤ 11 ∧ 11 < 23)) from fun h => h.elim (fun h => absurd h.1 (by decide)) (fun h => absurd h (by decide))))
        refine j_callV (pc := 84) (As := []) (st := []) (c_X9_advance hX σ12 hIσ12) mv_X9_45 rfl rfl rfl (a_10 hX) dX9_readWith_84 ⟨Nat.le_of_ble_eq_true rfl, Nat.le_of_ble_eq_true rfl⟩ ⟨Nat.le_refl _, Nat.le_refl _⟩ rfl (Nat.le_of_ble_eq_true rfl) rfl (fun z13 σ14 hz13 => ?_)
        obtain ⟨rfl, hIσ14, hGσ14, q15_0, q15_1, q15_2, q15_3⟩ := hz13
        replace q15_0 : aX σ14 = tok (fX σ12) (aX σ12) := q15_0
        replace q15_1 : ¬ σ12 10 5 ≤ σ12 10 10 ∨ σ14 10 5 ≤ σ12 10 10 := q15_1
        have y17 : σ12 10 5 = σ2 10 5 := ((tw_ne1 eσ12 (by (first | decide | omega)))).trans (hGσ9 10 5 (show ¬ ((10 = 10 ∧ (5 = 11 ∨ 5 = 12))) from by decide))
        have f18 : (0 : Int) ≤ σ2 10 5 ∧ σ2 10 5 ≤ 400 := hIσ2 10 5
        have y19 : σ12 10 10 = σ 10 10 := (((tw_ne1 eσ12 (by (first | decide | omega)))).trans (hGσ9 10 10 (show ¬ ((10 = 10 ∧ (10 = 11 ∨ 10 = 12))) from by decide))).trans (hGσ2 10 10 (show ¬ ((10 = 10 ∧ (10 = 5 ∨ 10 = 6 ∨ 10 = 7 ∨ 10 = 8 ∨ 10 = 11 ∨ 10 = 12))) from by decide))
        have f20 : (0 : Int) ≤ σ 10 10 ∧ σ 10 10 ≤ 400 := hI 10 10
        replace q15_2 : ¬ σ12 10 5 ≤ σ12 10 10 ∨ ¬ σ14 10 11 = 0 ∨ ¬ σ14 10 6 = 0 ∨ σ14 10 7 = σ12 10 10 := q15_2
        have y21 : σ12 10 5 = σ2 10 5 := ((tw_ne1 eσ12 (by (first | decide | omega)))).trans (hGσ9 10 5 (show ¬ ((10 = 10 ∧ (5 = 11 ∨ 5 = 12))) from by decide))
        have y22 : σ12 10 10 = σ 10 10 := (((tw_ne1 eσ12 (by (first | decide | omega)))).trans (hGσ9 10 10 (show ¬ ((10 = 10 ∧ (10 = 11 ∨ 10 = 12))) from by decide))).trans (hGσ2 10 10 (show ¬ ((10 = 10 ∧ (10 = 5 ∨ 10 = 6 ∨ 10 = 7 ∨ 10 = 8 ∨ 10 = 11 ∨ 10 = 12))) from by decide))
        replace q15_3 : ¬ σ14 10 11 = 0 ∨ (σ12 10 11 = 0 ∧ σ12 10 5 ≤ σ14 10 5 ∧ (σ14 10 6 = 0 ∨ σ12 10 5 < σ14 10 5)) := q15_3
        have y23 : σ12 10 11 = σ9 10 11 := (tw_ne1 eσ12 (by (first | decide | omega)))
        have f24 : (0 : Int) ≤ σ9 10 11 ∧ σ9 10 11 ≤ 5 := hIσ9 10 11
        have y25 : σ12 10 5 = σ2 10 5 := ((tw_ne1 eσ12 (by (first | decide | omega)))).trans (hGσ9 10 5 (show ¬ ((10 = 10 ∧ (5 = 11 ∨ 5 = 12))) from by decide))
        have hFσ14 : tw_F (fun c j => (c = 10 ∧ (j = 5 ∨ j = 6 ∨ j = 7 ∨ j = 8 ∨ j = 11 ∨ j = 12)) ∨ (14 ≤ c ∧ c < 23)) σ σ14 := tw_F_tr hFσ12 hGσ14 (fun c j q => (show (c = 10 ∧ (j = 5 ∨ j = 6 ∨ j = 7 ∨ j = 8 ∨ j = 11 ∨ j = 12)) ∨ (14 ≤ c ∧ c < 23) from by replace q : (c = 10 ∧ (j = 5 ∨ j = 6 ∨ j = 7 ∨ j = 8 ∨ j = 11 ∨ j = 12)) := q; exact (Or.inl q)))
        refine j_st (st' := []) rfl ?_
        have c4 := q15_0; rw [fz] at c4
        have cc : aX σ14 = withX (fX σ) h w (aX σ) := with_3 (by omega) c1 c2 c3 c4
        exact j_vret (pc := 87) ⟨rfl, rfl⟩ dX9_readWith_87 rfl ⟨rfl, hIσ14, hFσ14, cc, (by clear q3_0 q3_2 q3_3 q10_0 q10_1 q10_2 q10_3 q10_4 q10_5 q15_0 q15_2 q15_3; omega), (by clear q3_0 q3_1 q3_2 q10_0 q10_1 q10_2 q10_4 q10_5 q15_0 q15_1 q15_2; omega), (by clear q3_0 q3_1 q3_2 q10_0 q10_1 q10_2 q10_4 q10_5 q15_0 q15_1 q15_2; omega)⟩
      · refine j_aload_n (pc := 44) dX9_readWith_44 rfl rfl ?_
        refine j_getR (pc := 45) (r := 14) fl_X9_25 dX9_readWith_45 (a_10 hX) rfl ?_
        refine j_getR (pc := 48) (r := 18) fl_X9_175 dX9_readWith_48 (a_14 hX) rfl ?_
        refine j_iload_n (pc := 51) dX9_readWith_51 rfl rfl ?_
        refine j_aload_n (pc := 52) dX9_readWith_52 rfl rfl ?_
        refine j_iconst (pc := 53) dX9_readWith_53 ?_
        refine j_bipush (pc := 54) dX9_readWith_54 rfl ?_
        refine j_callV (pc := 56) (As := [vI 1, vI 10]) (st := [vI h, vR 18]) (c_X9_number hX 1 (by (first | decide | exact ⟨by omega, by omega⟩)) 10 (by (first | decide | exact ⟨by omega, by omega⟩)) σ2 hIσ2 (by omega)) mv_X9_152 rfl rfl rfl (a_10 hX) dX9_readWith_56 ⟨Nat.le_of_ble_eq_true rfl, Nat.le_of_ble_eq_true rfl⟩ ⟨Nat.le_refl _, Nat.le_refl _⟩ rfl (Nat.le_of_ble_eq_true rfl) rfl (fun z26 σ27 hz26 => ?_)
        obtain ⟨r29, rfl, hr29, hIσ27, hGσ27, q28_0, q28_1, q28_2, q28_3, q28_4, q28_5⟩ := hz26
        replace q28_0 : (1 : Int) ≤ r29 ∧ r29 ≤ (10 : Int) := q28_0
        replace q28_1 : aX σ27 = numS (1 : Int) (10 : Int) (aX σ2) := q28_1
        replace q28_2 : ¬ σ27 10 11 = 0 ∨ r29 = σ2 10 8 := q28_2
        replace q28_3 : ¬ σ27 10 11 = 0 ∨ σ2 10 11 = 0 := q28_3
        replace q28_4 : True ∨ σ2 10 6 = σ27 10 12 := q28_4
        replace q28_5 : ¬ σ27 10 11 = 0 ∨ σ2 10 6 = 2 := q28_5
        have hFσ27 : tw_F (fun c j => (c = 10 ∧ (j = 5 ∨ j = 6 ∨ j = 7 ∨ j = 8 ∨ j = 11 ∨ j = 12)) ∨ (14 ≤ c ∧ c < 23)) σ σ27 := tw_F_tr hFσ2 hGσ27 (fun c j q => (show (c = 10 ∧ (j = 5 ∨ j = 6 ∨ j = 7 ∨ j = 8 ∨ j = 11 ∨ j = 12)) ∨ (14 ≤ c ∧ c < 23) from by replace q : (c = 10 ∧ (j = 11 ∨ j = 12)) := q; exact (Or.inl ⟨q.1, (q.2.elim (fun z => (Or.inr (Or.inr (Or.inr (Or.inr (Or.inl z)))))) (fun z => (Or.inr (Or.inr (Or.inr (Or.inr (Or.inr z)))))))⟩)))
        refine j_st (st' := [vI r29, vI h, vR 18]) rfl ?_
        have c2 := q28_1
        have v2 := aX_numv q28_1 ((hGσ27 10 6 (show ¬ ((10 = 10 ∧ (6 = 11 ∨ 6 = 12))) from by decide))) ((hGσ27 10 8 (show ¬ ((10 = 10 ∧ (8 = 11 ∨ 8 = 12))) from by decide))) q28_2
        refine j_iast (pc := 59) dX9_readWith_59 (a_18 hX) (by omega) (by omega) (by decide) (j_nm (fun σ30 (eσ30 : σ30 = tw_up σ27 18 (h.toNat) r29) => ?_))
        have hIσ30 : tw_I σ30 := tw_I_up hIσ27 eσ30 (show (0 : Int) ≤ r29 ∧ r29 ≤ 10 from ⟨by omega, by omega⟩)
        have hFσ30 : tw_F (fun c j => (c = 10 ∧ (j = 5 ∨ j = 6 ∨ j = 7 ∨ j = 8 ∨ j = 11 ∨ j = 12)) ∨ (14 ≤ c ∧ c < 23)) σ σ30 := tw_F_up hFσ27 eσ30 (show (18 = 10 ∧ (h.toNat = 5 ∨ h.toNat = 6 ∨ h.toNat = 7 ∨ h.toNat = 8 ∨ h.toNat = 11 ∨ h.toNat = 12)) ∨ (14 ≤ 18 ∧ 18 < 23) from (Or.inr (by decide)))
        have c3 : aX σ30 = wr (ci 301 (5 * h)) ((aX σ27) 3) (aX σ27) := by rw [← ci5 (by omega)]; exact (aX_wr eσ30 (Or.inr (Or.inr (Or.inr (Or.inr (Or.inr (Or.inl ⟨rfl, by omega, by omega⟩))))))).trans (wr_cg v2)
        refine j_aload_n (pc := 60) dX9_readWith_60 rfl rfl ?_
        have fz : fX σ30 = fX σ := by first | rfl | exact fX_F (hFσ30 10 10 (show ¬ ((10 = 10 ∧ (10 = 5 ∨ 10 = 6 ∨ 10 = 7 ∨ 10 = 8 ∨ 10 = 11 ∨ 10 = 12)) ∨ (14 ≤ 10 ∧ 10 < 23)) from by decide)) (fun j => hFσ30 11 j (show ¬ ((11 = 10 ∧ (j = 5 ∨ j = 6 ∨ j = 7 ∨ j = 8 ∨ j = 11 ∨ j = 12)) ∨ (14 ≤ 11 ∧ 11 < 23)) from fun h => h.elim (fun h => absurd h.1 (by decide)) (fun h => absurd h (by decide))))
        refine j_callV (pc := 61) (As := []) (st := []) (c_X9_advance hX σ30 hIσ30) mv_X9_45 rfl rfl rfl (a_10 hX) dX9_readWith_61 ⟨Nat.le_of_ble_eq_true rfl, Nat.le_of_ble_eq_true rfl⟩ ⟨Nat.le_refl _, Nat.le_refl _⟩ rfl (Nat.le_of_ble_eq_true rfl) rfl (fun z31 σ32 hz31 => ?_)
        obtain ⟨rfl, hIσ32, hGσ32, q33_0, q33_1, q33_2, q33_3⟩ := hz31
        replace q33_0 : aX σ32 = tok (fX σ30) (aX σ30) := q33_0
        replace q33_1 : ¬ σ30 10 5 ≤ σ30 10 10 ∨ σ32 10 5 ≤ σ30 10 10 := q33_1
        have y35 : σ30 10 5 = σ2 10 5 := ((tw_ne1 eσ30 (by (first | decide | omega)))).trans (hGσ27 10 5 (show ¬ ((10 = 10 ∧ (5 = 11 ∨ 5 = 12))) from by decide))
        have f36 : (0 : Int) ≤ σ2 10 5 ∧ σ2 10 5 ≤ 400 := hIσ2 10 5
        have y37 : σ30 10 10 = σ 10 10 := (((tw_ne1 eσ30 (by (first | decide | omega)))).trans (hGσ27 10 10 (show ¬ ((10 = 10 ∧ (10 = 11 ∨ 10 = 12))) from by decide))).trans (hGσ2 10 10 (show ¬ ((10 = 10 ∧ (10 = 5 ∨ 10 = 6 ∨ 10 = 7 ∨ 10 = 8 ∨ 10 = 11 ∨ 10 = 12))) from by decide))
        have f38 : (0 : Int) ≤ σ 10 10 ∧ σ 10 10 ≤ 400 := hI 10 10
        replace q33_2 : ¬ σ30 10 5 ≤ σ30 10 10 ∨ ¬ σ32 10 11 = 0 ∨ ¬ σ32 10 6 = 0 ∨ σ32 10 7 = σ30 10 10 := q33_2
        have y39 : σ30 10 5 = σ2 10 5 := ((tw_ne1 eσ30 (by (first | decide | omega)))).trans (hGσ27 10 5 (show ¬ ((10 = 10 ∧ (5 = 11 ∨ 5 = 12))) from by decide))
        have y40 : σ30 10 10 = σ 10 10 := (((tw_ne1 eσ30 (by (first | decide | omega)))).trans (hGσ27 10 10 (show ¬ ((10 = 10 ∧ (10 = 11 ∨ 10 = 12))) from by decide))).trans (hGσ2 10 10 (show ¬ ((10 = 10 ∧ (10 = 5 ∨ 10 = 6 ∨ 10 = 7 ∨ 10 = 8 ∨ 10 = 11 ∨ 10 = 12))) from by decide))
        replace q33_3 : ¬ σ32 10 11 = 0 ∨ (σ30 10 11 = 0 ∧ σ30 10 5 ≤ σ32 10 5 ∧ (σ32 10 6 = 0 ∨ σ30 10 5 < σ32 10 5)) := q33_3
        have y41 : σ30 10 11 = σ27 10 11 := (tw_ne1 eσ30 (by (first | decide | omega)))
        have f42 : (0 : Int) ≤ σ27 10 11 ∧ σ27 10 11 ≤ 5 := hIσ27 10 11
        have y43 : σ30 10 5 = σ2 10 5 := ((tw_ne1 eσ30 (by (first | decide | omega)))).trans (hGσ27 10 5 (show ¬ ((10 = 10 ∧ (5 = 11 ∨ 5 = 12))) from by decide))
        have hFσ32 : tw_F (fun c j => (c = 10 ∧ (j = 5 ∨ j = 6 ∨ j = 7 ∨ j = 8 ∨ j = 11 ∨ j = 12)) ∨ (14 ≤ c ∧ c < 23)) σ σ32 := tw_F_tr hFσ30 hGσ32 (fun c j q => (show (c = 10 ∧ (j = 5 ∨ j = 6 ∨ j = 7 ∨ j = 8 ∨ j = 11 ∨ j = 12)) ∨ (14 ≤ c ∧ c < 23) from by replace q : (c = 10 ∧ (j = 5 ∨ j = 6 ∨ j = 7 ∨ j = 8 ∨ j = 11 ∨ j = 12)) := q; exact (Or.inl q)))
        refine j_st (st' := []) rfl ?_
        have c4 := q33_0; rw [fz] at c4
        have cc : aX σ32 = withX (fX σ) h w (aX σ) := with_0 (by omega) c1 c2 c3 c4
        refine j_goto (pc := 64) (tgt := 87) dX9_readWith_64 rfl ?_
        exact j_vret (pc := 87) ⟨rfl, rfl⟩ dX9_readWith_87 rfl ⟨rfl, hIσ32, hFσ32, cc, (by clear q3_0 q3_2 q3_3 q28_0 q28_1 q28_2 q28_3 q28_4 q28_5 q33_0 q33_2 q33_3; omega), (by clear q3_0 q3_1 q3_2 q28_0 q28_1 q28_2 q28_4 q28_5 q33_0 q33_1 q33_2; omega), (by clear q3_0 q3_1 q3_2 q28_0 q28_1 q28_2 q28_4 q28_5 q33_0 q33_1 q33_2; omega)⟩
    · refine j_aload_n (pc := 27) dX9_readWith_27 rfl rfl ?_
      refine j_getR (pc := 28) (r := 14) fl_X9_25 dX9_readWith_28 (a_10 hX) rfl ?_
      refine j_getR (pc := 31) (r := 20) fl_X9_173 dX9_readWith_31 (a_14 hX) rfl ?_
      refine j_iload_n (pc := 34) dX9_readWith_34 rfl rfl ?_
      refine j_iconst (pc := 35) dX9_readWith_35 ?_
      refine j_iast (pc := 36) dX9_readWith_36 (a_20 hX) (by omega) (by omega) (by decide) (j_nm (fun σ44 (eσ44 : σ44 = tw_up σ2 20 (h.toNat) 1) => ?_))
      have hIσ44 : tw_I σ44 := tw_I_up hIσ2 eσ44 (show (0 : Int) ≤ 1 ∧ 1 ≤ 1 from by decide)
      have hFσ44 : tw_F (fun c j => (c = 10 ∧ (j = 5 ∨ j = 6 ∨ j = 7 ∨ j = 8 ∨ j = 11 ∨ j = 12)) ∨ (14 ≤ c ∧ c < 23)) σ σ44 := tw_F_up hFσ2 eσ44 (show (20 = 10 ∧ (h.toNat = 5 ∨ h.toNat = 6 ∨ h.toNat = 7 ∨ h.toNat = 8 ∨ h.toNat = 11 ∨ h.toNat = 12)) ∨ (14 ≤ 20 ∧ 20 < 23) from (Or.inr (by decide)))
      have c2 : aX σ44 = wr (ci 303 (5 * h)) 1 (aX σ2) := by rw [← ci5 (by omega)]; exact aX_wr eσ44 (Or.inr (Or.inr (Or.inr (Or.inr (Or.inr (Or.inr (Or.inr (Or.inl ⟨rfl, by omega, by omega⟩))))))))
      have cc : aX σ44 = withX (fX σ) h w (aX σ) := with_2 (by omega) c1 c2
      refine j_goto (pc := 37) (tgt := 87) dX9_readWith_37 rfl ?_
      have y45 : σ44 10 5 = σ2 10 5 := (tw_ne1 eσ44 (by (first | decide | omega)))
      have f46 : (0 : Int) ≤ σ2 10 5 ∧ σ2 10 5 ≤ 400 := hIσ2 10 5
      have y47 : σ44 10 11 = σ2 10 11 := (tw_ne1 eσ44 (by (first | decide | omega)))
      have f48 : (0 : Int) ≤ σ2 10 11 ∧ σ2 10 11 ≤ 5 := hIσ2 10 11
      have y49 : σ44 10 5 = σ2 10 5 := (tw_ne1 eσ44 (by (first | decide | omega)))
      have y50 : σ44 10 11 = σ2 10 11 := (tw_ne1 eσ44 (by (first | decide | omega)))
      have y51 : σ44 10 6 = σ2 10 6 := (tw_ne1 eσ44 (by (first | decide | omega)))
      have f52 : (0 : Int) ≤ σ2 10 6 ∧ σ2 10 6 ≤ 3 := hIσ2 10 6
      have y53 : σ44 10 5 = σ2 10 5 := (tw_ne1 eσ44 (by (first | decide | omega)))
      exact j_vret (pc := 87) ⟨rfl, rfl⟩ dX9_readWith_87 rfl ⟨rfl, hIσ44, hFσ44, cc, (by clear q3_0 q3_2 q3_3; omega), (by clear q3_0 q3_1 q3_2; omega), (by clear q3_0 q3_1 q3_2; omega)⟩
  · refine j_aload_n (pc := 9) dX9_readWith_9 rfl rfl ?_
    refine j_getR (pc := 10) (r := 14) fl_X9_25 dX9_readWith_10 (a_10 hX) rfl ?_
    refine j_getR (pc := 13) (r := 19) fl_X9_171 dX9_readWith_13 (a_14 hX) rfl ?_
    refine j_iload_n (pc := 16) dX9_readWith_16 rfl rfl ?_
    refine j_iconst (pc := 17) dX9_readWith_17 ?_
    refine j_iast (pc := 18) dX9_readWith_18 (a_19 hX) (by omega) (by omega) (by decide) (j_nm (fun σ54 (eσ54 : σ54 = tw_up σ2 19 (h.toNat) 1) => ?_))
    have hIσ54 : tw_I σ54 := tw_I_up hIσ2 eσ54 (show (0 : Int) ≤ 1 ∧ 1 ≤ 1 from by decide)
    have hFσ54 : tw_F (fun c j => (c = 10 ∧ (j = 5 ∨ j = 6 ∨ j = 7 ∨ j = 8 ∨ j = 11 ∨ j = 12)) ∨ (14 ≤ c ∧ c < 23)) σ σ54 := tw_F_up hFσ2 eσ54 (show (19 = 10 ∧ (h.toNat = 5 ∨ h.toNat = 6 ∨ h.toNat = 7 ∨ h.toNat = 8 ∨ h.toNat = 11 ∨ h.toNat = 12)) ∨ (14 ≤ 19 ∧ 19 < 23) from (Or.inr (by decide)))
    have c2 : aX σ54 = wr (ci 302 (5 * h)) 1 (aX σ2) := by rw [← ci5 (by omega)]; exact aX_wr eσ54 (Or.inr (Or.inr (Or.inr (Or.inr (Or.inr (Or.inr (Or.inl ⟨rfl, by omega, by omega⟩)))))))
    have cc : aX σ54 = withX (fX σ) h w (aX σ) := with_1 (by omega) c1 c2
    refine j_goto (pc := 19) (tgt := 87) dX9_readWith_19 rfl ?_
    have y55 : σ54 10 5 = σ2 10 5 := (tw_ne1 eσ54 (by (first | decide | omega)))
    have f56 : (0 : Int) ≤ σ2 10 5 ∧ σ2 10 5 ≤ 400 := hIσ2 10 5
    have y57 : σ54 10 11 = σ2 10 11 := (tw_ne1 eσ54 (by (first | decide | omega)))
    have f58 : (0 : Int) ≤ σ2 10 11 ∧ σ2 10 11 ≤ 5 := hIσ2 10 11
    have y59 : σ54 10 5 = σ2 10 5 := (tw_ne1 eσ54 (by (first | decide | omega)))
    have y60 : σ54 10 11 = σ2 10 11 := (tw_ne1 eσ54 (by (first | decide | omega)))
    have y61 : σ54 10 6 = σ2 10 6 := (tw_ne1 eσ54 (by (first | decide | omega)))
    have f62 : (0 : Int) ≤ σ2 10 6 ∧ σ2 10 6 ≤ 3 := hIσ2 10 6
    have y63 : σ54 10 5 = σ2 10 5 := (tw_ne1 eσ54 (by (first | decide | omega)))
    exact j_vret (pc := 87) ⟨rfl, rfl⟩ dX9_readWith_87 rfl ⟨rfl, hIσ54, hFσ54, cc, (by clear q3_0 q3_2 q3_3; omega), (by clear q3_0 q3_1 q3_2; omega), (by clear q3_0 q3_1 q3_2; omega)⟩
