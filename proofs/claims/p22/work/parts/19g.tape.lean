/-! 19g.tape -/
theorem dX9_rackLine_0 : decode cX9_rackLine 0 = .ok (.aload_n 0, 1) := by decide +kernel
theorem dX9_rackLine_1 : decode cX9_rackLine 1 = .ok (.iconst 1, 1) := by decide +kernel
theorem dX9_rackLine_2 : decode cX9_rackLine 2 = .ok (.bipush 10, 2) := by decide +kernel
theorem dX9_rackLine_4 : decode cX9_rackLine 4 = .ok (.invokevirtual 152, 3) := by decide +kernel
theorem dX9_rackLine_7 : decode cX9_rackLine 7 = .ok (.istore_n 1, 1) := by decide +kernel
theorem dX9_rackLine_8 : decode cX9_rackLine 8 = .ok (.aload_n 0, 1) := by decide +kernel
theorem dX9_rackLine_9 : decode cX9_rackLine 9 = .ok (.getfield 19, 3) := by decide +kernel
theorem dX9_rackLine_12 : decode cX9_rackLine 12 = .ok (.iload_n 1, 1) := by decide +kernel
theorem dX9_rackLine_13 : decode cX9_rackLine 13 = .ok (.baload, 1) := by decide +kernel
theorem dX9_rackLine_14 : decode cX9_rackLine 14 = .ok (.ifCond .eq 12, 3) := by decide +kernel
theorem dX9_rackLine_17 : decode cX9_rackLine 17 = .ok (.aload_n 0, 1) := by decide +kernel
theorem dX9_rackLine_18 : decode cX9_rackLine 18 = .ok (.iconst 4, 1) := by decide +kernel
theorem dX9_rackLine_19 : decode cX9_rackLine 19 = .ok (.aload_n 0, 1) := by decide +kernel
theorem dX9_rackLine_20 : decode cX9_rackLine 20 = .ok (.getfield 76, 3) := by decide +kernel
theorem dX9_rackLine_23 : decode cX9_rackLine 23 = .ok (.invokevirtual 61, 3) := by decide +kernel
theorem dX9_rackLine_26 : decode cX9_rackLine 26 = .ok (.aload_n 0, 1) := by decide +kernel
theorem dX9_rackLine_27 : decode cX9_rackLine 27 = .ok (.getfield 33, 3) := by decide +kernel
theorem dX9_rackLine_30 : decode cX9_rackLine 30 = .ok (.ifCond .eq 4, 3) := by decide +kernel
theorem dX9_rackLine_33 : decode cX9_rackLine 33 = .ok (.return_, 1) := by decide +kernel
theorem dX9_rackLine_34 : decode cX9_rackLine 34 = .ok (.aload_n 0, 1) := by decide +kernel
theorem dX9_rackLine_35 : decode cX9_rackLine 35 = .ok (.getfield 19, 3) := by decide +kernel
theorem dX9_rackLine_38 : decode cX9_rackLine 38 = .ok (.iload_n 1, 1) := by decide +kernel
theorem dX9_rackLine_39 : decode cX9_rackLine 39 = .ok (.iconst 1, 1) := by decide +kernel
theorem dX9_rackLine_40 : decode cX9_rackLine 40 = .ok (.bastore, 1) := by decide +kernel
theorem dX9_rackLine_41 : decode cX9_rackLine 41 = .ok (.aload_n 0, 1) := by decide +kernel
theorem dX9_rackLine_42 : decode cX9_rackLine 42 = .ok (.invokevirtual 45, 3) := by decide +kernel
theorem dX9_rackLine_45 : decode cX9_rackLine 45 = .ok (.aload_n 0, 1) := by decide +kernel
theorem dX9_rackLine_46 : decode cX9_rackLine 46 = .ok (.getfield 25, 3) := by decide +kernel
theorem dX9_rackLine_49 : decode cX9_rackLine 49 = .ok (.getfield 179, 3) := by decide +kernel
theorem dX9_rackLine_52 : decode cX9_rackLine 52 = .ok (.iload_n 1, 1) := by decide +kernel
theorem dX9_rackLine_53 : decode cX9_rackLine 53 = .ok (.aload_n 0, 1) := by decide +kernel
theorem dX9_rackLine_54 : decode cX9_rackLine 54 = .ok (.iconst 0, 1) := by decide +kernel
theorem dX9_rackLine_55 : decode cX9_rackLine 55 = .ok (.iconst 5, 1) := by decide +kernel
theorem dX9_rackLine_56 : decode cX9_rackLine 56 = .ok (.invokevirtual 152, 3) := by decide +kernel
theorem dX9_rackLine_59 : decode cX9_rackLine 59 = .ok (.iastore, 1) := by decide +kernel
theorem dX9_rackLine_60 : decode cX9_rackLine 60 = .ok (.aload_n 0, 1) := by decide +kernel
theorem dX9_rackLine_61 : decode cX9_rackLine 61 = .ok (.invokevirtual 45, 3) := by decide +kernel
theorem dX9_rackLine_64 : decode cX9_rackLine 64 = .ok (.return_, 1) := by decide +kernel
abbrev q_X9_rackLine  (σ : tw_M) : Option tw_V → tw_M → Prop := fun z τ => z = none ∧ tw_I τ ∧ tw_F (fun c j => (c = 10 ∧ (j = 5 ∨ j = 6 ∨ j = 7 ∨ j = 8 ∨ j = 11 ∨ j = 12)) ∨ c = 13 ∨ (14 ≤ c ∧ c < 23)) σ τ ∧ (aX τ = rackX (fX σ) (aX σ)) ∧ (¬ σ 10 5 ≤ σ 10 10 ∨ τ 10 5 ≤ σ 10 10) ∧ (¬ τ 10 11 = 0 ∨ (σ 10 11 = 0 ∧ σ 10 5 ≤ τ 10 5))
set_option maxHeartbeats 4000000 in
set_option maxRecDepth 100000 in
theorem c_X9_rackLine {G : tw_G} (hX : tw_isX G) (σ : tw_M) (hI : tw_I σ) : tw_C G yX9_rackLine cX9_rackLine 2 none 3 [vR 10] σ (q_X9_rackLine σ) := by
  refine tw_met [(0, vR 10)] (by decide +kernel) rfl (Nat.le_of_ble_eq_true rfl) ?_
  refine j_aload_n (pc := 0) dX9_rackLine_0 rfl rfl ?_
  refine j_iconst (pc := 1) dX9_rackLine_1 ?_
  refine j_bipush (pc := 2) dX9_rackLine_2 rfl ?_
  refine j_callV (pc := 4) (As := [vI 1, vI 10]) (st := []) (c_X9_number hX 1 (by (first | decide | exact ⟨by omega, by omega⟩)) 10 (by (first | decide | exact ⟨by omega, by omega⟩)) σ hI (by omega)) mv_X9_152 rfl rfl rfl (a_10 hX) dX9_rackLine_4 ⟨Nat.le_of_ble_eq_true rfl, Nat.le_of_ble_eq_true rfl⟩ ⟨Nat.le_refl _, Nat.le_refl _⟩ rfl (Nat.le_of_ble_eq_true rfl) rfl (fun z1 σ2 hz1 => ?_)
  obtain ⟨r4, rfl, hr4, hIσ2, hGσ2, q3_0, q3_1, q3_2, q3_3, q3_4, q3_5⟩ := hz1
  replace q3_0 : (1 : Int) ≤ r4 ∧ r4 ≤ (10 : Int) := q3_0
  replace q3_1 : aX σ2 = numS (1 : Int) (10 : Int) (aX σ) := q3_1
  replace q3_2 : ¬ σ2 10 11 = 0 ∨ r4 = σ 10 8 := q3_2
  replace q3_3 : ¬ σ2 10 11 = 0 ∨ σ 10 11 = 0 := q3_3
  replace q3_4 : True ∨ σ 10 6 = σ2 10 12 := q3_4
  replace q3_5 : ¬ σ2 10 11 = 0 ∨ σ 10 6 = 2 := q3_5
  have hFσ2 : tw_F (fun c j => (c = 10 ∧ (j = 5 ∨ j = 6 ∨ j = 7 ∨ j = 8 ∨ j = 11 ∨ j = 12)) ∨ c = 13 ∨ (14 ≤ c ∧ c < 23)) σ σ2 := tw_F_tr (tw_F_rf) hGσ2 (fun c j q => (show (c = 10 ∧ (j = 5 ∨ j = 6 ∨ j = 7 ∨ j = 8 ∨ j = 11 ∨ j = 12)) ∨ c = 13 ∨ (14 ≤ c ∧ c < 23) from by replace q : (c = 10 ∧ (j = 11 ∨ j = 12)) := q; exact (Or.inl ⟨q.1, (q.2.elim (fun z => (Or.inr (Or.inr (Or.inr (Or.inr (Or.inl z)))))) (fun z => (Or.inr (Or.inr (Or.inr (Or.inr (Or.inr z)))))))⟩)))
  refine j_st (st' := [vI r4]) rfl ?_
  have c1 := q3_1
  have v1 := aX_numv q3_1 ((hGσ2 10 6 (show ¬ ((10 = 10 ∧ (6 = 11 ∨ 6 = 12))) from by decide))) ((hGσ2 10 8 (show ¬ ((10 = 10 ∧ (8 = 11 ∨ 8 = 12))) from by decide))) q3_2
  have y5 : σ2 10 7 = σ 10 7 := (hGσ2 10 7 (show ¬ ((10 = 10 ∧ (7 = 11 ∨ 7 = 12))) from by decide))
  refine j_istore_n (pc := 7) (i := 1) (ls' := [(0, vR 10), (1, vI r4)]) [1, 0] dX9_rackLine_7 rfl (Nat.le_of_ble_eq_true rfl) rfl rfl ?_
  refine j_aload_n (pc := 8) dX9_rackLine_8 rfl rfl ?_
  refine j_getR (pc := 9) (r := 13) fl_X9_19 dX9_rackLine_9 (a_10 hX) rfl ?_
  refine j_iload_n (pc := 12) dX9_rackLine_12 rfl rfl ?_
  refine j_zald (pc := 13) dX9_rackLine_13 (a_13 hX) (by omega) (by omega) (by decide) ?_
  refine j_topV (show σ2 13 (r4.toNat) = σ 13 (r4.toNat) from (hGσ2 13 (r4.toNat) (show ¬ ((13 = 10 ∧ (r4.toNat = 11 ∨ r4.toNat = 12))) from fun h => absurd h.1 (by decide)))) ?_
  have f6 : (0 : Int) ≤ σ 13 (r4.toNat) ∧ σ 13 (r4.toNat) ≤ 1 := hI 13 (r4.toNat)
  have yt : σ2 13 (r4.toNat) = σ 13 (r4.toNat) := (hGσ2 13 (r4.toNat) (show ¬ ((13 = 10 ∧ (r4.toNat = 11 ∨ r4.toNat = 12))) from fun h => absurd h.1 (by decide)))
  refine j_ifR_eq (pc := 14) (tgt := 26) ⟨by omega, by omega⟩ dX9_rackLine_14 rfl (fun h7 => ?_) (fun h7 => ?_)
  · have c2 := aX_needt (σ := σ2) (c := 4) (fun h0 => told_t h0 v1 ⟨by omega, by omega⟩ (by omega))
    refine j_aload_n (pc := 26) dX9_rackLine_26 rfl rfl ?_
    refine j_getI (pc := 27) fl_X9_33 dX9_rackLine_27 (a_10 hX) rfl ?_
    have f8 : (0 : Int) ≤ σ2 10 11 ∧ σ2 10 11 ≤ 5 := hIσ2 10 11
    refine j_ifR_eq (pc := 30) (tgt := 34) ⟨by omega, by omega⟩ dX9_rackLine_30 rfl (fun h9 => ?_) (fun h9 => ?_)
    · refine j_aload_n (pc := 34) dX9_rackLine_34 rfl rfl ?_
      refine j_getR (pc := 35) (r := 13) fl_X9_19 dX9_rackLine_35 (a_10 hX) rfl ?_
      refine j_iload_n (pc := 38) dX9_rackLine_38 rfl rfl ?_
      refine j_iconst (pc := 39) dX9_rackLine_39 ?_
      refine j_zast (pc := 40) (by omega) dX9_rackLine_40 (a_13 hX) (by omega) (by omega) (by decide) (j_nm (fun σ10 (eσ10 : σ10 = tw_up σ2 13 (r4.toNat) 1) => ?_))
      have hIσ10 : tw_I σ10 := tw_I_up hIσ2 eσ10 (show (0 : Int) ≤ 1 ∧ 1 ≤ 1 from by decide)
      have hFσ10 : tw_F (fun c j => (c = 10 ∧ (j = 5 ∨ j = 6 ∨ j = 7 ∨ j = 8 ∨ j = 11 ∨ j = 12)) ∨ c = 13 ∨ (14 ≤ c ∧ c < 23)) σ σ10 := tw_F_up hFσ2 eσ10 (show (13 = 10 ∧ (r4.toNat = 5 ∨ r4.toNat = 6 ∨ r4.toNat = 7 ∨ r4.toNat = 8 ∨ r4.toNat = 11 ∨ r4.toNat = 12)) ∨ 13 = 13 ∨ (14 ≤ 13 ∧ 13 < 23) from (Or.inr (Or.inl rfl)))
      have c3 := (aX_wr (i := 700 + r4.toNat) eσ10 (Or.inr (Or.inr (Or.inr (Or.inr (Or.inr (Or.inr (Or.inr (Or.inr (Or.inr (Or.inr ⟨rfl, by omega, by omega⟩))))))))))).trans (wr_at v1 (fun h4 => by rw [aX_4] at h4 ⊢; omega))
      refine j_aload_n (pc := 41) dX9_rackLine_41 rfl rfl ?_
      have fz : fX σ10 = fX σ := by first | rfl | exact fX_F (hFσ10 10 10 (show ¬ ((10 = 10 ∧ (10 = 5 ∨ 10 = 6 ∨ 10 = 7 ∨ 10 = 8 ∨ 10 = 11 ∨ 10 = 12)) ∨ 10 = 13 ∨ (14 ≤ 10 ∧ 10 < 23)) from by decide)) (fun j => hFσ10 11 j (show ¬ ((11 = 10 ∧ (j = 5 ∨ j = 6 ∨ j = 7 ∨ j = 8 ∨ j = 11 ∨ j = 12)) ∨ 11 = 13 ∨ (14 ≤ 11 ∧ 11 < 23)) from fun h => h.elim (fun h => absurd h.1 (by decide)) (fun h => h.elim (fun h => absurd h (by decide)) (fun h => absurd h (by decide)))))
      refine j_callV (pc := 42) (As := []) (st := []) (c_X9_advance hX σ10 hIσ10) mv_X9_45 rfl rfl rfl (a_10 hX) dX9_rackLine_42 ⟨Nat.le_of_ble_eq_true rfl, Nat.le_of_ble_eq_true rfl⟩ ⟨Nat.le_refl _, Nat.le_refl _⟩ rfl (Nat.le_of_ble_eq_true rfl) rfl (fun z11 σ12 hz11 => ?_)
      obtain ⟨rfl, hIσ12, hGσ12, q13_0, q13_1, q13_2, q13_3⟩ := hz11
      replace q13_0 : aX σ12 = tok (fX σ10) (aX σ10) := q13_0
      replace q13_1 : ¬ σ10 10 5 ≤ σ10 10 10 ∨ σ12 10 5 ≤ σ10 10 10 := q13_1
      have y15 : σ10 10 5 = σ 10 5 := ((tw_ne1 eσ10 (by (first | decide | omega)))).trans (hGσ2 10 5 (show ¬ ((10 = 10 ∧ (5 = 11 ∨ 5 = 12))) from by decide))
      have f16 : (0 : Int) ≤ σ 10 5 ∧ σ 10 5 ≤ 400 := hI 10 5
      have y17 : σ10 10 10 = σ 10 10 := ((tw_ne1 eσ10 (by (first | decide | omega)))).trans (hGσ2 10 10 (show ¬ ((10 = 10 ∧ (10 = 11 ∨ 10 = 12))) from by decide))
      have f18 : (0 : Int) ≤ σ 10 10 ∧ σ 10 10 ≤ 400 := hI 10 10
      replace q13_2 : ¬ σ10 10 5 ≤ σ10 10 10 ∨ ¬ σ12 10 11 = 0 ∨ ¬ σ12 10 6 = 0 ∨ σ12 10 7 = σ10 10 10 := q13_2
      have y19 : σ10 10 5 = σ 10 5 := ((tw_ne1 eσ10 (by (first | decide | omega)))).trans (hGσ2 10 5 (show ¬ ((10 = 10 ∧ (5 = 11 ∨ 5 = 12))) from by decide))
      have y20 : σ10 10 10 = σ 10 10 := ((tw_ne1 eσ10 (by (first | decide | omega)))).trans (hGσ2 10 10 (show ¬ ((10 = 10 ∧ (10 = 11 ∨ 10 = 12))) from by decide))
      replace q13_3 : ¬ σ12 10 11 = 0 ∨ (σ10 10 11 = 0 ∧ σ10 10 5 ≤ σ12 10 5 ∧ (σ12 10 6 = 0 ∨ σ10 10 5 < σ12 10 5)) := q13_3
      have y21 : σ10 10 11 = σ2 10 11 := (tw_ne1 eσ10 (by (first | decide | omega)))
      have y22 : σ10 10 5 = σ 10 5 := ((tw_ne1 eσ10 (by (first | decide | omega)))).trans (hGσ2 10 5 (show ¬ ((10 = 10 ∧ (5 = 11 ∨ 5 = 12))) from by decide))
      have hFσ12 : tw_F (fun c j => (c = 10 ∧ (j = 5 ∨ j = 6 ∨ j = 7 ∨ j = 8 ∨ j = 11 ∨ j = 12)) ∨ c = 13 ∨ (14 ≤ c ∧ c < 23)) σ σ12 := tw_F_tr hFσ10 hGσ12 (fun c j q => (show (c = 10 ∧ (j = 5 ∨ j = 6 ∨ j = 7 ∨ j = 8 ∨ j = 11 ∨ j = 12)) ∨ c = 13 ∨ (14 ≤ c ∧ c < 23) from by replace q : (c = 10 ∧ (j = 5 ∨ j = 6 ∨ j = 7 ∨ j = 8 ∨ j = 11 ∨ j = 12)) := q; exact (Or.inl q)))
      refine j_st (st' := []) rfl ?_
      have c4 := q13_0; rw [fz] at c4
      refine j_aload_n (pc := 45) dX9_rackLine_45 rfl rfl ?_
      refine j_getR (pc := 46) (r := 14) fl_X9_25 dX9_rackLine_46 (a_10 hX) rfl ?_
      refine j_getR (pc := 49) (r := 16) fl_X9_179 dX9_rackLine_49 (a_14 hX) rfl ?_
      refine j_iload_n (pc := 52) dX9_rackLine_52 rfl rfl ?_
      refine j_aload_n (pc := 53) dX9_rackLine_53 rfl rfl ?_
      refine j_iconst (pc := 54) dX9_rackLine_54 ?_
      refine j_iconst (pc := 55) dX9_rackLine_55 ?_
      refine j_callV (pc := 56) (As := [vI 0, vI 5]) (st := [vI r4, vR 16]) (c_X9_number hX 0 (by (first | decide | exact ⟨by omega, by omega⟩)) 5 (by (first | decide | exact ⟨by omega, by omega⟩)) σ12 hIσ12 (by omega)) mv_X9_152 rfl rfl rfl (a_10 hX) dX9_rackLine_56 ⟨Nat.le_of_ble_eq_true rfl, Nat.le_of_ble_eq_true rfl⟩ ⟨Nat.le_refl _, Nat.le_refl _⟩ rfl (Nat.le_of_ble_eq_true rfl) rfl (fun z23 σ24 hz23 => ?_)
      obtain ⟨r26, rfl, hr26, hIσ24, hGσ24, q25_0, q25_1, q25_2, q25_3, q25_4, q25_5⟩ := hz23
      replace q25_0 : (0 : Int) ≤ r26 ∧ r26 ≤ (5 : Int) := q25_0
      replace q25_1 : aX σ24 = numS (0 : Int) (5 : Int) (aX σ12) := q25_1
      replace q25_2 : ¬ σ24 10 11 = 0 ∨ r26 = σ12 10 8 := q25_2
      replace q25_3 : ¬ σ24 10 11 = 0 ∨ σ12 10 11 = 0 := q25_3
      replace q25_4 : True ∨ σ12 10 6 = σ24 10 12 := q25_4
      replace q25_5 : ¬ σ24 10 11 = 0 ∨ σ12 10 6 = 2 := q25_5
      have hFσ24 : tw_F (fun c j => (c = 10 ∧ (j = 5 ∨ j = 6 ∨ j = 7 ∨ j = 8 ∨ j = 11 ∨ j = 12)) ∨ c = 13 ∨ (14 ≤ c ∧ c < 23)) σ σ24 := tw_F_tr hFσ12 hGσ24 (fun c j q => (show (c = 10 ∧ (j = 5 ∨ j = 6 ∨ j = 7 ∨ j = 8 ∨ j = 11 ∨ j = 12)) ∨ c = 13 ∨ (14 ≤ c ∧ c < 23) from by replace q : (c = 10 ∧ (j = 11 ∨ j = 12)) := q; exact (Or.inl ⟨q.1, (q.2.elim (fun z => (Or.inr (Or.inr (Or.inr (Or.inr (Or.inl z)))))) (fun z => (Or.inr (Or.inr (Or.inr (Or.inr (Or.inr z)))))))⟩)))
      refine j_st (st' := [vI r26, vI r4, vR 16]) rfl ?_
      have c5 := q25_1
      have v5 := aX_numv q25_1 ((hGσ24 10 6 (show ¬ ((10 = 10 ∧ (6 = 11 ∨ 6 = 12))) from by decide))) ((hGσ24 10 8 (show ¬ ((10 = 10 ∧ (8 = 11 ∨ 8 = 12))) from by decide))) q25_2
      refine j_iast (pc := 59) dX9_rackLine_59 (a_16 hX) (by omega) (by omega) (by decide) (j_nm (fun σ27 (eσ27 : σ27 = tw_up σ24 16 (r4.toNat) r26) => ?_))
      have hIσ27 : tw_I σ27 := tw_I_up hIσ24 eσ27 (show (0 : Int) ≤ r26 ∧ r26 ≤ 5 from ⟨by omega, by omega⟩)
      have hFσ27 : tw_F (fun c j => (c = 10 ∧ (j = 5 ∨ j = 6 ∨ j = 7 ∨ j = 8 ∨ j = 11 ∨ j = 12)) ∨ c = 13 ∨ (14 ≤ c ∧ c < 23)) σ σ27 := tw_F_up hFσ24 eσ27 (show (16 = 10 ∧ (r4.toNat = 5 ∨ r4.toNat = 6 ∨ r4.toNat = 7 ∨ r4.toNat = 8 ∨ r4.toNat = 11 ∨ r4.toNat = 12)) ∨ 16 = 13 ∨ (14 ≤ 16 ∧ 16 < 23) from (Or.inr (Or.inr (by decide))))
      have c6 := (aX_wr (i := 200 + r4.toNat) eσ27 (Or.inr (Or.inr (Or.inr (Or.inl ⟨rfl, by omega, by omega⟩))))).trans ((wr_at v1 (fun h4 => by rw [aX_4] at h4 ⊢; omega)).trans (wr_cg v5))
      refine j_aload_n (pc := 60) dX9_rackLine_60 rfl rfl ?_
      have fz : fX σ27 = fX σ := by first | rfl | exact fX_F (hFσ27 10 10 (show ¬ ((10 = 10 ∧ (10 = 5 ∨ 10 = 6 ∨ 10 = 7 ∨ 10 = 8 ∨ 10 = 11 ∨ 10 = 12)) ∨ 10 = 13 ∨ (14 ≤ 10 ∧ 10 < 23)) from by decide)) (fun j => hFσ27 11 j (show ¬ ((11 = 10 ∧ (j = 5 ∨ j = 6 ∨ j = 7 ∨ j = 8 ∨ j = 11 ∨ j = 12)) ∨ 11 = 13 ∨ (14 ≤ 11 ∧ 11 < 23)) from fun h => h.elim (fun h => absurd h.1 (by decide)) (fun h => h.elim (fun h => absurd h (by decide)) (fun h => absurd h (by decide)))))
      refine j_callV (pc := 61) (As := []) (st := []) (c_X9_advance hX σ27 hIσ27) mv_X9_45 rfl rfl rfl (a_10 hX) dX9_rackLine_61 ⟨Nat.le_of_ble_eq_true rfl, Nat.le_of_ble_eq_true rfl⟩ ⟨Nat.le_refl _, Nat.le_refl _⟩ rfl (Nat.le_of_ble_eq_true rfl) rfl (fun z28 σ29 hz28 => ?_)
      obtain ⟨rfl, hIσ29, hGσ29, q30_0, q30_1, q30_2, q30_3⟩ := hz28
      replace q30_0 : aX σ29 = tok (fX σ27) (aX σ27) := q30_0
      replace q30_1 : ¬ σ27 10 5 ≤ σ27 10 10 ∨ σ29 10 5 ≤ σ27 10 10 := q30_1
      have y32 : σ27 10 5 = σ12 10 5 := ((tw_ne1 eσ27 (by (first | decide | omega)))).trans (hGσ24 10 5 (show ¬ ((10 = 10 ∧ (5 = 11 ∨ 5 = 12))) from by decide))
      have f33 : (0 : Int) ≤ σ12 10 5 ∧ σ12 10 5 ≤ 400 := hIσ12 10 5
      have y34 : σ27 10 10 = σ 10 10 := (((((tw_ne1 eσ27 (by (first | decide | omega)))).trans (hGσ24 10 10 (show ¬ ((10 = 10 ∧ (10 = 11 ∨ 10 = 12))) from by decide))).trans (hGσ12 10 10 (show ¬ ((10 = 10 ∧ (10 = 5 ∨ 10 = 6 ∨ 10 = 7 ∨ 10 = 8 ∨ 10 = 11 ∨ 10 = 12))) from by decide))).trans (tw_ne1 eσ10 (by (first | decide | omega)))).trans (hGσ2 10 10 (show ¬ ((10 = 10 ∧ (10 = 11 ∨ 10 = 12))) from by decide))
      replace q30_2 : ¬ σ27 10 5 ≤ σ27 10 10 ∨ ¬ σ29 10 11 = 0 ∨ ¬ σ29 10 6 = 0 ∨ σ29 10 7 = σ27 10 10 := q30_2
      have y35 : σ27 10 5 = σ12 10 5 := ((tw_ne1 eσ27 (by (first | decide | omega)))).trans (hGσ24 10 5 (show ¬ ((10 = 10 ∧ (5 = 11 ∨ 5 = 12))) from by decide))
      have y36 : σ27 10 10 = σ 10 10 := (((((tw_ne1 eσ27 (by (first | decide | omega)))).trans (hGσ24 10 10 (show ¬ ((10 = 10 ∧ (10 = 11 ∨ 10 = 12))) from by decide))).trans (hGσ12 10 10 (show ¬ ((10 = 10 ∧ (10 = 5 ∨ 10 = 6 ∨ 10 = 7 ∨ 10 = 8 ∨ 10 = 11 ∨ 10 = 12))) from by decide))).trans (tw_ne1 eσ10 (by (first | decide | omega)))).trans (hGσ2 10 10 (show ¬ ((10 = 10 ∧ (10 = 11 ∨ 10 = 12))) from by decide))
      replace q30_3 : ¬ σ29 10 11 = 0 ∨ (σ27 10 11 = 0 ∧ σ27 10 5 ≤ σ29 10 5 ∧ (σ29 10 6 = 0 ∨ σ27 10 5 < σ29 10 5)) := q30_3
      have y37 : σ27 10 11 = σ24 10 11 := (tw_ne1 eσ27 (by (first | decide | omega)))
      have f38 : (0 : Int) ≤ σ24 10 11 ∧ σ24 10 11 ≤ 5 := hIσ24 10 11
      have y39 : σ27 10 5 = σ12 10 5 := ((tw_ne1 eσ27 (by (first | decide | omega)))).trans (hGσ24 10 5 (show ¬ ((10 = 10 ∧ (5 = 11 ∨ 5 = 12))) from by decide))
      have hFσ29 : tw_F (fun c j => (c = 10 ∧ (j = 5 ∨ j = 6 ∨ j = 7 ∨ j = 8 ∨ j = 11 ∨ j = 12)) ∨ c = 13 ∨ (14 ≤ c ∧ c < 23)) σ σ29 := tw_F_tr hFσ27 hGσ29 (fun c j q => (show (c = 10 ∧ (j = 5 ∨ j = 6 ∨ j = 7 ∨ j = 8 ∨ j = 11 ∨ j = 12)) ∨ c = 13 ∨ (14 ≤ c ∧ c < 23) from by replace q : (c = 10 ∧ (j = 5 ∨ j = 6 ∨ j = 7 ∨ j = 8 ∨ j = 11 ∨ j = 12)) := q; exact (Or.inl q)))
      refine j_st (st' := []) rfl ?_
      have c7 := q30_0; rw [fz] at c7
      exact j_vret (pc := 64) ⟨rfl, rfl⟩ dX9_rackLine_64 rfl ⟨rfl, hIσ29, hFσ29, (by first | exact rackX_of c1 c2 c3 c4 c5 c6 c7 | exact rackX_no c1 c2 (by rw [aX_4]; omega)), (by clear q3_0 q3_1 q3_2 q3_3 q3_4 q3_5 q13_0 q13_2 q13_3 q25_0 q25_1 q25_2 q25_3 q25_4 q25_5 q30_0 q30_2 q30_3; omega), (by clear q3_0 q3_1 q3_2 q3_4 q3_5 q13_0 q13_1 q13_2 q25_0 q25_1 q25_2 q25_4 q25_5 q30_0 q30_1 q30_2; omega)⟩
    · have y40 : σ2 10 5 = σ 10 5 := (hGσ2 10 5 (show ¬ ((10 = 10 ∧ (5 = 11 ∨ 5 = 12))) from by decide))
      have f41 : (0 : Int) ≤ σ 10 5 ∧ σ 10 5 ≤ 400 := hI 10 5
      have y42 : σ2 10 5 = σ 10 5 := (hGσ2 10 5 (show ¬ ((10 = 10 ∧ (5 = 11 ∨ 5 = 12))) from by decide))
      exact j_vret (pc := 33) ⟨rfl, rfl⟩ dX9_rackLine_33 rfl ⟨rfl, hIσ2, hFσ2, (by first | exact rackX_of c1 c2 c3 c4 c5 c6 c7 | exact rackX_no c1 c2 (by rw [aX_4]; omega)), (by clear q3_0 q3_1 q3_2 q3_3 q3_4 q3_5; omega), (by clear q3_0 q3_1 q3_2 q3_4 q3_5; omega)⟩
  · refine j_aload_n (pc := 17) dX9_rackLine_17 rfl rfl ?_
    refine j_iconst (pc := 18) dX9_rackLine_18 ?_
    refine j_aload_n (pc := 19) dX9_rackLine_19 rfl rfl ?_
    refine j_getI (pc := 20) fl_X9_76 dX9_rackLine_20 (a_10 hX) rfl ?_
    refine j_topV (show σ2 10 7 = σ 10 7 from (hGσ2 10 7 (show ¬ ((10 = 10 ∧ (7 = 11 ∨ 7 = 12))) from by decide))) ?_
    have f43 : (0 : Int) ≤ σ 10 7 ∧ σ 10 7 ≤ 400 := hI 10 7
    refine j_callV (pc := 23) (As := [vI 4, vI (σ 10 7)]) (st := []) (c_X9_fail hX 4 (by (first | decide | exact ⟨by omega, by omega⟩)) (σ 10 7) ⟨by omega, by omega⟩ σ2 hIσ2) mv_X9_61 rfl rfl rfl (a_10 hX) dX9_rackLine_23 ⟨Nat.le_of_ble_eq_true rfl, Nat.le_of_ble_eq_true rfl⟩ ⟨Nat.le_refl _, Nat.le_refl _⟩ rfl (Nat.le_of_ble_eq_true rfl) rfl (fun z44 σ45 hz44 => ?_)
    obtain ⟨rfl, hIσ45, hGσ45, q46_0⟩ := hz44
    replace q46_0 : (σ2 10 11 = 0 ∧ σ45 10 11 = (4 : Int) ∧ σ45 10 12 = (σ 10 7)) ∨ (¬ σ2 10 11 = 0 ∧ σ45 10 11 = σ2 10 11 ∧ σ45 10 12 = σ2 10 12) := q46_0
    have hFσ45 : tw_F (fun c j => (c = 10 ∧ (j = 5 ∨ j = 6 ∨ j = 7 ∨ j = 8 ∨ j = 11 ∨ j = 12)) ∨ c = 13 ∨ (14 ≤ c ∧ c < 23)) σ σ45 := tw_F_tr hFσ2 hGσ45 (fun c j q => (show (c = 10 ∧ (j = 5 ∨ j = 6 ∨ j = 7 ∨ j = 8 ∨ j = 11 ∨ j = 12)) ∨ c = 13 ∨ (14 ≤ c ∧ c < 23) from by replace q : (c = 10 ∧ (j = 11 ∨ j = 12)) := q; exact (Or.inl ⟨q.1, (q.2.elim (fun z => (Or.inr (Or.inr (Or.inr (Or.inr (Or.inl z)))))) (fun z => (Or.inr (Or.inr (Or.inr (Or.inr (Or.inr z)))))))⟩)))
    refine j_st (st' := []) rfl ?_
    have c2 := aX_need (τ := σ45) (c := 4) (by decide) (fun h0 => told_f h0 v1 ⟨by omega, by omega⟩ (by omega)) (by clear q3_0 q3_1 q3_2 q3_3 q3_4 q3_5; omega)
    refine j_aload_n (pc := 26) dX9_rackLine_26 rfl rfl ?_
    refine j_getI (pc := 27) fl_X9_33 dX9_rackLine_27 (a_10 hX) rfl ?_
    have f48 : (0 : Int) ≤ σ45 10 11 ∧ σ45 10 11 ≤ 5 := hIσ45 10 11
    refine j_ifR_eq (pc := 30) (tgt := 34) ⟨by omega, by omega⟩ dX9_rackLine_30 rfl (fun h49 => ?_) (fun h49 => ?_)
    · exfalso; clear q3_0 q3_1 q3_2 q3_3 q3_4 q3_5; omega
    · have y50 : σ45 10 5 = σ 10 5 := ((hGσ45 10 5 (show ¬ ((10 = 10 ∧ (5 = 11 ∨ 5 = 12))) from by decide))).trans (hGσ2 10 5 (show ¬ ((10 = 10 ∧ (5 = 11 ∨ 5 = 12))) from by decide))
      have f51 : (0 : Int) ≤ σ 10 5 ∧ σ 10 5 ≤ 400 := hI 10 5
      have y52 : σ45 10 5 = σ 10 5 := ((hGσ45 10 5 (show ¬ ((10 = 10 ∧ (5 = 11 ∨ 5 = 12))) from by decide))).trans (hGσ2 10 5 (show ¬ ((10 = 10 ∧ (5 = 11 ∨ 5 = 12))) from by decide))
      exact j_vret (pc := 33) ⟨rfl, rfl⟩ dX9_rackLine_33 rfl ⟨rfl, hIσ45, hFσ45, (by first | exact rackX_of c1 c2 c3 c4 c5 c6 c7 | exact rackX_no c1 c2 (by rw [aX_4]; omega)), (by clear q3_0 q3_1 q3_2 q3_3 q3_4 q3_5 q46_0; omega), (by clear q3_0 q3_1 q3_2 q3_4 q3_5; omega)⟩
