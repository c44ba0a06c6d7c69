/-! 19h.tape -/
theorem dX9_ruleLine_0 : decode cX9_ruleLine 0 = .ok (.aload_n 0, 1) := by decide +kernel
theorem dX9_ruleLine_1 : decode cX9_ruleLine 1 = .ok (.getfield 66, 3) := by decide +kernel
theorem dX9_ruleLine_4 : decode cX9_ruleLine 4 = .ok (.iload_n 1, 1) := by decide +kernel
theorem dX9_ruleLine_5 : decode cX9_ruleLine 5 = .ok (.ishr, 1) := by decide +kernel
theorem dX9_ruleLine_6 : decode cX9_ruleLine 6 = .ok (.iconst 1, 1) := by decide +kernel
theorem dX9_ruleLine_7 : decode cX9_ruleLine 7 = .ok (.iand, 1) := by decide +kernel
theorem dX9_ruleLine_8 : decode cX9_ruleLine 8 = .ok (.ifCond .eq 12, 3) := by decide +kernel
theorem dX9_ruleLine_11 : decode cX9_ruleLine 11 = .ok (.aload_n 0, 1) := by decide +kernel
theorem dX9_ruleLine_12 : decode cX9_ruleLine 12 = .ok (.iconst 4, 1) := by decide +kernel
theorem dX9_ruleLine_13 : decode cX9_ruleLine 13 = .ok (.aload_n 0, 1) := by decide +kernel
theorem dX9_ruleLine_14 : decode cX9_ruleLine 14 = .ok (.getfield 76, 3) := by decide +kernel
theorem dX9_ruleLine_17 : decode cX9_ruleLine 17 = .ok (.invokevirtual 61, 3) := by decide +kernel
theorem dX9_ruleLine_20 : decode cX9_ruleLine 20 = .ok (.aload_n 0, 1) := by decide +kernel
theorem dX9_ruleLine_21 : decode cX9_ruleLine 21 = .ok (.dup, 1) := by decide +kernel
theorem dX9_ruleLine_22 : decode cX9_ruleLine 22 = .ok (.getfield 66, 3) := by decide +kernel
theorem dX9_ruleLine_25 : decode cX9_ruleLine 25 = .ok (.iconst 1, 1) := by decide +kernel
theorem dX9_ruleLine_26 : decode cX9_ruleLine 26 = .ok (.iload_n 1, 1) := by decide +kernel
theorem dX9_ruleLine_27 : decode cX9_ruleLine 27 = .ok (.ishl, 1) := by decide +kernel
theorem dX9_ruleLine_28 : decode cX9_ruleLine 28 = .ok (.ior, 1) := by decide +kernel
theorem dX9_ruleLine_29 : decode cX9_ruleLine 29 = .ok (.putfield 66, 3) := by decide +kernel
theorem dX9_ruleLine_32 : decode cX9_ruleLine 32 = .ok (.aload_n 0, 1) := by decide +kernel
theorem dX9_ruleLine_33 : decode cX9_ruleLine 33 = .ok (.invokevirtual 45, 3) := by decide +kernel
theorem dX9_ruleLine_36 : decode cX9_ruleLine 36 = .ok (.aload_n 0, 1) := by decide +kernel
theorem dX9_ruleLine_37 : decode cX9_ruleLine 37 = .ok (.getfield 25, 3) := by decide +kernel
theorem dX9_ruleLine_40 : decode cX9_ruleLine 40 = .ok (.getfield 181, 3) := by decide +kernel
theorem dX9_ruleLine_43 : decode cX9_ruleLine 43 = .ok (.iload_n 1, 1) := by decide +kernel
theorem dX9_ruleLine_44 : decode cX9_ruleLine 44 = .ok (.aload_n 0, 1) := by decide +kernel
theorem dX9_ruleLine_45 : decode cX9_ruleLine 45 = .ok (.getstatic 184, 3) := by decide +kernel
theorem dX9_ruleLine_48 : decode cX9_ruleLine 48 = .ok (.iload_n 1, 1) := by decide +kernel
theorem dX9_ruleLine_49 : decode cX9_ruleLine 49 = .ok (.iaload, 1) := by decide +kernel
theorem dX9_ruleLine_50 : decode cX9_ruleLine 50 = .ok (.getstatic 187, 3) := by decide +kernel
theorem dX9_ruleLine_53 : decode cX9_ruleLine 53 = .ok (.iload_n 1, 1) := by decide +kernel
theorem dX9_ruleLine_54 : decode cX9_ruleLine 54 = .ok (.iaload, 1) := by decide +kernel
theorem dX9_ruleLine_55 : decode cX9_ruleLine 55 = .ok (.invokevirtual 152, 3) := by decide +kernel
theorem dX9_ruleLine_58 : decode cX9_ruleLine 58 = .ok (.iastore, 1) := by decide +kernel
theorem dX9_ruleLine_59 : decode cX9_ruleLine 59 = .ok (.aload_n 0, 1) := by decide +kernel
theorem dX9_ruleLine_60 : decode cX9_ruleLine 60 = .ok (.invokevirtual 45, 3) := by decide +kernel
theorem dX9_ruleLine_63 : decode cX9_ruleLine 63 = .ok (.iload_n 1, 1) := by decide +kernel
theorem dX9_ruleLine_64 : decode cX9_ruleLine 64 = .ok (.iconst 5, 1) := by decide +kernel
theorem dX9_ruleLine_65 : decode cX9_ruleLine 65 = .ok (.if_icmp .eq 4, 3) := by decide +kernel
theorem dX9_ruleLine_68 : decode cX9_ruleLine 68 = .ok (.return_, 1) := by decide +kernel
theorem dX9_ruleLine_69 : decode cX9_ruleLine 69 = .ok (.aload_n 0, 1) := by decide +kernel
theorem dX9_ruleLine_70 : decode cX9_ruleLine 70 = .ok (.getfield 25, 3) := by decide +kernel
theorem dX9_ruleLine_73 : decode cX9_ruleLine 73 = .ok (.getfield 181, 3) := by decide +kernel
theorem dX9_ruleLine_76 : decode cX9_ruleLine 76 = .ok (.bipush 6, 2) := by decide +kernel
theorem dX9_ruleLine_78 : decode cX9_ruleLine 78 = .ok (.aload_n 0, 1) := by decide +kernel
theorem dX9_ruleLine_79 : decode cX9_ruleLine 79 = .ok (.getstatic 184, 3) := by decide +kernel
theorem dX9_ruleLine_82 : decode cX9_ruleLine 82 = .ok (.bipush 6, 2) := by decide +kernel
theorem dX9_ruleLine_84 : decode cX9_ruleLine 84 = .ok (.iaload, 1) := by decide +kernel
theorem dX9_ruleLine_85 : decode cX9_ruleLine 85 = .ok (.getstatic 187, 3) := by decide +kernel
theorem dX9_ruleLine_88 : decode cX9_ruleLine 88 = .ok (.bipush 6, 2) := by decide +kernel
theorem dX9_ruleLine_90 : decode cX9_ruleLine 90 = .ok (.iaload, 1) := by decide +kernel
theorem dX9_ruleLine_91 : decode cX9_ruleLine 91 = .ok (.invokevirtual 152, 3) := by decide +kernel
theorem dX9_ruleLine_94 : decode cX9_ruleLine 94 = .ok (.iastore, 1) := by decide +kernel
theorem dX9_ruleLine_95 : decode cX9_ruleLine 95 = .ok (.aload_n 0, 1) := by decide +kernel
theorem dX9_ruleLine_96 : decode cX9_ruleLine 96 = .ok (.invokevirtual 45, 3) := by decide +kernel
theorem dX9_ruleLine_99 : decode cX9_ruleLine 99 = .ok (.return_, 1) := by decide +kernel
abbrev q_X9_ruleLine (n : Int) (σ : tw_M) : Option tw_V → tw_M → Prop := fun z τ => z = none ∧ tw_I τ ∧ tw_F (fun c j => (c = 10 ∧ (j = 3 ∨ j = 5 ∨ j = 6 ∨ j = 7 ∨ j = 8 ∨ j = 11 ∨ j = 12)) ∨ (14 ≤ c ∧ c < 23)) σ τ ∧ (aX τ = ruleX (fX σ) n (aX σ)) ∧ (¬ σ 10 5 ≤ σ 10 10 ∨ τ 10 5 ≤ σ 10 10) ∧ (¬ τ 10 11 = 0 ∨ (σ 10 11 = 0 ∧ σ 10 5 ≤ τ 10 5))
set_option maxHeartbeats 4000000 in
set_option maxRecDepth 100000 in
theorem c_X9_ruleLine {G : tw_G} (hX : tw_isX G) (n : Int) (hn : 0 ≤ n ∧ n ≤ 8) (σ : tw_M) (hI : tw_I σ) : tw_C G yX9_ruleLine cX9_ruleLine 2 none 3 [vR 10, vI n] σ (q_X9_ruleLine n σ) := by
  refine tw_met [(0, vR 10), (1, vI n)] (by decide +kernel) rfl (Nat.le_of_ble_eq_true rfl) ?_
  refine j_aload_n (pc := 0) dX9_ruleLine_0 rfl rfl ?_
  refine j_getI (pc := 1) fl_X9_66 dX9_ruleLine_1 (a_10 hX) rfl ?_
  have f1 : (-2147483648 : Int) ≤ σ 10 3 ∧ σ 10 3 ≤ 2147483647 := hI 10 3
  refine j_iload_n (pc := 4) dX9_ruleLine_4 rfl rfl ?_
  refine j_ishr (pc := 5) dX9_ruleLine_5 (fun z2 ez2 => ?_)
  have hz2 : (-2147483648 : Int) ≤ z2 ∧ z2 ≤ 2147483647 := by rw [ez2]; exact shr_in _ _
  have b1 := ez2
  refine j_iconst (pc := 6) dX9_ruleLine_6 ?_
  refine j_iand (pc := 7) dX9_ruleLine_7 (fun z3 ez3 => ?_)
  have hz3 : (-2147483648 : Int) ≤ z3 ∧ z3 ≤ 2147483647 := by rw [ez3]; exact and_in _ _
  have b2 := ez3; rw [b1] at b2
  refine j_ifR_eq (pc := 8) (tgt := 20) ⟨by omega, by omega⟩ dX9_ruleLine_8 rfl (fun h4 => ?_) (fun h4 => ?_)
  · have c1 := aX_needt (σ := σ) (c := 4) (fun h0 => bit_t h0 b2 (by omega))
    refine j_aload_n (pc := 20) dX9_ruleLine_20 rfl rfl ?_
    refine j_dup (pc := 21) dX9_ruleLine_21 rfl ?_
    refine j_getI (pc := 22) fl_X9_66 dX9_ruleLine_22 (a_10 hX) rfl ?_
    refine j_iconst (pc := 25) dX9_ruleLine_25 ?_
    refine j_iload_n (pc := 26) dX9_ruleLine_26 rfl rfl ?_
    refine j_ishl (pc := 27) dX9_ruleLine_27 (fun z5 ez5 => ?_)
    have hz5 : (-2147483648 : Int) ≤ z5 ∧ z5 ≤ 2147483647 := by rw [ez5]; exact shl_in _ _
    have s1 := ez5
    refine j_ior (pc := 28) dX9_ruleLine_28 (fun z6 ez6 => ?_)
    have hz6 : (-2147483648 : Int) ≤ z6 ∧ z6 ≤ 2147483647 := by rw [ez6]; exact or_in _ _
    have s2 := ez6; rw [s1] at s2
    refine j_putI (pc := 29) fl_X9_66 fp_X9_3 dX9_ruleLine_29 (a_10 hX) rfl (j_nm (fun σ7 (eσ7 : σ7 = tw_up σ 10 3 z6) => ?_))
    have hIσ7 : tw_I σ7 := tw_I_up hI eσ7 (show (-2147483648 : Int) ≤ z6 ∧ z6 ≤ 2147483647 from ⟨by omega, by omega⟩)
    have hFσ7 : tw_F (fun c j => (c = 10 ∧ (j = 3 ∨ j = 5 ∨ j = 6 ∨ j = 7 ∨ j = 8 ∨ j = 11 ∨ j = 12)) ∨ (14 ≤ c ∧ c < 23)) σ σ7 := tw_F_up (tw_F_rf) eσ7 (show (10 = 10 ∧ (3 = 3 ∨ 3 = 5 ∨ 3 = 6 ∨ 3 = 7 ∨ 3 = 8 ∨ 3 = 11 ∨ 3 = 12)) ∨ (14 ≤ 10 ∧ 10 < 23) from (Or.inl ⟨rfl, (Or.inl rfl)⟩))
    have c2 := (aX_wr (i := 6) eσ7 (Or.inl ⟨rfl, by omega, by omega⟩)).trans (wr_cg (fun h4 => bit_w (σ := σ) (by rw [aX_4] at h4; omega) s2))
    refine j_aload_n (pc := 32) dX9_ruleLine_32 rfl rfl ?_
    have fz : fX σ7 = fX σ := by first | rfl | exact fX_F (hFσ7 10 10 (show ¬ ((10 = 10 ∧ (10 = 3 ∨ 10 = 5 ∨ 10 = 6 ∨ 10 = 7 ∨ 10 = 8 ∨ 10 = 11 ∨ 10 = 12)) ∨ (14 ≤ 10 ∧ 10 < 23)) from by decide)) (fun j => hFσ7 11 j (show ¬ ((11 = 10 ∧ (j = 3 ∨ j = 5 ∨ j = 6 ∨ j = 7 ∨ j = 8 ∨ j = 11 ∨ j = 12)) ∨ (14 ≤ 11 ∧ 11 < 23)) from fun h => h.elim (fun h => absurd h.1 (by decide)) (fun h => absurd h (by decide))))
    refine j_callV (pc := 33) (As := []) (st := []) (c_X9_advance hX σ7 hIσ7) mv_X9_45 rfl rfl rfl (a_10 hX) dX9_ruleLine_33 ⟨Nat.le_of_ble_eq_true rfl, Nat.le_of_ble_eq_true rfl⟩ ⟨Nat.le_refl _, Nat.le_refl _⟩ rfl (Nat.le_of_ble_eq_true rfl) rfl (fun z8 σ9 hz8 => ?_)
    obtain ⟨rfl, hIσ9, hGσ9, q10_0, q10_1, q10_2, q10_3⟩ := hz8
    replace q10_0 : aX σ9 = tok (fX σ7) (aX σ7) := q10_0
    replace q10_1 : ¬ σ7 10 5 ≤ σ7 10 10 ∨ σ9 10 5 ≤ σ7 10 10 := q10_1
    have y12 : σ7 10 5 = σ 10 5 := (tw_ne1 eσ7 (by (first | decide | omega)))
    have f13 : (0 : Int) ≤ σ 10 5 ∧ σ 10 5 ≤ 400 := hI 10 5
    have y14 : σ7 10 10 = σ 10 10 := (tw_ne1 eσ7 (by (first | decide | omega)))
    have f15 : (0 : Int) ≤ σ 10 10 ∧ σ 10 10 ≤ 400 := hI 10 10
    replace q10_2 : ¬ σ7 10 5 ≤ σ7 10 10 ∨ ¬ σ9 10 11 = 0 ∨ ¬ σ9 10 6 = 0 ∨ σ9 10 7 = σ7 10 10 := q10_2
    have y16 : σ7 10 5 = σ 10 5 := (tw_ne1 eσ7 (by (first | decide | omega)))
    have y17 : σ7 10 10 = σ 10 10 := (tw_ne1 eσ7 (by (first | decide | omega)))
    replace q10_3 : ¬ σ9 10 11 = 0 ∨ (σ7 10 11 = 0 ∧ σ7 10 5 ≤ σ9 10 5 ∧ (σ9 10 6 = 0 ∨ σ7 10 5 < σ9 10 5)) := q10_3
    have y18 : σ7 10 11 = σ 10 11 := (tw_ne1 eσ7 (by (first | decide | omega)))
    have f19 : (0 : Int) ≤ σ 10 11 ∧ σ 10 11 ≤ 5 := hI 10 11
    have y20 : σ7 10 5 = σ 10 5 := (tw_ne1 eσ7 (by (first | decide | omega)))
    have hFσ9 : tw_F (fun c j => (c = 10 ∧ (j = 3 ∨ j = 5 ∨ j = 6 ∨ j = 7 ∨ j = 8 ∨ j = 11 ∨ j = 12)) ∨ (14 ≤ c ∧ c < 23)) σ σ9 := tw_F_tr hFσ7 hGσ9 (fun c j q => (show (c = 10 ∧ (j = 3 ∨ j = 5 ∨ j = 6 ∨ j = 7 ∨ j = 8 ∨ j = 11 ∨ j = 12)) ∨ (14 ≤ c ∧ c < 23) from by replace q : (c = 10 ∧ (j = 5 ∨ j = 6 ∨ j = 7 ∨ j = 8 ∨ j = 11 ∨ j = 12)) := q; exact (Or.inl ⟨q.1, (q.2.elim (fun z => (Or.inr (Or.inl z))) (fun z => (z.elim (fun z => (Or.inr (Or.inr (Or.inl z)))) (fun z => (z.elim (fun z => (Or.inr (Or.inr (Or.inr (Or.inl z))))) (fun z => (z.elim (fun z => (Or.inr (Or.inr (Or.inr (Or.inr (Or.inl z)))))) (fun z => (z.elim (fun z => (Or.inr (Or.inr (Or.inr (Or.inr (Or.inr (Or.inl z))))))) (fun z => (Or.inr (Or.inr (Or.inr (Or.inr (Or.inr (Or.inr z))))))))))))))))⟩)))
    refine j_st (st' := []) rfl ?_
    have c3 := q10_0; rw [fz] at c3
    refine j_aload_n (pc := 36) dX9_ruleLine_36 rfl rfl ?_
    refine j_getR (pc := 37) (r := 14) fl_X9_25 dX9_ruleLine_37 (a_10 hX) rfl ?_
    refine j_getR (pc := 40) (r := 15) fl_X9_181 dX9_ruleLine_40 (a_14 hX) rfl ?_
    refine j_iload_n (pc := 43) dX9_ruleLine_43 rfl rfl ?_
    refine j_aload_n (pc := 44) dX9_ruleLine_44 rfl rfl ?_
    refine j_getsLeast (pc := 45) (tw_inc tm_3 (i := 176) rfl rfl) dX9_ruleLine_45 ?_
    refine j_iload_n (pc := 48) dX9_ruleLine_48 rfl rfl ?_
    refine j_tLeast (pc := 49) dX9_ruleLine_49 (by omega) (by omega) ?_
    have f21 : (-2147483648 : Int) ≤ (tw_least.getD n.toNat 0).toInt ∧ (tw_least.getD n.toNat 0).toInt ≤ 2147483647 := i32_in _
    refine j_getsMost (pc := 50) (tw_inc tm_3 (i := 178) rfl rfl) dX9_ruleLine_50 ?_
    refine j_iload_n (pc := 53) dX9_ruleLine_53 rfl rfl ?_
    refine j_tMost (pc := 54) dX9_ruleLine_54 (by omega) (by omega) ?_
    have f22 : (-2147483648 : Int) ≤ (tw_most.getD n.toNat 0).toInt ∧ (tw_most.getD n.toNat 0).toInt ≤ 2147483647 := i32_in _
    refine j_callV (pc := 55) (As := [vI ((tw_least.getD n.toNat 0).toInt), vI ((tw_most.getD n.toNat 0).toInt)]) (st := [vI n, vR 15]) (c_X9_number hX ((tw_least.getD n.toNat 0).toInt) ⟨by omega, by omega⟩ ((tw_most.getD n.toNat 0).toInt) ⟨by omega, by omega⟩ σ9 hIσ9 (lm_le _ (by omega))) mv_X9_152 rfl rfl rfl (a_10 hX) dX9_ruleLine_55 ⟨Nat.le_of_ble_eq_true rfl, Nat.le_of_ble_eq_true rfl⟩ ⟨Nat.le_refl _, Nat.le_refl _⟩ rfl (Nat.le_of_ble_eq_true rfl) rfl (fun z23 σ24 hz23 => ?_)
    obtain ⟨r26, rfl, hr26, hIσ24, hGσ24, q25_0, q25_1, q25_2, q25_3, q25_4, q25_5⟩ := hz23
    replace q25_0 : ((tw_least.getD n.toNat 0).toInt) ≤ r26 ∧ r26 ≤ ((tw_most.getD n.toNat 0).toInt) := q25_0
    replace q25_1 : aX σ24 = numS ((tw_least.getD n.toNat 0).toInt) ((tw_most.getD n.toNat 0).toInt) (aX σ9) := q25_1
    replace q25_2 : ¬ σ24 10 11 = 0 ∨ r26 = σ9 10 8 := q25_2
    replace q25_3 : ¬ σ24 10 11 = 0 ∨ σ9 10 11 = 0 := q25_3
    replace q25_4 : True ∨ σ9 10 6 = σ24 10 12 := q25_4
    replace q25_5 : ¬ σ24 10 11 = 0 ∨ σ9 10 6 = 2 := q25_5
    have hFσ24 : tw_F (fun c j => (c = 10 ∧ (j = 3 ∨ j = 5 ∨ j = 6 ∨ j = 7 ∨ j = 8 ∨ j = 11 ∨ j = 12)) ∨ (14 ≤ c ∧ c < 23)) σ σ24 := tw_F_tr hFσ9 hGσ24 (fun c j q => (show (c = 10 ∧ (j = 3 ∨ j = 5 ∨ j = 6 ∨ j = 7 ∨ j = 8 ∨ j = 11 ∨ j = 12)) ∨ (14 ≤ c ∧ c < 23) from by replace q : (c = 10 ∧ (j = 11 ∨ j = 12)) := q; exact (Or.inl ⟨q.1, (q.2.elim (fun z => (Or.inr (Or.inr (Or.inr (Or.inr (Or.inr (Or.inl z))))))) (fun z => (Or.inr (Or.inr (Or.inr (Or.inr (Or.inr (Or.inr z))))))))⟩)))
    refine j_st (st' := [vI r26, vI n, vR 15]) rfl ?_
    have c4 := q25_1
    have v4 := aX_numv q25_1 ((hGσ24 10 6 (show ¬ ((10 = 10 ∧ (6 = 11 ∨ 6 = 12))) from by decide))) ((hGσ24 10 8 (show ¬ ((10 = 10 ∧ (8 = 11 ∨ 8 = 12))) from by decide))) q25_2
    refine j_iast (pc := 58) dX9_ruleLine_58 (a_15 hX) (by omega) (by omega) (by decide) (j_nm (fun σ27 (eσ27 : σ27 = tw_up σ24 15 (n.toNat) r26) => ?_))
    have hIσ27 : tw_I σ27 := tw_I_up hIσ24 eσ27  (show (bF tw_RB n.toNat).1 ≤ r26 ∧ r26 ≤ (bF tw_RB n.toNat).2 from by have x := lm_in (n.toNat) (by omega); omega)
    have hFσ27 : tw_F (fun c j => (c = 10 ∧ (j = 3 ∨ j = 5 ∨ j = 6 ∨ j = 7 ∨ j = 8 ∨ j = 11 ∨ j = 12)) ∨ (14 ≤ c ∧ c < 23)) σ σ27 := tw_F_up hFσ24 eσ27 (show (15 = 10 ∧ (n.toNat = 3 ∨ n.toNat = 5 ∨ n.toNat = 6 ∨ n.toNat = 7 ∨ n.toNat = 8 ∨ n.toNat = 11 ∨ n.toNat = 12)) ∨ (14 ≤ 15 ∧ 15 < 23) from (Or.inr (by decide)))
    have c5 := (aX_wr (i := 100 + n.toNat) eσ27 (Or.inr (Or.inr (Or.inl ⟨rfl, by omega, by omega⟩)))).trans (wr_cg v4)
    refine j_aload_n (pc := 59) dX9_ruleLine_59 rfl rfl ?_
    have fz : fX σ27 = fX σ := by first | rfl | exact fX_F (hFσ27 10 10 (show ¬ ((10 = 10 ∧ (10 = 3 ∨ 10 = 5 ∨ 10 = 6 ∨ 10 = 7 ∨ 10 = 8 ∨ 10 = 11 ∨ 10 = 12)) ∨ (14 ≤ 10 ∧ 10 < 23)) from by decide)) (fun j => hFσ27 11 j (show ¬ ((11 = 10 ∧ (j = 3 ∨ j = 5 ∨ j = 6 ∨ j = 7 ∨ j = 8 ∨ j = 11 ∨ j = 12)) ∨ (14 ≤ 11 ∧ 11 < 23)) from fun h => h.elim (fun h => absurd h.1 (by decide)) (fun h => absurd h (by decide))))
    refine j_callV (pc := 60) (As := []) (st := []) (c_X9_advance hX σ27 hIσ27) mv_X9_45 rfl rfl rfl (a_10 hX) dX9_ruleLine_60 ⟨Nat.le_of_ble_eq_true rfl, Nat.le_of_ble_eq_true rfl⟩ ⟨Nat.le_refl _, Nat.le_refl _⟩ rfl (Nat.le_of_ble_eq_true rfl) rfl (fun z28 σ29 hz28 => ?_)
    obtain ⟨rfl, hIσ29, hGσ29, q30_0, q30_1, q30_2, q30_3⟩ := hz28
    replace q30_0 : aX σ29 = tok (fX σ27) (aX σ27) := q30_0
    replace q30_1 : ¬ σ27 10 5 ≤ σ27 10 10 ∨ σ29 10 5 ≤ σ27 10 10 := q30_1
    have y32 : σ27 10 5 = σ9 10 5 := ((tw_ne1 eσ27 (by (first | decide | omega)))).trans (hGσ24 10 5 (show ¬ ((10 = 10 ∧ (5 = 11 ∨ 5 = 12))) from by decide))
    have f33 : (0 : Int) ≤ σ9 10 5 ∧ σ9 10 5 ≤ 400 := hIσ9 10 5
    have y34 : σ27 10 10 = σ 10 10 := ((((tw_ne1 eσ27 (by (first | decide | omega)))).trans (hGσ24 10 10 (show ¬ ((10 = 10 ∧ (10 = 11 ∨ 10 = 12))) from by decide))).trans (hGσ9 10 10 (show ¬ ((10 = 10 ∧ (10 = 5 ∨ 10 = 6 ∨ 10 = 7 ∨ 10 = 8 ∨ 10 = 11 ∨ 10 = 12))) from by decide))).trans (tw_ne1 eσ7 (by (first | decide | omega)))
    replace q30_2 : ¬ σ27 10 5 ≤ σ27 10 10 ∨ ¬ σ29 10 11 = 0 ∨ ¬ σ29 10 6 = 0 ∨ σ29 10 7 = σ27 10 10 := q30_2
    have y35 : σ27 10 5 = σ9 10 5 := ((tw_ne1 eσ27 (by (first | decide | omega)))).trans (hGσ24 10 5 (show ¬ ((10 = 10 ∧ (5 = 11 ∨ 5 = 12))) from by decide))
    have y36 : σ27 10 10 = σ 10 10 := ((((tw_ne1 eσ27 (by (first | decide | omega)))).trans (hGσ24 10 10 (show ¬ ((10 = 10 ∧ (10 = 11 ∨ 10 = 12))) from by decide))).trans (hGσ9 10 10 (show ¬ ((10 = 10 ∧ (10 = 5 ∨ 10 = 6 ∨ 10 = 7 ∨ 10 = 8 ∨ 10 = 11 ∨ 10 = 12))) from by decide))).trans (tw_ne1 eσ7 (by (first | decide | omega)))
    replace q30_3 : ¬ σ29 10 11 = 0 ∨ (σ27 10 11 = 0 ∧ σ27 10 5 ≤ σ29 10 5 ∧ (σ29 10 6 = 0 ∨ σ27 10 5 < σ29 10 5)) := q30_3
    have y37 : σ27 10 11 = σ24 10 11 := (tw_ne1 eσ27 (by (first | decide | omega)))
    have f38 : (0 : Int) ≤ σ24 10 11 ∧ σ24 10 11 ≤ 5 := hIσ24 10 11
    have y39 : σ27 10 5 = σ9 10 5 := ((tw_ne1 eσ27 (by (first | decide | omega)))).trans (hGσ24 10 5 (show ¬ ((10 = 10 ∧ (5 = 11 ∨ 5 = 12))) from by decide))
    have hFσ29 : tw_F (fun c j => (c = 10 ∧ (j = 3 ∨ j = 5 ∨ j = 6 ∨ j = 7 ∨ j = 8 ∨ j = 11 ∨ j = 12)) ∨ (14 ≤ c ∧ c < 23)) σ σ29 := tw_F_tr hFσ27 hGσ29 (fun c j q => (show (c = 10 ∧ (j = 3 ∨ j = 5 ∨ j = 6 ∨ j = 7 ∨ j = 8 ∨ j = 11 ∨ j = 12)) ∨ (14 ≤ c ∧ c < 23) from by replace q : (c = 10 ∧ (j = 5 ∨ j = 6 ∨ j = 7 ∨ j = 8 ∨ j = 11 ∨ j = 12)) := q; exact (Or.inl ⟨q.1, (q.2.elim (fun z => (Or.inr (Or.inl z))) (fun z => (z.elim (fun z => (Or.inr (Or.inr (Or.inl z)))) (fun z => (z.elim (fun z => (Or.inr (Or.inr (Or.inr (Or.inl z))))) (fun z => (z.elim (fun z => (Or.inr (Or.inr (Or.inr (Or.inr (Or.inl z)))))) (fun z => (z.elim (fun z => (Or.inr (Or.inr (Or.inr (Or.inr (Or.inr (Or.inl z))))))) (fun z => (Or.inr (Or.inr (Or.inr (Or.inr (Or.inr (Or.inr z))))))))))))))))⟩)))
    refine j_st (st' := []) rfl ?_
    have c6 := q30_0; rw [fz] at c6
    refine j_iload_n (pc := 63) dX9_ruleLine_63 rfl rfl ?_
    refine j_iconst (pc := 64) dX9_ruleLine_64 ?_
    refine j_icmpR_eq (pc := 65) (tgt := 69) ⟨by omega, by omega⟩ ⟨by omega, by omega⟩ dX9_ruleLine_65 rfl (fun h40 => ?_) (fun h40 => ?_)
    · refine j_aload_n (pc := 69) dX9_ruleLine_69 rfl rfl ?_
      refine j_getR (pc := 70) (r := 14) fl_X9_25 dX9_ruleLine_70 (a_10 hX) rfl ?_
      refine j_getR (pc := 73) (r := 15) fl_X9_181 dX9_ruleLine_73 (a_14 hX) rfl ?_
      refine j_bipush (pc := 76) dX9_ruleLine_76 rfl ?_
      refine j_aload_n (pc := 78) dX9_ruleLine_78 rfl rfl ?_
      refine j_getsLeast (pc := 79) (tw_inc tm_3 (i := 176) rfl rfl) dX9_ruleLine_79 ?_
      refine j_bipush (pc := 82) dX9_ruleLine_82 rfl ?_
      refine j_tLeast (pc := 84) dX9_ruleLine_84 (by omega) (by omega) ?_
      refine j_topV (show (tw_least.getD (Int.toNat 6) 0).toInt = (0 : Int) from by decide) ?_
      refine j_getsMost (pc := 85) (tw_inc tm_3 (i := 178) rfl rfl) dX9_ruleLine_85 ?_
      refine j_bipush (pc := 88) dX9_ruleLine_88 rfl ?_
      refine j_tMost (pc := 90) dX9_ruleLine_90 (by omega) (by omega) ?_
      refine j_topV (show (tw_most.getD (Int.toNat 6) 0).toInt = (20 : Int) from by decide) ?_
      refine j_callV (pc := 91) (As := [vI 0, vI 20]) (st := [vI 6, vR 15]) (c_X9_number hX 0 (by (first | decide | exact ⟨by omega, by omega⟩)) 20 (by (first | decide | exact ⟨by omega, by omega⟩)) σ29 hIσ29 (by omega)) mv_X9_152 rfl rfl rfl (a_10 hX) dX9_ruleLine_91 ⟨Nat.le_of_ble_eq_true rfl, Nat.le_of_ble_eq_true rfl⟩ ⟨Nat.le_refl _, Nat.le_refl _⟩ rfl (Nat.le_of_ble_eq_true rfl) rfl (fun z41 σ42 hz41 => ?_)
      obtain ⟨r44, rfl, hr44, hIσ42, hGσ42, q43_0, q43_1, q43_2, q43_3, q43_4, q43_5⟩ := hz41
      replace q43_0 : (0 : Int) ≤ r44 ∧ r44 ≤ (20 : Int) := q43_0
      replace q43_1 : aX σ42 = numS (0 : Int) (20 : Int) (aX σ29) := q43_1
      replace q43_2 : ¬ σ42 10 11 = 0 ∨ r44 = σ29 10 8 := q43_2
      replace q43_3 : ¬ σ42 10 11 = 0 ∨ σ29 10 11 = 0 := q43_3
      replace q43_4 : True ∨ σ29 10 6 = σ42 10 12 := q43_4
      replace q43_5 : ¬ σ42 10 11 = 0 ∨ σ29 10 6 = 2 := q43_5
      have hFσ42 : tw_F (fun c j => (c = 10 ∧ (j = 3 ∨ j = 5 ∨ j = 6 ∨ j = 7 ∨ j = 8 ∨ j = 11 ∨ j = 12)) ∨ (14 ≤ c ∧ c < 23)) σ σ42 := tw_F_tr hFσ29 hGσ42 (fun c j q => (show (c = 10 ∧ (j = 3 ∨ j = 5 ∨ j = 6 ∨ j = 7 ∨ j = 8 ∨ j = 11 ∨ j = 12)) ∨ (14 ≤ c ∧ c < 23) from by replace q : (c = 10 ∧ (j = 11 ∨ j = 12)) := q; exact (Or.inl ⟨q.1, (q.2.elim (fun z => (Or.inr (Or.inr (Or.inr (Or.inr (Or.inr (Or.inl z))))))) (fun z => (Or.inr (Or.inr (Or.inr (Or.inr (Or.inr (Or.inr z))))))))⟩)))
      refine j_st (st' := [vI r44, vI 6, vR 15]) rfl ?_
      have c7 := q43_1
      have v7 := aX_numv q43_1 ((hGσ42 10 6 (show ¬ ((10 = 10 ∧ (6 = 11 ∨ 6 = 12))) from by decide))) ((hGσ42 10 8 (show ¬ ((10 = 10 ∧ (8 = 11 ∨ 8 = 12))) from by decide))) q43_2
      refine j_iast (pc := 94) dX9_ruleLine_94 (a_15 hX) (by omega) (by omega) (by decide) (j_nm (fun σ45 (eσ45 : σ45 = tw_up σ42 15 6 r44) => ?_))
      have hIσ45 : tw_I σ45 := tw_I_up hIσ42 eσ45 (show (0 : Int) ≤ r44 ∧ r44 ≤ 20 from ⟨by omega, by omega⟩)
      have hFσ45 : tw_F (fun c j => (c = 10 ∧ (j = 3 ∨ j = 5 ∨ j = 6 ∨ j = 7 ∨ j = 8 ∨ j = 11 ∨ j = 12)) ∨ (14 ≤ c ∧ c < 23)) σ σ45 := tw_F_up hFσ42 eσ45 (show (15 = 10 ∧ (6 = 3 ∨ 6 = 5 ∨ 6 = 6 ∨ 6 = 7 ∨ 6 = 8 ∨ 6 = 11 ∨ 6 = 12)) ∨ (14 ≤ 15 ∧ 15 < 23) from (Or.inr (by decide)))
      have c8 := (aX_wr (i := 106) eσ45 (Or.inr (Or.inr (Or.inl ⟨rfl, by omega, by omega⟩)))).trans (wr_cg v7)
      refine j_aload_n (pc := 95) dX9_ruleLine_95 rfl rfl ?_
      have fz : fX σ45 = fX σ := by first | rfl | exact fX_F (hFσ45 10 10 (show ¬ ((10 = 10 ∧ (10 = 3 ∨ 10 = 5 ∨ 10 = 6 ∨ 10 = 7 ∨ 10 = 8 ∨ 10 = 11 ∨ 10 = 12)) ∨ (14 ≤ 10 ∧ 10 < 23)) from by decide)) (fun j => hFσ45 11 j (show ¬ ((11 = 10 ∧ (j = 3 ∨ j = 5 ∨ j = 6 ∨ j = 7 ∨ j = 8 ∨ j = 11 ∨ j = 12)) ∨ (14 ≤ 11 ∧ 11 < 23)) from fun h => h.elim (fun h => absurd h.1 (by decide)) (fun h => absurd h (by decide))))
      refine j_callV (pc := 96) (As := []) (st := []) (c_X9_advance hX σ45 hIσ45) mv_X9_45 rfl rfl rfl (a_10 hX) dX9_ruleLine_96 ⟨Nat.le_of_ble_eq_true rfl, Nat.le_of_ble_eq_true rfl⟩ ⟨Nat.le_refl _, Nat.le_refl _⟩ rfl (Nat.le_of_ble_eq_true rfl) rfl (fun z46 σ47 hz46 => ?_)
      obtain ⟨rfl, hIσ47, hGσ47, q48_0, q48_1, q48_2, q48_3⟩ := hz46
      replace q48_0 : aX σ47 = tok (fX σ45) (aX σ45) := q48_0
      replace q48_1 : ¬ σ45 10 5 ≤ σ45 10 10 ∨ σ47 10 5 ≤ σ45 10 10 := q48_1
      have y50 : σ45 10 5 = σ29 10 5 := ((tw_ne1 eσ45 (by (first | decide | omega)))).trans (hGσ42 10 5 (show ¬ ((10 = 10 ∧ (5 = 11 ∨ 5 = 12))) from by decide))
      have f51 : (0 : Int) ≤ σ29 10 5 ∧ σ29 10 5 ≤ 400 := hIσ29 10 5
      have y52 : σ45 10 10 = σ 10 10 := (((((((tw_ne1 eσ45 (by (first | decide | omega)))).trans (hGσ42 10 10 (show ¬ ((10 = 10 ∧ (10 = 11 ∨ 10 = 12))) from by decide))).trans (hGσ29 10 10 (show ¬ ((10 = 10 ∧ (10 = 5 ∨ 10 = 6 ∨ 10 = 7 ∨ 10 = 8 ∨ 10 = 11 ∨ 10 = 12))) from by decide))).trans (tw_ne1 eσ27 (by (first | decide | omega)))).trans (hGσ24 10 10 (show ¬ ((10 = 10 ∧ (10 = 11 ∨ 10 = 12))) from by decide))).trans (hGσ9 10 10 (show ¬ ((10 = 10 ∧ (10 = 5 ∨ 10 = 6 ∨ 10 = 7 ∨ 10 = 8 ∨ 10 = 11 ∨ 10 = 12))) from by decide))).trans (tw_ne1 eσ7 (by (first | decide | omega)))
      replace q48_2 : ¬ σ45 10 5 ≤ σ45 10 10 ∨ ¬ σ47 10 11 = 0 ∨ ¬ σ47 10 6 = 0 ∨ σ47 10 7 = σ45 10 10 := q48_2
      have y53 : σ45 10 5 = σ29 10 5 := ((tw_ne1 eσ45 (by (first | decide | omega)))).trans (hGσ42 10 5 (show ¬ ((10 = 10 ∧ (5 = 11 ∨ 5 = 12))) from by decide))
      have y54 : σ45 10 10 = σ 10 10 := (((((((tw_ne1 eσ45 (by (first | decide | omega)))).trans (hGσ42 10 10 (show ¬ ((10 = 10 ∧ (10 = 11 ∨ 10 = 12))) from by decide))).trans (hGσ29 10 10 (show ¬ ((10 = 10 ∧ (10 = 5 ∨ 10 = 6 ∨ 10 = 7 ∨ 10 = 8 ∨ 10 = 11 ∨ 10 = 12))) from by decide))).trans (tw_ne1 eσ27 (by (first | decide | omega)))).trans (hGσ24 10 10 (show ¬ ((10 = 10 ∧ (10 = 11 ∨ 10 = 12))) from by decide))).trans (hGσ9 10 10 (show ¬ ((10 = 10 ∧ (10 = 5 ∨ 10 = 6 ∨ 10 = 7 ∨ 10 = 8 ∨ 10 = 11 ∨ 10 = 12))) from by decide))).trans (tw_ne1 eσ7 (by (first | decide | omega)))
      replace q48_3 : ¬ σ47 10 11 = 0 ∨ (σ45 10 11 = 0 ∧ σ45 10 5 ≤ σ47 10 5 ∧ (σ47 10 6 = 0 ∨ σ45 10 5 < σ47 10 5)) := q48_3
      have y55 : σ45 10 11 = σ42 10 11 := (tw_ne1 eσ45 (by (first | decide | omega)))
      have f56 : (0 : Int) ≤ σ42 10 11 ∧ σ42 10 11 ≤ 5 := hIσ42 10 11
      have y57 : σ45 10 5 = σ29 10 5 := ((tw_ne1 eσ45 (by (first | decide | omega)))).trans (hGσ42 10 5 (show ¬ ((10 = 10 ∧ (5 = 11 ∨ 5 = 12))) from by decide))
      have hFσ47 : tw_F (fun c j => (c = 10 ∧ (j = 3 ∨ j = 5 ∨ j = 6 ∨ j = 7 ∨ j = 8 ∨ j = 11 ∨ j = 12)) ∨ (14 ≤ c ∧ c < 23)) σ σ47 := tw_F_tr hFσ45 hGσ47 (fun c j q => (show (c = 10 ∧ (j = 3 ∨ j = 5 ∨ j = 6 ∨ j = 7 ∨ j = 8 ∨ j = 11 ∨ j = 12)) ∨ (14 ≤ c ∧ c < 23) from by replace q : (c = 10 ∧ (j = 5 ∨ j = 6 ∨ j = 7 ∨ j = 8 ∨ j = 11 ∨ j = 12)) := q; exact (Or.inl ⟨q.1, (q.2.elim (fun z => (Or.inr (Or.inl z))) (fun z => (z.elim (fun z => (Or.inr (Or.inr (Or.inl z)))) (fun z => (z.elim (fun z => (Or.inr (Or.inr (Or.inr (Or.inl z))))) (fun z => (z.elim (fun z => (Or.inr (Or.inr (Or.inr (Or.inr (Or.inl z)))))) (fun z => (z.elim (fun z => (Or.inr (Or.inr (Or.inr (Or.inr (Or.inr (Or.inl z))))))) (fun z => (Or.inr (Or.inr (Or.inr (Or.inr (Or.inr (Or.inr z))))))))))))))))⟩)))
      refine j_st (st' := []) rfl ?_
      have c9 := q48_0; rw [fz] at c9
      exact j_vret (pc := 99) ⟨rfl, rfl⟩ dX9_ruleLine_99 rfl ⟨rfl, hIσ47, hFσ47, (by first | exact ruleX_of5 c1 c2 c3 c4 c5 c6 (by omega) c7 c8 c9 | exact ruleX_of c1 c2 c3 c4 c5 c6 (by omega)), (by clear q10_0 q10_2 q10_3 q25_0 q25_1 q25_2 q25_3 q25_4 q25_5 q30_0 q30_2 q30_3 q43_0 q43_1 q43_2 q43_3 q43_4 q43_5 q48_0 q48_2 q48_3; omega), (by clear q10_0 q10_1 q10_2 q25_0 q25_1 q25_2 q25_4 q25_5 q30_0 q30_1 q30_2 q43_0 q43_1 q43_2 q43_4 q43_5 q48_0 q48_1 q48_2; omega)⟩
    · exact j_vret (pc := 68) ⟨rfl, rfl⟩ dX9_ruleLine_68 rfl ⟨rfl, hIσ29, hFσ29, (by first | exact ruleX_of5 c1 c2 c3 c4 c5 c6 (by omega) c7 c8 c9 | exact ruleX_of c1 c2 c3 c4 c5 c6 (by omega)), (by clear q10_0 q10_2 q10_3 q25_0 q25_1 q25_2 q25_3 q25_4 q25_5 q30_0 q30_2 q30_3; omega), (by clear q10_0 q10_1 q10_2 q25_0 q25_1 q25_2 q25_4 q25_5 q30_0 q30_1 q30_2; omega)⟩
  · refine j_aload_n (pc := 11) dX9_ruleLine_11 rfl rfl ?_
    refine j_iconst (pc := 12) dX9_ruleLine_12 ?_
    refine j_aload_n (pc := 13) dX9_ruleLine_13 rfl rfl ?_
    refine j_getI (pc := 14) fl_X9_76 dX9_ruleLine_14 (a_10 hX) rfl ?_
    have f58 : (0 : Int) ≤ σ 10 7 ∧ σ 10 7 ≤ 400 := hI 10 7
    refine j_callV (pc := 17) (As := [vI 4, vI (σ 10 7)]) (st := []) (c_X9_fail hX 4 (by (first | decide | exact ⟨by omega, by omega⟩)) (σ 10 7) ⟨by omega, by omega⟩ σ hI) mv_X9_61 rfl rfl rfl (a_10 hX) dX9_ruleLine_17 ⟨Nat.le_of_ble_eq_true rfl, Nat.le_of_ble_eq_true rfl⟩ ⟨Nat.le_refl _, Nat.le_refl _⟩ rfl (Nat.le_of_ble_eq_true rfl) rfl (fun z59 σ60 hz59 => ?_)
    obtain ⟨rfl, hIσ60, hGσ60, q61_0⟩ := hz59
    replace q61_0 : (σ 10 11 = 0 ∧ σ60 10 11 = (4 : Int) ∧ σ60 10 12 = (σ 10 7)) ∨ (¬ σ 10 11 = 0 ∧ σ60 10 11 = σ 10 11 ∧ σ60 10 12 = σ 10 12) := q61_0
    have hFσ60 : tw_F (fun c j => (c = 10 ∧ (j = 3 ∨ j = 5 ∨ j = 6 ∨ j = 7 ∨ j = 8 ∨ j = 11 ∨ j = 12)) ∨ (14 ≤ c ∧ c < 23)) σ σ60 := tw_F_tr (tw_F_rf) hGσ60 (fun c j q => (show (c = 10 ∧ (j = 3 ∨ j = 5 ∨ j = 6 ∨ j = 7 ∨ j = 8 ∨ j = 11 ∨ j = 12)) ∨ (14 ≤ c ∧ c < 23) from by replace q : (c = 10 ∧ (j = 11 ∨ j = 12)) := q; exact (Or.inl ⟨q.1, (q.2.elim (fun z => (Or.inr (Or.inr (Or.inr (Or.inr (Or.inr (Or.inl z))))))) (fun z => (Or.inr (Or.inr (Or.inr (Or.inr (Or.inr (Or.inr z))))))))⟩)))
    refine j_st (st' := []) rfl ?_
    have c1 := aX_need (σ := σ) (τ := σ60) (c := 4) (by decide) (fun h0 => bit_f h0 b2 (by omega)) (by omega)
    refine j_aload_n (pc := 20) dX9_ruleLine_20 rfl rfl ?_
    refine j_dup (pc := 21) dX9_ruleLine_21 rfl ?_
    refine j_getI (pc := 22) fl_X9_66 dX9_ruleLine_22 (a_10 hX) rfl ?_
    refine j_topV (show σ60 10 3 = σ 10 3 from (hGσ60 10 3 (show ¬ ((10 = 10 ∧ (3 = 11 ∨ 3 = 12))) from by decide))) ?_
    refine j_iconst (pc := 25) dX9_ruleLine_25 ?_
    refine j_iload_n (pc := 26) dX9_ruleLine_26 rfl rfl ?_
    refine j_ishl (pc := 27) dX9_ruleLine_27 (fun z63 ez63 => ?_)
    have hz63 : (-2147483648 : Int) ≤ z63 ∧ z63 ≤ 2147483647 := by rw [ez63]; exact shl_in _ _
    have s1 := ez63
    refine j_ior (pc := 28) dX9_ruleLine_28 (fun z64 ez64 => ?_)
    have hz64 : (-2147483648 : Int) ≤ z64 ∧ z64 ≤ 2147483647 := by rw [ez64]; exact or_in _ _
    have s2 := ez64; rw [s1] at s2
    refine j_putI (pc := 29) fl_X9_66 fp_X9_3 dX9_ruleLine_29 (a_10 hX) rfl (j_nm (fun σ65 (eσ65 : σ65 = tw_up σ60 10 3 z64) => ?_))
    have hIσ65 : tw_I σ65 := tw_I_up hIσ60 eσ65 (show (-2147483648 : Int) ≤ z64 ∧ z64 ≤ 2147483647 from ⟨by omega, by omega⟩)
    have hFσ65 : tw_F (fun c j => (c = 10 ∧ (j = 3 ∨ j = 5 ∨ j = 6 ∨ j = 7 ∨ j = 8 ∨ j = 11 ∨ j = 12)) ∨ (14 ≤ c ∧ c < 23)) σ σ65 := tw_F_up hFσ60 eσ65 (show (10 = 10 ∧ (3 = 3 ∨ 3 = 5 ∨ 3 = 6 ∨ 3 = 7 ∨ 3 = 8 ∨ 3 = 11 ∨ 3 = 12)) ∨ (14 ≤ 10 ∧ 10 < 23) from (Or.inl ⟨rfl, (Or.inl rfl)⟩))
    have c2 := (aX_wr (i := 6) eσ65 (Or.inl ⟨rfl, by omega, by omega⟩)).trans (wr_cg (fun h4 => bit_w (σ := σ) (by rw [aX_4] at h4; omega) s2))
    refine j_aload_n (pc := 32) dX9_ruleLine_32 rfl rfl ?_
    have fz : fX σ65 = fX σ := by first | rfl | exact fX_F (hFσ65 10 10 (show ¬ ((10 = 10 ∧ (10 = 3 ∨ 10 = 5 ∨ 10 = 6 ∨ 10 = 7 ∨ 10 = 8 ∨ 10 = 11 ∨ 10 = 12)) ∨ (14 ≤ 10 ∧ 10 < 23)) from by decide)) (fun j => hFσ65 11 j (show ¬ ((11 = 10 ∧ (j = 3 ∨ j = 5 ∨ j = 6 ∨ j = 7 ∨ j = 8 ∨ j = 11 ∨ j = 12)) ∨ (14 ≤ 11 ∧ 11 < 23)) from fun h => h.elim (fun h => absurd h.1 (by decide)) (fun h => absurd h (by decide))))
    refine j_callV (pc := 33) (As := []) (st := []) (c_X9_advance hX σ65 hIσ65) mv_X9_45 rfl rfl rfl (a_10 hX) dX9_ruleLine_33 ⟨Nat.le_of_ble_eq_true rfl, Nat.le_of_ble_eq_true rfl⟩ ⟨Nat.le_refl _, Nat.le_refl _⟩ rfl (Nat.le_of_ble_eq_true rfl) rfl (fun z66 σ67 hz66 => ?_)
    obtain ⟨rfl, hIσ67, hGσ67, q68_0, q68_1, q68_2, q68_3⟩ := hz66
    replace q68_0 : aX σ67 = tok (fX σ65) (aX σ65) := q68_0
    replace q68_1 : ¬ σ65 10 5 ≤ σ65 10 10 ∨ σ67 10 5 ≤ σ65 10 10 := q68_1
    have y70 : σ65 10 5 = σ 10 5 := ((tw_ne1 eσ65 (by (first | decide | omega)))).trans (hGσ60 10 5 (show ¬ ((10 = 10 ∧ (5 = 11 ∨ 5 = 12))) from by decide))
    have f71 : (0 : Int) ≤ σ 10 5 ∧ σ 10 5 ≤ 400 := hI 10 5
    have y72 : σ65 10 10 = σ 10 10 := ((tw_ne1 eσ65 (by (first | decide | omega)))).trans (hGσ60 10 10 (show ¬ ((10 = 10 ∧ (10 = 11 ∨ 10 = 12))) from by decide))
    have f73 : (0 : Int) ≤ σ 10 10 ∧ σ 10 10 ≤ 400 := hI 10 10
    replace q68_2 : ¬ σ65 10 5 ≤ σ65 10 10 ∨ ¬ σ67 10 11 = 0 ∨ ¬ σ67 10 6 = 0 ∨ σ67 10 7 = σ65 10 10 := q68_2
    have y74 : σ65 10 5 = σ 10 5 := ((tw_ne1 eσ65 (by (first | decide | omega)))).trans (hGσ60 10 5 (show ¬ ((10 = 10 ∧ (5 = 11 ∨ 5 = 12))) from by decide))
    have y75 : σ65 10 10 = σ 10 10 := ((tw_ne1 eσ65 (by (first | decide | omega)))).trans (hGσ60 10 10 (show ¬ ((10 = 10 ∧ (10 = 11 ∨ 10 = 12))) from by decide))
    replace q68_3 : ¬ σ67 10 11 = 0 ∨ (σ65 10 11 = 0 ∧ σ65 10 5 ≤ σ67 10 5 ∧ (σ67 10 6 = 0 ∨ σ65 10 5 < σ67 10 5)) := q68_3
    have y76 : σ65 10 11 = σ60 10 11 := (tw_ne1 eσ65 (by (first | decide | omega)))
    have f77 : (0 : Int) ≤ σ60 10 11 ∧ σ60 10 11 ≤ 5 := hIσ60 10 11
    have y78 : σ65 10 5 = σ 10 5 := ((tw_ne1 eσ65 (by (first | decide | omega)))).trans (hGσ60 10 5 (show ¬ ((10 = 10 ∧ (5 = 11 ∨ 5 = 12))) from by decide))
    have hFσ67 : tw_F (fun c j => (c = 10 ∧ (j = 3 ∨ j = 5 ∨ j = 6 ∨ j = 7 ∨ j = 8 ∨ j = 11 ∨ j = 12)) ∨ (14 ≤ c ∧ c < 23)) σ σ67 := tw_F_tr hFσ65 hGσ67 (fun c j q => (show (c = 10 ∧ (j = 3 ∨ j = 5 ∨ j = 6 ∨ j = 7 ∨ j = 8 ∨ j = 11 ∨ j = 12)) ∨ (14 ≤ c ∧ c < 23) from by replace q : (c = 10 ∧ (j = 5 ∨ j = 6 ∨ j = 7 ∨ j = 8 ∨ j = 11 ∨ j = 12)) := q; exact (Or.inl ⟨q.1, (q.2.elim (fun z => (Or.inr (Or.inl z))) (fun z => (z.elim (fun z => (Or.inr (Or.inr (Or.inl z)))) (fun z => (z.elim (fun z => (Or.inr (Or.inr (Or.inr (Or.inl z))))) (fun z => (z.elim (fun z => (Or.inr (Or.inr (Or.inr (Or.inr (Or.inl z)))))) (fun z => (z.elim (fun z => (Or.inr (Or.inr (Or.inr (Or.inr (Or.inr (Or.inl z))))))) (fun z => (Or.inr (Or.inr (Or.inr (Or.inr (Or.inr (Or.inr z))))))))))))))))⟩)))
    refine j_st (st' := []) rfl ?_
    have c3 := q68_0; rw [fz] at c3
    refine j_aload_n (pc := 36) dX9_ruleLine_36 rfl rfl ?_
    refine j_getR (pc := 37) (r := 14) fl_X9_25 dX9_ruleLine_37 (a_10 hX) rfl ?_
    refine j_getR (pc := 40) (r := 15) fl_X9_181 dX9_ruleLine_40 (a_14 hX) rfl ?_
    refine j_iload_n (pc := 43) dX9_ruleLine_43 rfl rfl ?_
    refine j_aload_n (pc := 44) dX9_ruleLine_44 rfl rfl ?_
    refine j_getsLeast (pc := 45) (tw_inc tm_3 (i := 176) rfl rfl) dX9_ruleLine_45 ?_
    refine j_iload_n (pc := 48) dX9_ruleLine_48 rfl rfl ?_
    refine j_tLeast (pc := 49) dX9_ruleLine_49 (by omega) (by omega) ?_
    have f79 : (-2147483648 : Int) ≤ (tw_least.getD n.toNat 0).toInt ∧ (tw_least.getD n.toNat 0).toInt ≤ 2147483647 := i32_in _
    refine j_getsMost (pc := 50) (tw_inc tm_3 (i := 178) rfl rfl) dX9_ruleLine_50 ?_
    refine j_iload_n (pc := 53) dX9_ruleLine_53 rfl rfl ?_
    refine j_tMost (pc := 54) dX9_ruleLine_54 (by omega) (by omega) ?_
    have f80 : (-2147483648 : Int) ≤ (tw_most.getD n.toNat 0).toInt ∧ (tw_most.getD n.toNat 0).toInt ≤ 2147483647 := i32_in _
    refine j_callV (pc := 55) (As := [vI ((tw_least.getD n.toNat 0).toInt), vI ((tw_most.getD n.toNat 0).toInt)]) (st := [vI n, vR 15]) (c_X9_number hX ((tw_least.getD n.toNat 0).toInt) ⟨by omega, by omega⟩ ((tw_most.getD n.toNat 0).toInt) ⟨by omega, by omega⟩ σ67 hIσ67 (lm_le _ (by omega))) mv_X9_152 rfl rfl rfl (a_10 hX) dX9_ruleLine_55 ⟨Nat.le_of_ble_eq_true rfl, Nat.le_of_ble_eq_true rfl⟩ ⟨Nat.le_refl _, Nat.le_refl _⟩ rfl (Nat.le_of_ble_eq_true rfl) rfl (fun z81 σ82 hz81 => ?_)
    obtain ⟨r84, rfl, hr84, hIσ82, hGσ82, q83_0, q83_1, q83_2, q83_3, q83_4, q83_5⟩ := hz81
    replace q83_0 : ((tw_least.getD n.toNat 0).toInt) ≤ r84 ∧ r84 ≤ ((tw_most.getD n.toNat 0).toInt) := q83_0
    replace q83_1 : aX σ82 = numS ((tw_least.getD n.toNat 0).toInt) ((tw_most.getD n.toNat 0).toInt) (aX σ67) := q83_1
    replace q83_2 : ¬ σ82 10 11 = 0 ∨ r84 = σ67 10 8 := q83_2
    replace q83_3 : ¬ σ82 10 11 = 0 ∨ σ67 10 11 = 0 := q83_3
    replace q83_4 : True ∨ σ67 10 6 = σ82 10 12 := q83_4
    replace q83_5 : ¬ σ82 10 11 = 0 ∨ σ67 10 6 = 2 := q83_5
    have hFσ82 : tw_F (fun c j => (c = 10 ∧ (j = 3 ∨ j = 5 ∨ j = 6 ∨ j = 7 ∨ j = 8 ∨ j = 11 ∨ j = 12)) ∨ (14 ≤ c ∧ c < 23)) σ σ82 := tw_F_tr hFσ67 hGσ82 (fun c j q => (show (c = 10 ∧ (j = 3 ∨ j = 5 ∨ j = 6 ∨ j = 7 ∨ j = 8 ∨ j = 11 ∨ j = 12)) ∨ (14 ≤ c ∧ c < 23) from by replace q : (c = 10 ∧ (j = 11 ∨ j = 12)) := q; exact (Or.inl ⟨q.1, (q.2.elim (fun z => (Or.inr (Or.inr (Or.inr (Or.inr (Or.inr (Or.inl z))))))) (fun z => (Or.inr (Or.inr (Or.inr (Or.inr (Or.inr (Or.inr z))))))))⟩)))
    refine j_st (st' := [vI r84, vI n, vR 15]) rfl ?_
    have c4 := q83_1
    have v4 := aX_numv q83_1 ((hGσ82 10 6 (show ¬ ((10 = 10 ∧ (6 = 11 ∨ 6 = 12))) from by decide))) ((hGσ82 10 8 (show ¬ ((10 = 10 ∧ (8 = 11 ∨ 8 = 12))) from by decide))) q83_2
    refine j_iast (pc := 58) dX9_ruleLine_58 (a_15 hX) (by omega) (by omega) (by decide) (j_nm (fun σ85 (eσ85 : σ85 = tw_up σ82 15 (n.toNat) r84) => ?_))
    have hIσ85 : tw_I σ85 := tw_I_up hIσ82 eσ85  (show (bF tw_RB n.toNat).1 ≤ r84 ∧ r84 ≤ (bF tw_RB n.toNat).2 from by have x := lm_in (n.toNat) (by omega); omega)
    have hFσ85 : tw_F (fun c j => (c = 10 ∧ (j = 3 ∨ j = 5 ∨ j = 6 ∨ j = 7 ∨ j = 8 ∨ j = 11 ∨ j = 12)) ∨ (14 ≤ c ∧ c < 23)) σ σ85 := tw_F_up hFσ82 eσ85 (show (15 = 10 ∧ (n.toNat = 3 ∨ n.toNat = 5 ∨ n.toNat = 6 ∨ n.toNat = 7 ∨ n.toNat = 8 ∨ n.toNat = 11 ∨ n.toNat = 12)) ∨ (14 ≤ 15 ∧ 15 < 23) from (Or.inr (by decide)))
    have c5 := (aX_wr (i := 100 + n.toNat) eσ85 (Or.inr (Or.inr (Or.inl ⟨rfl, by omega, by omega⟩)))).trans (wr_cg v4)
    refine j_aload_n (pc := 59) dX9_ruleLine_59 rfl rfl ?_
    have fz : fX σ85 = fX σ := by first | rfl | exact fX_F (hFσ85 10 10 (show ¬ ((10 = 10 ∧ (10 = 3 ∨ 10 = 5 ∨ 10 = 6 ∨ 10 = 7 ∨ 10 = 8 ∨ 10 = 11 ∨ 10 = 12)) ∨ (14 ≤ 10 ∧ 10 < 23)) from by decide)) (fun j => hFσ85 11 j (show ¬ ((11 = 10 ∧ (j = 3 ∨ j = 5 ∨ j = 6 ∨ j = 7 ∨ j = 8 ∨ j = 11 ∨ j = 12)) ∨ (14 ≤ 11 ∧ 11 < 23)) from fun h => h.elim (fun h => absurd h.1 (by decide)) (fun h => absurd h (by decide))))
    refine j_callV (pc := 60) (As := []) (st := []) (c_X9_advance hX σ85 hIσ85) mv_X9_45 rfl rfl rfl (a_10 hX) dX9_ruleLine_60 ⟨Nat.le_of_ble_eq_true rfl, Nat.le_of_ble_eq_true rfl⟩ ⟨Nat.le_refl _, Nat.le_refl _⟩ rfl (Nat.le_of_ble_eq_true rfl) rfl (fun z86 σ87 hz86 => ?_)
    obtain ⟨rfl, hIσ87, hGσ87, q88_0, q88_1, q88_2, q88_3⟩ := hz86
    replace q88_0 : aX σ87 = tok (fX σ85) (aX σ85) := q88_0
    replace q88_1 : ¬ σ85 10 5 ≤ σ85 10 10 ∨ σ87 10 5 ≤ σ85 10 10 := q88_1
    have y90 : σ85 10 5 = σ67 10 5 := ((tw_ne1 eσ85 (by (first | decide | omega)))).trans (hGσ82 10 5 (show ¬ ((10 = 10 ∧ (5 = 11 ∨ 5 = 12))) from by decide))
    have f91 : (0 : Int) ≤ σ67 10 5 ∧ σ67 10 5 ≤ 400 := hIσ67 10 5
    have y92 : σ85 10 10 = σ 10 10 := (((((tw_ne1 eσ85 (by (first | decide | omega)))).trans (hGσ82 10 10 (show ¬ ((10 = 10 ∧ (10 = 11 ∨ 10 = 12))) from by decide))).trans (hGσ67 10 10 (show ¬ ((10 = 10 ∧ (10 = 5 ∨ 10 = 6 ∨ 10 = 7 ∨ 10 = 8 ∨ 10 = 11 ∨ 10 = 12))) from by decide))).trans (tw_ne1 eσ65 (by (first | decide | omega)))).trans (hGσ60 10 10 (show ¬ ((10 = 10 ∧ (10 = 11 ∨ 10 = 12))) from by decide))
    replace q88_2 : ¬ σ85 10 5 ≤ σ85 10 10 ∨ ¬ σ87 10 11 = 0 ∨ ¬ σ87 10 6 = 0 ∨ σ87 10 7 = σ85 10 10 := q88_2
    have y93 : σ85 10 5 = σ67 10 5 := ((tw_ne1 eσ85 (by (first | decide | omega)))).trans (hGσ82 10 5 (show ¬ ((10 = 10 ∧ (5 = 11 ∨ 5 = 12))) from by decide))
    have y94 : σ85 10 10 = σ 10 10 := (((((tw_ne1 eσ85 (by (first | decide | omega)))).trans (hGσ82 10 10 (show ¬ ((10 = 10 ∧ (10 = 11 ∨ 10 = 12))) from by decide))).trans (hGσ67 10 10 (show ¬ ((10 = 10 ∧ (10 = 5 ∨ 10 = 6 ∨ 10 = 7 ∨ 10 = 8 ∨ 10 = 11 ∨ 10 = 12))) from by decide))).trans (tw_ne1 eσ65 (by (first | decide | omega)))).trans (hGσ60 10 10 (show ¬ ((10 = 10 ∧ (10 = 11 ∨ 10 = 12))) from by decide))
    replace q88_3 : ¬ σ87 10 11 = 0 ∨ (σ85 10 11 = 0 ∧ σ85 10 5 ≤ σ87 10 5 ∧ (σ87 10 6 = 0 ∨ σ85 10 5 < σ87 10 5)) := q88_3
    have y95 : σ85 10 11 = σ82 10 11 := (tw_ne1 eσ85 (by (first | decide | omega)))
    have f96 : (0 : Int) ≤ σ82 10 11 ∧ σ82 10 11 ≤ 5 := hIσ82 10 11
    have y97 : σ85 10 5 = σ67 10 5 := ((tw_ne1 eσ85 (by (first | decide | omega)))).trans (hGσ82 10 5 (show ¬ ((10 = 10 ∧ (5 = 11 ∨ 5 = 12))) from by decide))
    have hFσ87 : tw_F (fun c j => (c = 10 ∧ (j = 3 ∨ j = 5 ∨ j = 6 ∨ j = 7 ∨ j = 8 ∨ j = 11 ∨ j = 12)) ∨ (14 ≤ c ∧ c < 23)) σ σ87 := tw_F_tr hFσ85 hGσ87 (fun c j q => (show (c = 10 ∧ (j = 3 ∨ j = 5 ∨ j = 6 ∨ j = 7 ∨ j = 8 ∨ j = 11 ∨ j = 12)) ∨ (14 ≤ c ∧ c < 23) from by replace q : (c = 10 ∧ (j = 5 ∨ j = 6 ∨ j = 7 ∨ j = 8 ∨ j = 11 ∨ j = 12)) := q; exact (Or.inl ⟨q.1, (q.2.elim (fun z => (Or.inr (Or.inl z))) (fun z => (z.elim (fun z => (Or.inr (Or.inr (Or.inl z)))) (fun z => (z.elim (fun z => (Or.inr (Or.inr (Or.inr (Or.inl z))))) (fun z => (z.elim (fun z => (Or.inr (Or.inr (Or.inr (Or.inr (Or.inl z)))))) (fun z => (z.elim (fun z => (Or.inr (Or.inr (Or.inr (Or.inr (Or.inr (Or.inl z))))))) (fun z => (Or.inr (Or.inr (Or.inr (Or.inr (Or.inr (Or.inr z))))))))))))))))⟩)))
    refine j_st (st' := []) rfl ?_
    have c6 := q88_0; rw [fz] at c6
    refine j_iload_n (pc := 63) dX9_ruleLine_63 rfl rfl ?_
    refine j_iconst (pc := 64) dX9_ruleLine_64 ?_
    refine j_icmpR_eq (pc := 65) (tgt := 69) ⟨by omega, by omega⟩ ⟨by omega, by omega⟩ dX9_ruleLine_65 rfl (fun h98 => ?_) (fun h98 => ?_)
    · refine j_aload_n (pc := 69) dX9_ruleLine_69 rfl rfl ?_
      refine j_getR (pc := 70) (r := 14) fl_X9_25 dX9_ruleLine_70 (a_10 hX) rfl ?_
      refine j_getR (pc := 73) (r := 15) fl_X9_181 dX9_ruleLine_73 (a_14 hX) rfl ?_
      refine j_bipush (pc := 76) dX9_ruleLine_76 rfl ?_
      refine j_aload_n (pc := 78) dX9_ruleLine_78 rfl rfl ?_
      refine j_getsLeast (pc := 79) (tw_inc tm_3 (i := 176) rfl rfl) dX9_ruleLine_79 ?_
      refine j_bipush (pc := 82) dX9_ruleLine_82 rfl ?_
      refine j_tLeast (pc := 84) dX9_ruleLine_84 (by omega) (by omega) ?_
      refine j_topV (show (tw_least.getD (Int.toNat 6) 0).toInt = (0 : Int) from by decide) ?_
      refine j_getsMost (pc := 85) (tw_inc tm_3 (i := 178) rfl rfl) dX9_ruleLine_85 ?_
      refine j_bipush (pc := 88) dX9_ruleLine_88 rfl ?_
      refine j_tMost (pc := 90) dX9_ruleLine_90 (by omega) (by omega) ?_
      refine j_topV (show (tw_most.getD (Int.toNat 6) 0).toInt = (20 : Int) from by decide) ?_
      refine j_callV (pc := 91) (As := [vI 0, vI 20]) (st := [vI 6, vR 15]) (c_X9_number hX 0 (by (first | decide | exact ⟨by omega, by omega⟩)) 20 (by (first | decide | exact ⟨by omega, by omega⟩)) σ87 hIσ87 (by omega)) mv_X9_152 rfl rfl rfl (a_10 hX) dX9_ruleLine_91 ⟨Nat.le_of_ble_eq_true rfl, Nat.le_of_ble_eq_true rfl⟩ ⟨Nat.le_refl _, Nat.le_refl _⟩ rfl (Nat.le_of_ble_eq_true rfl) rfl (fun z99 σ100 hz99 => ?_)
      obtain ⟨r102, rfl, hr102, hIσ100, hGσ100, q101_0, q101_1, q101_2, q101_3, q101_4, q101_5⟩ := hz99
      replace q101_0 : (0 : Int) ≤ r102 ∧ r102 ≤ (20 : Int) := q101_0
      replace q101_1 : aX σ100 = numS (0 : Int) (20 : Int) (aX σ87) := q101_1
      replace q101_2 : ¬ σ100 10 11 = 0 ∨ r102 = σ87 10 8 := q101_2
      replace q101_3 : ¬ σ100 10 11 = 0 ∨ σ87 10 11 = 0 := q101_3
      replace q101_4 : True ∨ σ87 10 6 = σ100 10 12 := q101_4
      replace q101_5 : ¬ σ100 10 11 = 0 ∨ σ87 10 6 = 2 := q101_5
      have hFσ100 : tw_F (fun c j => (c = 10 ∧ (j = 3 ∨ j = 5 ∨ j = 6 ∨ j = 7 ∨ j = 8 ∨ j = 11 ∨ j = 12)) ∨ (14 ≤ c ∧ c < 23)) σ σ100 := tw_F_tr hFσ87 hGσ100 (fun c j q => (show (c = 10 ∧ (j = 3 ∨ j = 5 ∨ j = 6 ∨ j = 7 ∨ j = 8 ∨ j = 11 ∨ j = 12)) ∨ (14 ≤ c ∧ c < 23) from by replace q : (c = 10 ∧ (j = 11 ∨ j = 12)) := q; exact (Or.inl ⟨q.1, (q.2.elim (fun z => (Or.inr (Or.inr (Or.inr (Or.inr (Or.inr (Or.inl z))))))) (fun z => (Or.inr (Or.inr (Or.inr (Or.inr (Or.inr (Or.inr z))))))))⟩)))
      refine j_st (st' := [vI r102, vI 6, vR 15]) rfl ?_
      have c7 := q101_1
      have v7 := aX_numv q101_1 ((hGσ100 10 6 (show ¬ ((10 = 10 ∧ (6 = 11 ∨ 6 = 12))) from by decide))) ((hGσ100 10 8 (show ¬ ((10 = 10 ∧ (8 = 11 ∨ 8 = 12))) from by decide))) q101_2
      refine j_iast (pc := 94) dX9_ruleLine_94 (a_15 hX) (by omega) (by omega) (by decide) (j_nm (fun σ103 (eσ103 : σ103 = tw_up σ100 15 6 r102) => ?_))
      have hIσ103 : tw_I σ103 := tw_I_up hIσ100 eσ103 (show (0 : Int) ≤ r102 ∧ r102 ≤ 20 from ⟨by omega, by omega⟩)
      have hFσ103 : tw_F (fun c j => (c = 10 ∧ (j = 3 ∨ j = 5 ∨ j = 6 ∨ j = 7 ∨ j = 8 ∨ j = 11 ∨ j = 12)) ∨ (14 ≤ c ∧ c < 23)) σ σ103 := tw_F_up hFσ100 eσ103 (show (15 = 10 ∧ (6 = 3 ∨ 6 = 5 ∨ 6 = 6 ∨ 6 = 7 ∨ 6 = 8 ∨ 6 = 11 ∨ 6 = 12)) ∨ (14 ≤ 15 ∧ 15 < 23) from (Or.inr (by decide)))
      have c8 := (aX_wr (i := 106) eσ103 (Or.inr (Or.inr (Or.inl ⟨rfl, by omega, by omega⟩)))).trans (wr_cg v7)
      refine j_aload_n (pc := 95) dX9_ruleLine_95 rfl rfl ?_
      have fz : fX σ103 = fX σ := by first | rfl | exact fX_F (hFσ103 10 10 (show ¬ ((10 = 10 ∧ (10 = 3 ∨ 10 = 5 ∨ 10 = 6 ∨ 10 = 7 ∨ 10 = 8 ∨ 10 = 11 ∨ 10 = 12)) ∨ (14 ≤ 10 ∧ 10 < 23)) from by decide)) (fun j => hFσ103 11 j (show ¬ ((11 = 10 ∧ (j = 3 ∨ j = 5 ∨ j = 6 ∨ j = 7 ∨ j = 8 ∨ j = 11 ∨ j = 12)) ∨ (14 ≤ 11 ∧ 11 < 23)) from fun h => h.elim (fun h => absurd h.1 (by decide)) (fun h => absurd h (by decide))))
      refine j_callV (pc := 96) (As := []) (st := []) (c_X9_advance hX σ103 hIσ103) mv_X9_45 rfl rfl rfl (a_10 hX) dX9_ruleLine_96 ⟨Nat.le_of_ble_eq_true rfl, Nat.le_of_ble_eq_true rfl⟩ ⟨Nat.le_refl _, Nat.le_refl _⟩ rfl (Nat.le_of_ble_eq_true rfl) rfl (fun z104 σ105 hz104 => ?_)
      obtain ⟨rfl, hIσ105, hGσ105, q106_0, q106_1, q106_2, q106_3⟩ := hz104
      replace q106_0 : aX σ105 = tok (fX σ103) (aX σ103) := q106_0
      replace q106_1 : ¬ σ103 10 5 ≤ σ103 10 10 ∨ σ105 10 5 ≤ σ103 10 10 := q106_1
      have y108 : σ103 10 5 = σ87 10 5 := ((tw_ne1 eσ103 (by (first | decide | omega)))).trans (hGσ100 10 5 (show ¬ ((10 = 10 ∧ (5 = 11 ∨ 5 = 12))) from by decide))
      have f109 : (0 : Int) ≤ σ87 10 5 ∧ σ87 10 5 ≤ 400 := hIσ87 10 5
      have y110 : σ103 10 10 = σ 10 10 := ((((((((tw_ne1 eσ103 (by (first | decide | omega)))).trans (hGσ100 10 10 (show ¬ ((10 = 10 ∧ (10 = 11 ∨ 10 = 12))) from by decide))).trans (hGσ87 10 10 (show ¬ ((10 = 10 ∧ (10 = 5 ∨ 10 = 6 ∨ 10 = 7 ∨ 10 = 8 ∨ 10 = 11 ∨ 10 = 12))) from by decide))).trans (tw_ne1 eσ85 (by (first | decide | omega)))).trans (hGσ82 10 10 (show ¬ ((10 = 10 ∧ (10 = 11 ∨ 10 = 12))) from by decide))).trans (hGσ67 10 10 (show ¬ ((10 = 10 ∧ (10 = 5 ∨ 10 = 6 ∨ 10 = 7 ∨ 10 = 8 ∨ 10 = 11 ∨ 10 = 12))) from by decide))).trans (tw_ne1 eσ65 (by (first | decide | omega)))).trans (hGσ60 10 10 (show ¬ ((10 = 10 ∧ (10 = 11 ∨ 10 = 12))) from by decide))
      replace q106_2 : ¬ σ103 10 5 ≤ σ103 10 10 ∨ ¬ σ105 10 11 = 0 ∨ ¬ σ105 10 6 = 0 ∨ σ105 10 7 = σ103 10 10 := q106_2
      have y111 : σ103 10 5 = σ87 10 5 := ((tw_ne1 eσ103 (by (first | decide | omega)))).trans (hGσ100 10 5 (show ¬ ((10 = 10 ∧ (5 = 11 ∨ 5 = 12))) from by decide))
      have y112 : σ103 10 10 = σ 10 10 := ((((((((tw_ne1 eσ103 (by (first | decide | omega)))).trans (hGσ100 10 10 (show ¬ ((10 = 10 ∧ (10 = 11 ∨ 10 = 12))) from by decide))).trans (hGσ87 10 10 (show ¬ ((10 = 10 ∧ (10 = 5 ∨ 10 = 6 ∨ 10 = 7 ∨ 10 = 8 ∨ 10 = 11 ∨ 10 = 12))) from by decide))).trans (tw_ne1 eσ85 (by (first | decide | omega)))).trans (hGσ82 10 10 (show ¬ ((10 = 10 ∧ (10 = 11 ∨ 10 = 12))) from by decide))).trans (hGσ67 10 10 (show ¬ ((10 = 10 ∧ (10 = 5 ∨ 10 = 6 ∨ 10 = 7 ∨ 10 = 8 ∨ 10 = 11 ∨ 10 = 12))) from by decide))).trans (tw_ne1 eσ65 (by (first | decide | omega)))).trans (hGσ60 10 10 (show ¬ ((10 = 10 ∧ (10 = 11 ∨ 10 = 12))) from by decide))
      replace q106_3 : ¬ σ105 10 11 = 0 ∨ (σ103 10 11 = 0 ∧ σ103 10 5 ≤ σ105 10 5 ∧ (σ105 10 6 = 0 ∨ σ103 10 5 < σ105 10 5)) := q106_3
      have y113 : σ103 10 11 = σ100 10 11 := (tw_ne1 eσ103 (by (first | decide | omega)))
      have f114 : (0 : Int) ≤ σ100 10 11 ∧ σ100 10 11 ≤ 5 := hIσ100 10 11
      have y115 : σ103 10 5 = σ87 10 5 := ((tw_ne1 eσ103 (by (first | decide | omega)))).trans (hGσ100 10 5 (show ¬ ((10 = 10 ∧ (5 = 11 ∨ 5 = 12))) from by decide))
      have hFσ105 : tw_F (fun c j => (c = 10 ∧ (j = 3 ∨ j = 5 ∨ j = 6 ∨ j = 7 ∨ j = 8 ∨ j = 11 ∨ j = 12)) ∨ (14 ≤ c ∧ c < 23)) σ σ105 := tw_F_tr hFσ103 hGσ105 (fun c j q => (show (c = 10 ∧ (j = 3 ∨ j = 5 ∨ j = 6 ∨ j = 7 ∨ j = 8 ∨ j = 11 ∨ j = 12)) ∨ (14 ≤ c ∧ c < 23) from by replace q : (c = 10 ∧ (j = 5 ∨ j = 6 ∨ j = 7 ∨ j = 8 ∨ j = 11 ∨ j = 12)) := q; exact (Or.inl ⟨q.1, (q.2.elim (fun z => (Or.inr (Or.inl z))) (fun z => (z.elim (fun z => (Or.inr (Or.inr (Or.inl z)))) (fun z => (z.elim (fun z => (Or.inr (Or.inr (Or.inr (Or.inl z))))) (fun z => (z.elim (fun z => (Or.inr (Or.inr (Or.inr (Or.inr (Or.inl z)))))) (fun z => (z.elim (fun z => (Or.inr (Or.inr (Or.inr (Or.inr (Or.inr (Or.inl z))))))) (fun z => (Or.inr (Or.inr (Or.inr (Or.inr (Or.inr (Or.inr z))))))))))))))))⟩)))
      refine j_st (st' := []) rfl ?_
      have c9 := q106_0; rw [fz] at c9
      exact j_vret (pc := 99) ⟨rfl, rfl⟩ dX9_ruleLine_99 rfl ⟨rfl, hIσ105, hFσ105, (by first | exact ruleX_of5 c1 c2 c3 c4 c5 c6 (by omega) c7 c8 c9 | exact ruleX_of c1 c2 c3 c4 c5 c6 (by omega)), (by clear q61_0 q68_0 q68_2 q68_3 q83_0 q83_1 q83_2 q83_3 q83_4 q83_5 q88_0 q88_2 q88_3 q101_0 q101_1 q101_2 q101_3 q101_4 q101_5 q106_0 q106_2 q106_3; omega), (by clear q68_0 q68_1 q68_2 q83_0 q83_1 q83_2 q83_4 q83_5 q88_0 q88_1 q88_2 q101_0 q101_1 q101_2 q101_4 q101_5 q106_0 q106_1 q106_2; omega)⟩
    · exact j_vret (pc := 68) ⟨rfl, rfl⟩ dX9_ruleLine_68 rfl ⟨rfl, hIσ87, hFσ87, (by first | exact ruleX_of5 c1 c2 c3 c4 c5 c6 (by omega) c7 c8 c9 | exact ruleX_of c1 c2 c3 c4 c5 c6 (by omega)), (by clear q61_0 q68_0 q68_2 q68_3 q83_0 q83_1 q83_2 q83_3 q83_4 q83_5 q88_0 q88_2 q88_3; omega), (by clear q68_0 q68_1 q68_2 q83_0 q83_1 q83_2 q83_4 q83_5 q88_0 q88_1 q88_2; omega)⟩
