/-! 19i.tape -/
theorem dX9_line_0 : decode cX9_line 0 = .ok (.aload_n 0, 1) := by decide +kernel
theorem dX9_line_1 : decode cX9_line 1 = .ok (.invokevirtual 136, 3) := by decide +kernel
theorem dX9_line_4 : decode cX9_line 4 = .ok (.istore_n 1, 1) := by decide +kernel
theorem dX9_line_5 : decode cX9_line 5 = .ok (.iload_n 1, 1) := by decide +kernel
theorem dX9_line_6 : decode cX9_line 6 = .ok (.ifCond .ge 15, 3) := by decide +kernel
theorem dX9_line_9 : decode cX9_line 9 = .ok (.aload_n 0, 1) := by decide +kernel
theorem dX9_line_10 : decode cX9_line 10 = .ok (.iconst 2, 1) := by decide +kernel
theorem dX9_line_11 : decode cX9_line 11 = .ok (.aload_n 0, 1) := by decide +kernel
theorem dX9_line_12 : decode cX9_line 12 = .ok (.getfield 76, 3) := by decide +kernel
theorem dX9_line_15 : decode cX9_line 15 = .ok (.invokevirtual 61, 3) := by decide +kernel
theorem dX9_line_18 : decode cX9_line 18 = .ok (.goto 42, 3) := by decide +kernel
theorem dX9_line_21 : decode cX9_line 21 = .ok (.iload_n 1, 1) := by decide +kernel
theorem dX9_line_22 : decode cX9_line 22 = .ok (.bipush 9, 2) := by decide +kernel
theorem dX9_line_24 : decode cX9_line 24 = .ok (.if_icmp .ne 14, 3) := by decide +kernel
theorem dX9_line_27 : decode cX9_line 27 = .ok (.aload_n 0, 1) := by decide +kernel
theorem dX9_line_28 : decode cX9_line 28 = .ok (.invokevirtual 45, 3) := by decide +kernel
theorem dX9_line_31 : decode cX9_line 31 = .ok (.aload_n 0, 1) := by decide +kernel
theorem dX9_line_32 : decode cX9_line 32 = .ok (.invokevirtual 139, 3) := by decide +kernel
theorem dX9_line_35 : decode cX9_line 35 = .ok (.goto 25, 3) := by decide +kernel
theorem dX9_line_38 : decode cX9_line 38 = .ok (.iload_n 1, 1) := by decide +kernel
theorem dX9_line_39 : decode cX9_line 39 = .ok (.bipush 10, 2) := by decide +kernel
theorem dX9_line_41 : decode cX9_line 41 = .ok (.if_icmp .ne 14, 3) := by decide +kernel
theorem dX9_line_44 : decode cX9_line 44 = .ok (.aload_n 0, 1) := by decide +kernel
theorem dX9_line_45 : decode cX9_line 45 = .ok (.invokevirtual 45, 3) := by decide +kernel
theorem dX9_line_48 : decode cX9_line 48 = .ok (.aload_n 0, 1) := by decide +kernel
theorem dX9_line_49 : decode cX9_line 49 = .ok (.invokevirtual 142, 3) := by decide +kernel
theorem dX9_line_52 : decode cX9_line 52 = .ok (.goto 8, 3) := by decide +kernel
theorem dX9_line_55 : decode cX9_line 55 = .ok (.aload_n 0, 1) := by decide +kernel
theorem dX9_line_56 : decode cX9_line 56 = .ok (.iload_n 1, 1) := by decide +kernel
theorem dX9_line_57 : decode cX9_line 57 = .ok (.invokevirtual 145, 3) := by decide +kernel
theorem dX9_line_60 : decode cX9_line 60 = .ok (.aload_n 0, 1) := by decide +kernel
theorem dX9_line_61 : decode cX9_line 61 = .ok (.invokevirtual 149, 3) := by decide +kernel
theorem dX9_line_64 : decode cX9_line 64 = .ok (.return_, 1) := by decide +kernel
theorem dX9_readAll_0 : decode cX9_readAll 0 = .ok (.aload_n 0, 1) := by decide +kernel
theorem dX9_readAll_1 : decode cX9_readAll 1 = .ok (.invokevirtual 42, 3) := by decide +kernel
theorem dX9_readAll_4 : decode cX9_readAll 4 = .ok (.aload_n 0, 1) := by decide +kernel
theorem dX9_readAll_5 : decode cX9_readAll 5 = .ok (.invokevirtual 45, 3) := by decide +kernel
theorem dX9_readAll_8 : decode cX9_readAll 8 = .ok (.iconst 0, 1) := by decide +kernel
theorem dX9_readAll_9 : decode cX9_readAll 9 = .ok (.istore_n 1, 1) := by decide +kernel
theorem dX9_readAll_10 : decode cX9_readAll 10 = .ok (.iload_n 1, 1) := by decide +kernel
theorem dX9_readAll_11 : decode cX9_readAll 11 = .ok (.sipush 400, 3) := by decide +kernel
theorem dX9_readAll_14 : decode cX9_readAll 14 = .ok (.if_icmp .ge 37, 3) := by decide +kernel
theorem dX9_readAll_17 : decode cX9_readAll 17 = .ok (.aload_n 0, 1) := by decide +kernel
theorem dX9_readAll_18 : decode cX9_readAll 18 = .ok (.getfield 33, 3) := by decide +kernel
theorem dX9_readAll_21 : decode cX9_readAll 21 = .ok (.ifCond .ne 30, 3) := by decide +kernel
theorem dX9_readAll_24 : decode cX9_readAll 24 = .ok (.aload_n 0, 1) := by decide +kernel
theorem dX9_readAll_25 : decode cX9_readAll 25 = .ok (.getfield 48, 3) := by decide +kernel
theorem dX9_readAll_28 : decode cX9_readAll 28 = .ok (.ifCond .eq 23, 3) := by decide +kernel
theorem dX9_readAll_31 : decode cX9_readAll 31 = .ok (.aload_n 0, 1) := by decide +kernel
theorem dX9_readAll_32 : decode cX9_readAll 32 = .ok (.invokevirtual 51, 3) := by decide +kernel
theorem dX9_readAll_35 : decode cX9_readAll 35 = .ok (.aload_n 0, 1) := by decide +kernel
theorem dX9_readAll_36 : decode cX9_readAll 36 = .ok (.dup, 1) := by decide +kernel
theorem dX9_readAll_37 : decode cX9_readAll 37 = .ok (.getfield 39, 3) := by decide +kernel
theorem dX9_readAll_40 : decode cX9_readAll 40 = .ok (.iconst 1, 1) := by decide +kernel
theorem dX9_readAll_41 : decode cX9_readAll 41 = .ok (.iadd, 1) := by decide +kernel
theorem dX9_readAll_42 : decode cX9_readAll 42 = .ok (.putfield 39, 3) := by decide +kernel
theorem dX9_readAll_45 : decode cX9_readAll 45 = .ok (.iinc 1 1, 3) := by decide +kernel
theorem dX9_readAll_48 : decode cX9_readAll 48 = .ok (.goto (-38), 3) := by decide +kernel
theorem dX9_readAll_51 : decode cX9_readAll 51 = .ok (.aload_n 0, 1) := by decide +kernel
theorem dX9_readAll_52 : decode cX9_readAll 52 = .ok (.getfield 33, 3) := by decide +kernel
theorem dX9_readAll_55 : decode cX9_readAll 55 = .ok (.ifCond .ne 26, 3) := by decide +kernel
theorem dX9_readAll_58 : decode cX9_readAll 58 = .ok (.aload_n 0, 1) := by decide +kernel
theorem dX9_readAll_59 : decode cX9_readAll 59 = .ok (.getfield 54, 3) := by decide +kernel
theorem dX9_readAll_62 : decode cX9_readAll 62 = .ok (.aload_n 0, 1) := by decide +kernel
theorem dX9_readAll_63 : decode cX9_readAll 63 = .ok (.getfield 25, 3) := by decide +kernel
theorem dX9_readAll_66 : decode cX9_readAll 66 = .ok (.invokevirtual 57, 3) := by decide +kernel
theorem dX9_readAll_69 : decode cX9_readAll 69 = .ok (.if_icmp .le 12, 3) := by decide +kernel
theorem dX9_readAll_72 : decode cX9_readAll 72 = .ok (.aload_n 0, 1) := by decide +kernel
theorem dX9_readAll_73 : decode cX9_readAll 73 = .ok (.iconst 5, 1) := by decide +kernel
theorem dX9_readAll_74 : decode cX9_readAll 74 = .ok (.aload_n 0, 1) := by decide +kernel
theorem dX9_readAll_75 : decode cX9_readAll 75 = .ok (.getfield 29, 3) := by decide +kernel
theorem dX9_readAll_78 : decode cX9_readAll 78 = .ok (.invokevirtual 61, 3) := by decide +kernel
theorem dX9_readAll_81 : decode cX9_readAll 81 = .ok (.return_, 1) := by decide +kernel
abbrev q_X9_line  (σ : tw_M) : Option tw_V → tw_M → Prop := fun z τ => z = none ∧ tw_I τ ∧ tw_F (fun c j => (c = 10 ∧ (j = 3 ∨ j = 4 ∨ j = 5 ∨ j = 6 ∨ j = 7 ∨ j = 8 ∨ j = 11 ∨ j = 12)) ∨ (12 ≤ c ∧ c < 14) ∨ (14 ≤ c ∧ c < 23)) σ τ ∧ (aX τ = lineX (fX σ) (aX σ)) ∧ (¬ σ 10 5 ≤ σ 10 10 ∨ τ 10 5 ≤ σ 10 10) ∧ (¬ σ 10 5 ≤ σ 10 10 ∨ ¬ τ 10 11 = 0 ∨ ¬ τ 10 6 = 0 ∨ τ 10 7 = σ 10 10) ∧ (¬ τ 10 11 = 0 ∨ (σ 10 11 = 0 ∧ σ 10 5 ≤ τ 10 5 ∧ (τ 10 6 = 0 ∨ σ 10 5 < τ 10 5)))
set_option maxHeartbeats 4000000 in
set_option maxRecDepth 100000 in
theorem c_X9_line {G : tw_G} (hX : tw_isX G) (σ : tw_M) (hI : tw_I σ) (hq0 : σ 10 11 = 0) : tw_C G yX9_line cX9_line 2 none 7 [vR 10] σ (q_X9_line σ) := by
  refine tw_met [(0, vR 10)] (by decide +kernel) rfl (Nat.le_of_ble_eq_true rfl) ?_
  refine j_aload_n (pc := 0) dX9_line_0 rfl rfl ?_
  refine j_callV (pc := 1) (As := []) (st := []) (c_X9_lineName hX σ hI) mv_X9_136 rfl rfl rfl (a_10 hX) dX9_line_1 ⟨Nat.le_of_ble_eq_true rfl, Nat.le_of_ble_eq_true rfl⟩ ⟨Nat.le_refl _, Nat.le_refl _⟩ rfl (Nat.le_of_ble_eq_true rfl) rfl (fun z1 σ2 hz1 => ?_)
  obtain ⟨r4, rfl, hr4, rfl, q3_0⟩ := hz1
  replace q3_0 : r4 = lnm (fX σ) (σ 10 6) (σ 10 7) (σ 10 5) := q3_0
  refine j_st (st' := [vI r4]) rfl ?_
  have k2 : lnm (fX σ) ((aX σ) 2) ((aX σ) 1) ((aX σ) 0) = r4 := by rw [aX_2 hq0, aX_1 hq0, aX_0 hq0]; exact q3_0.symm
  refine j_istore_n (pc := 4) (i := 1) (ls' := [(0, vR 10), (1, vI r4)]) [1, 0] dX9_line_4 rfl (Nat.le_of_ble_eq_true rfl) rfl rfl ?_
  refine j_iload_n (pc := 5) dX9_line_5 rfl rfl ?_
  refine j_ifR_ge (pc := 6) (tgt := 21) ⟨by omega, by omega⟩ dX9_line_6 rfl (fun h5 => ?_) (fun h5 => ?_)
  · refine j_iload_n (pc := 21) dX9_line_21 rfl rfl ?_
    refine j_bipush (pc := 22) dX9_line_22 rfl ?_
    refine j_icmpR_ne (pc := 24) (tgt := 38) ⟨by omega, by omega⟩ ⟨by omega, by omega⟩ dX9_line_24 rfl (fun h6 => ?_) (fun h6 => ?_)
    · refine j_iload_n (pc := 38) dX9_line_38 rfl rfl ?_
      refine j_bipush (pc := 39) dX9_line_39 rfl ?_
      refine j_icmpR_ne (pc := 41) (tgt := 55) ⟨by omega, by omega⟩ ⟨by omega, by omega⟩ dX9_line_41 rfl (fun h7 => ?_) (fun h7 => ?_)
      · refine j_aload_n (pc := 55) dX9_line_55 rfl rfl ?_
        refine j_iload_n (pc := 56) dX9_line_56 rfl rfl ?_
        refine j_callV (pc := 57) (As := [vI r4]) (st := []) (c_X9_ruleLine hX r4 ⟨by omega, by omega⟩ σ hI) mv_X9_145 rfl rfl rfl (a_10 hX) dX9_line_57 ⟨Nat.le_of_ble_eq_true rfl, Nat.le_of_ble_eq_true rfl⟩ ⟨Nat.le_refl _, Nat.le_refl _⟩ rfl (Nat.le_of_ble_eq_true rfl) rfl (fun z8 σ9 hz8 => ?_)
        obtain ⟨rfl, hIσ9, hGσ9, q10_0, q10_1, q10_2⟩ := hz8
        replace q10_0 : aX σ9 = ruleX (fX σ) r4 (aX σ) := q10_0
        replace q10_1 : ¬ σ 10 5 ≤ σ 10 10 ∨ σ9 10 5 ≤ σ 10 10 := q10_1
        replace q10_2 : ¬ σ9 10 11 = 0 ∨ (σ 10 11 = 0 ∧ σ 10 5 ≤ σ9 10 5) := q10_2
        have hFσ9 : tw_F (fun c j => (c = 10 ∧ (j = 3 ∨ j = 4 ∨ j = 5 ∨ j = 6 ∨ j = 7 ∨ j = 8 ∨ j = 11 ∨ j = 12)) ∨ (12 ≤ c ∧ c < 14) ∨ (14 ≤ c ∧ c < 23)) σ σ9 := tw_F_tr (tw_F_rf) hGσ9 (fun c j q => (show (c = 10 ∧ (j = 3 ∨ j = 4 ∨ j = 5 ∨ j = 6 ∨ j = 7 ∨ j = 8 ∨ j = 11 ∨ j = 12)) ∨ (12 ≤ c ∧ c < 14) ∨ (14 ≤ c ∧ c < 23) from by replace q : (c = 10 ∧ (j = 3 ∨ j = 5 ∨ j = 6 ∨ j = 7 ∨ j = 8 ∨ j = 11 ∨ j = 12)) ∨ (14 ≤ c ∧ c < 23) := q; exact (q.elim (fun q => (Or.inl ⟨q.1, (q.2.elim (fun z => (Or.inl z)) (fun z => (z.elim (fun z => (Or.inr (Or.inr (Or.inl z)))) (fun z => (z.elim (fun z => (Or.inr (Or.inr (Or.inr (Or.inl z))))) (fun z => (z.elim (fun z => (Or.inr (Or.inr (Or.inr (Or.inr (Or.inl z)))))) (fun z => (z.elim (fun z => (Or.inr (Or.inr (Or.inr (Or.inr (Or.inr (Or.inl z))))))) (fun z => (z.elim (fun z => (Or.inr (Or.inr (Or.inr (Or.inr (Or.inr (Or.inr (Or.inl z)))))))) (fun z => (Or.inr (Or.inr (Or.inr (Or.inr (Or.inr (Or.inr (Or.inr z)))))))))))))))))))⟩)) (fun q => (Or.inr (Or.inr q))))))
        refine j_st (st' := []) rfl ?_
        have c1 := q10_0
        have fz : fX σ9 = fX σ := by first | rfl | exact fX_F (hFσ9 10 10 (show ¬ ((10 = 10 ∧ (10 = 3 ∨ 10 = 4 ∨ 10 = 5 ∨ 10 = 6 ∨ 10 = 7 ∨ 10 = 8 ∨ 10 = 11 ∨ 10 = 12)) ∨ (12 ≤ 10 ∧ 10 < 14) ∨ (14 ≤ 10 ∧ 10 < 23)) from by decide)) (fun j => hFσ9 11 j (show ¬ ((11 = 10 ∧ (j = 3 ∨ j = 4 ∨ j = 5 ∨ j = 6 ∨ j = 7 ∨ j = 8 ∨ j = 11 ∨ j = 12)) ∨ (12 ≤ 11 ∧ 11 < 14) ∨ (14 ≤ 11 ∧ 11 < 23)) from fun h => h.elim (fun h => absurd h.1 (by decide)) (fun h => h.elim (fun h => absurd h (by decide)) (fun h => absurd h (by decide)))))
        refine j_aload_n (pc := 60) dX9_line_60 rfl rfl ?_
        refine j_callV (pc := 61) (As := []) (st := []) (c_X9_lineEnd hX σ9 hIσ9) mv_X9_149 rfl rfl rfl (a_10 hX) dX9_line_61 ⟨Nat.le_of_ble_eq_true rfl, Nat.le_of_ble_eq_true rfl⟩ ⟨Nat.le_refl _, Nat.le_refl _⟩ rfl (Nat.le_of_ble_eq_true rfl) rfl (fun z12 σ13 hz12 => ?_)
        obtain ⟨rfl, hIσ13, hGσ13, q14_0, q14_1, q14_2, q14_3⟩ := hz12
        replace q14_0 : aX σ13 = tok (fX σ9) (need (decide ((aX σ9) 2 = 3)) 2 (aX σ9)) := q14_0
        replace q14_1 : ¬ σ9 10 5 ≤ σ9 10 10 ∨ σ13 10 5 ≤ σ9 10 10 := q14_1
        have y16 : σ9 10 10 = σ 10 10 := (hGσ9 10 10 (show ¬ ((10 = 10 ∧ (10 = 3 ∨ 10 = 5 ∨ 10 = 6 ∨ 10 = 7 ∨ 10 = 8 ∨ 10 = 11 ∨ 10 = 12)) ∨ (14 ≤ 10 ∧ 10 < 23)) from by decide))
        have f17 : (0 : Int) ≤ σ 10 10 ∧ σ 10 10 ≤ 400 := hI 10 10
        replace q14_2 : ¬ σ9 10 5 ≤ σ9 10 10 ∨ ¬ σ13 10 11 = 0 ∨ ¬ σ13 10 6 = 0 ∨ σ13 10 7 = σ9 10 10 := q14_2
        have y18 : σ9 10 10 = σ 10 10 := (hGσ9 10 10 (show ¬ ((10 = 10 ∧ (10 = 3 ∨ 10 = 5 ∨ 10 = 6 ∨ 10 = 7 ∨ 10 = 8 ∨ 10 = 11 ∨ 10 = 12)) ∨ (14 ≤ 10 ∧ 10 < 23)) from by decide))
        replace q14_3 : ¬ σ13 10 11 = 0 ∨ (σ9 10 11 = 0 ∧ σ9 10 5 ≤ σ13 10 5 ∧ (σ13 10 6 = 0 ∨ σ9 10 5 < σ13 10 5)) := q14_3
        have hFσ13 : tw_F (fun c j => (c = 10 ∧ (j = 3 ∨ j = 4 ∨ j = 5 ∨ j = 6 ∨ j = 7 ∨ j = 8 ∨ j = 11 ∨ j = 12)) ∨ (12 ≤ c ∧ c < 14) ∨ (14 ≤ c ∧ c < 23)) σ σ13 := tw_F_tr hFσ9 hGσ13 (fun c j q => (show (c = 10 ∧ (j = 3 ∨ j = 4 ∨ j = 5 ∨ j = 6 ∨ j = 7 ∨ j = 8 ∨ j = 11 ∨ j = 12)) ∨ (12 ≤ c ∧ c < 14) ∨ (14 ≤ c ∧ c < 23) from by replace q : (c = 10 ∧ (j = 5 ∨ j = 6 ∨ j = 7 ∨ j = 8 ∨ j = 11 ∨ j = 12)) := q; exact (Or.inl ⟨q.1, (q.2.elim (fun z => (Or.inr (Or.inr (Or.inl z)))) (fun z => (z.elim (fun z => (Or.inr (Or.inr (Or.inr (Or.inl z))))) (fun z => (z.elim (fun z => (Or.inr (Or.inr (Or.inr (Or.inr (Or.inl z)))))) (fun z => (z.elim (fun z => (Or.inr (Or.inr (Or.inr (Or.inr (Or.inr (Or.inl z))))))) (fun z => (z.elim (fun z => (Or.inr (Or.inr (Or.inr (Or.inr (Or.inr (Or.inr (Or.inl z)))))))) (fun z => (Or.inr (Or.inr (Or.inr (Or.inr (Or.inr (Or.inr (Or.inr z)))))))))))))))))⟩)))
        refine j_st (st' := []) rfl ?_
        have c2 := q14_0; rw [fz] at c2
        have cc := lineX_rule k2 ⟨by omega, by omega⟩ c1 c2
        exact j_vret (pc := 64) ⟨rfl, rfl⟩ dX9_line_64 rfl ⟨rfl, hIσ13, hFσ13, cc, (by clear q3_0 q10_0 q10_2 q14_0 q14_2 q14_3; omega), (by clear q3_0 q10_0 q10_2 q14_0 q14_3; omega), (by clear q3_0 q10_0 q10_1 q14_0 q14_1 q14_2; omega)⟩
      · refine j_aload_n (pc := 44) dX9_line_44 rfl rfl ?_
        refine j_callV (pc := 45) (As := []) (st := []) (c_X9_advance hX σ hI) mv_X9_45 rfl rfl rfl (a_10 hX) dX9_line_45 ⟨Nat.le_of_ble_eq_true rfl, Nat.le_of_ble_eq_true rfl⟩ ⟨Nat.le_refl _, Nat.le_refl _⟩ rfl (Nat.le_of_ble_eq_true rfl) rfl (fun z19 σ20 hz19 => ?_)
        obtain ⟨rfl, hIσ20, hGσ20, q21_0, q21_1, q21_2, q21_3⟩ := hz19
        replace q21_0 : aX σ20 = tok (fX σ) (aX σ) := q21_0
        replace q21_1 : ¬ σ 10 5 ≤ σ 10 10 ∨ σ20 10 5 ≤ σ 10 10 := q21_1
        replace q21_2 : ¬ σ 10 5 ≤ σ 10 10 ∨ ¬ σ20 10 11 = 0 ∨ ¬ σ20 10 6 = 0 ∨ σ20 10 7 = σ 10 10 := q21_2
        replace q21_3 : ¬ σ20 10 11 = 0 ∨ (σ 10 11 = 0 ∧ σ 10 5 ≤ σ20 10 5 ∧ (σ20 10 6 = 0 ∨ σ 10 5 < σ20 10 5)) := q21_3
        have hFσ20 : tw_F (fun c j => (c = 10 ∧ (j = 3 ∨ j = 4 ∨ j = 5 ∨ j = 6 ∨ j = 7 ∨ j = 8 ∨ j = 11 ∨ j = 12)) ∨ (12 ≤ c ∧ c < 14) ∨ (14 ≤ c ∧ c < 23)) σ σ20 := tw_F_tr (tw_F_rf) hGσ20 (fun c j q => (show (c = 10 ∧ (j = 3 ∨ j = 4 ∨ j = 5 ∨ j = 6 ∨ j = 7 ∨ j = 8 ∨ j = 11 ∨ j = 12)) ∨ (12 ≤ c ∧ c < 14) ∨ (14 ≤ c ∧ c < 23) from by replace q : (c = 10 ∧ (j = 5 ∨ j = 6 ∨ j = 7 ∨ j = 8 ∨ j = 11 ∨ j = 12)) := q; exact (Or.inl ⟨q.1, (q.2.elim (fun z => (Or.inr (Or.inr (Or.inl z)))) (fun z => (z.elim (fun z => (Or.inr (Or.inr (Or.inr (Or.inl z))))) (fun z => (z.elim (fun z => (Or.inr (Or.inr (Or.inr (Or.inr (Or.inl z)))))) (fun z => (z.elim (fun z => (Or.inr (Or.inr (Or.inr (Or.inr (Or.inr (Or.inl z))))))) (fun z => (z.elim (fun z => (Or.inr (Or.inr (Or.inr (Or.inr (Or.inr (Or.inr (Or.inl z)))))))) (fun z => (Or.inr (Or.inr (Or.inr (Or.inr (Or.inr (Or.inr (Or.inr z)))))))))))))))))⟩)))
        refine j_st (st' := []) rfl ?_
        have c0 := q21_0
        have fz : fX σ20 = fX σ := by first | rfl | exact fX_F (hFσ20 10 10 (show ¬ ((10 = 10 ∧ (10 = 3 ∨ 10 = 4 ∨ 10 = 5 ∨ 10 = 6 ∨ 10 = 7 ∨ 10 = 8 ∨ 10 = 11 ∨ 10 = 12)) ∨ (12 ≤ 10 ∧ 10 < 14) ∨ (14 ≤ 10 ∧ 10 < 23)) from by decide)) (fun j => hFσ20 11 j (show ¬ ((11 = 10 ∧ (j = 3 ∨ j = 4 ∨ j = 5 ∨ j = 6 ∨ j = 7 ∨ j = 8 ∨ j = 11 ∨ j = 12)) ∨ (12 ≤ 11 ∧ 11 < 14) ∨ (14 ≤ 11 ∧ 11 < 23)) from fun h => h.elim (fun h => absurd h.1 (by decide)) (fun h => h.elim (fun h => absurd h (by decide)) (fun h => absurd h (by decide)))))
        refine j_aload_n (pc := 48) dX9_line_48 rfl rfl ?_
        refine j_callV (pc := 49) (As := []) (st := []) (c_X9_rackLine hX σ20 hIσ20) mv_X9_142 rfl rfl rfl (a_10 hX) dX9_line_49 ⟨Nat.le_of_ble_eq_true rfl, Nat.le_of_ble_eq_true rfl⟩ ⟨Nat.le_refl _, Nat.le_refl _⟩ rfl (Nat.le_of_ble_eq_true rfl) rfl (fun z23 σ24 hz23 => ?_)
        obtain ⟨rfl, hIσ24, hGσ24, q25_0, q25_1, q25_2⟩ := hz23
        replace q25_0 : aX σ24 = rackX (fX σ20) (aX σ20) := q25_0
        replace q25_1 : ¬ σ20 10 5 ≤ σ20 10 10 ∨ σ24 10 5 ≤ σ20 10 10 := q25_1
        have y27 : σ20 10 10 = σ 10 10 := (hGσ20 10 10 (show ¬ ((10 = 10 ∧ (10 = 5 ∨ 10 = 6 ∨ 10 = 7 ∨ 10 = 8 ∨ 10 = 11 ∨ 10 = 12))) from by decide))
        have f28 : (0 : Int) ≤ σ 10 10 ∧ σ 10 10 ≤ 400 := hI 10 10
        replace q25_2 : ¬ σ24 10 11 = 0 ∨ (σ20 10 11 = 0 ∧ σ20 10 5 ≤ σ24 10 5) := q25_2
        have hFσ24 : tw_F (fun c j => (c = 10 ∧ (j = 3 ∨ j = 4 ∨ j = 5 ∨ j = 6 ∨ j = 7 ∨ j = 8 ∨ j = 11 ∨ j = 12)) ∨ (12 ≤ c ∧ c < 14) ∨ (14 ≤ c ∧ c < 23)) σ σ24 := tw_F_tr hFσ20 hGσ24 (fun c j q => (show (c = 10 ∧ (j = 3 ∨ j = 4 ∨ j = 5 ∨ j = 6 ∨ j = 7 ∨ j = 8 ∨ j = 11 ∨ j = 12)) ∨ (12 ≤ c ∧ c < 14) ∨ (14 ≤ c ∧ c < 23) from by replace q : (c = 10 ∧ (j = 5 ∨ j = 6 ∨ j = 7 ∨ j = 8 ∨ j = 11 ∨ j = 12)) ∨ c = 13 ∨ (14 ≤ c ∧ c < 23) := q; exact (q.elim (fun q => (Or.inl ⟨q.1, (q.2.elim (fun z => (Or.inr (Or.inr (Or.inl z)))) (fun z => (z.elim (fun z => (Or.inr (Or.inr (Or.inr (Or.inl z))))) (fun z => (z.elim (fun z => (Or.inr (Or.inr (Or.inr (Or.inr (Or.inl z)))))) (fun z => (z.elim (fun z => (Or.inr (Or.inr (Or.inr (Or.inr (Or.inr (Or.inl z))))))) (fun z => (z.elim (fun z => (Or.inr (Or.inr (Or.inr (Or.inr (Or.inr (Or.inr (Or.inl z)))))))) (fun z => (Or.inr (Or.inr (Or.inr (Or.inr (Or.inr (Or.inr (Or.inr z)))))))))))))))))⟩)) (fun q => (q.elim (fun q => (Or.inr (Or.inl (by rw [show c = 13 from q]; decide)))) (fun q => (Or.inr (Or.inr q))))))))
        refine j_st (st' := []) rfl ?_
        have c1 := q25_0; rw [fz] at c1
        refine j_goto (pc := 52) (tgt := 60) dX9_line_52 rfl ?_
        have fz : fX σ24 = fX σ := by first | rfl | exact fX_F (hFσ24 10 10 (show ¬ ((10 = 10 ∧ (10 = 3 ∨ 10 = 4 ∨ 10 = 5 ∨ 10 = 6 ∨ 10 = 7 ∨ 10 = 8 ∨ 10 = 11 ∨ 10 = 12)) ∨ (12 ≤ 10 ∧ 10 < 14) ∨ (14 ≤ 10 ∧ 10 < 23)) from by decide)) (fun j => hFσ24 11 j (show ¬ ((11 = 10 ∧ (j = 3 ∨ j = 4 ∨ j = 5 ∨ j = 6 ∨ j = 7 ∨ j = 8 ∨ j = 11 ∨ j = 12)) ∨ (12 ≤ 11 ∧ 11 < 14) ∨ (14 ≤ 11 ∧ 11 < 23)) from fun h => h.elim (fun h => absurd h.1 (by decide)) (fun h => h.elim (fun h => absurd h (by decide)) (fun h => absurd h (by decide)))))
        refine j_aload_n (pc := 60) dX9_line_60 rfl rfl ?_
        refine j_callV (pc := 61) (As := []) (st := []) (c_X9_lineEnd hX σ24 hIσ24) mv_X9_149 rfl rfl rfl (a_10 hX) dX9_line_61 ⟨Nat.le_of_ble_eq_true rfl, Nat.le_of_ble_eq_true rfl⟩ ⟨Nat.le_refl _, Nat.le_refl _⟩ rfl (Nat.le_of_ble_eq_true rfl) rfl (fun z29 σ30 hz29 => ?_)
        obtain ⟨rfl, hIσ30, hGσ30, q31_0, q31_1, q31_2, q31_3⟩ := hz29
        replace q31_0 : aX σ30 = tok (fX σ24) (need (decide ((aX σ24) 2 = 3)) 2 (aX σ24)) := q31_0
        replace q31_1 : ¬ σ24 10 5 ≤ σ24 10 10 ∨ σ30 10 5 ≤ σ24 10 10 := q31_1
        have y33 : σ24 10 10 = σ 10 10 := ((hGσ24 10 10 (show ¬ ((10 = 10 ∧ (10 = 5 ∨ 10 = 6 ∨ 10 = 7 ∨ 10 = 8 ∨ 10 = 11 ∨ 10 = 12)) ∨ 10 = 13 ∨ (14 ≤ 10 ∧ 10 < 23)) from by decide))).trans (hGσ20 10 10 (show ¬ ((10 = 10 ∧ (10 = 5 ∨ 10 = 6 ∨ 10 = 7 ∨ 10 = 8 ∨ 10 = 11 ∨ 10 = 12))) from by decide))
        replace q31_2 : ¬ σ24 10 5 ≤ σ24 10 10 ∨ ¬ σ30 10 11 = 0 ∨ ¬ σ30 10 6 = 0 ∨ σ30 10 7 = σ24 10 10 := q31_2
        have y34 : σ24 10 10 = σ 10 10 := ((hGσ24 10 10 (show ¬ ((10 = 10 ∧ (10 = 5 ∨ 10 = 6 ∨ 10 = 7 ∨ 10 = 8 ∨ 10 = 11 ∨ 10 = 12)) ∨ 10 = 13 ∨ (14 ≤ 10 ∧ 10 < 23)) from by decide))).trans (hGσ20 10 10 (show ¬ ((10 = 10 ∧ (10 = 5 ∨ 10 = 6 ∨ 10 = 7 ∨ 10 = 8 ∨ 10 = 11 ∨ 10 = 12))) from by decide))
        replace q31_3 : ¬ σ30 10 11 = 0 ∨ (σ24 10 11 = 0 ∧ σ24 10 5 ≤ σ30 10 5 ∧ (σ30 10 6 = 0 ∨ σ24 10 5 < σ30 10 5)) := q31_3
        have hFσ30 : tw_F (fun c j => (c = 10 ∧ (j = 3 ∨ j = 4 ∨ j = 5 ∨ j = 6 ∨ j = 7 ∨ j = 8 ∨ j = 11 ∨ j = 12)) ∨ (12 ≤ c ∧ c < 14) ∨ (14 ≤ c ∧ c < 23)) σ σ30 := tw_F_tr hFσ24 hGσ30 (fun c j q => (show (c = 10 ∧ (j = 3 ∨ j = 4 ∨ j = 5 ∨ j = 6 ∨ j = 7 ∨ j = 8 ∨ j = 11 ∨ j = 12)) ∨ (12 ≤ c ∧ c < 14) ∨ (14 ≤ c ∧ c < 23) from by replace q : (c = 10 ∧ (j = 5 ∨ j = 6 ∨ j = 7 ∨ j = 8 ∨ j = 11 ∨ j = 12)) := q; exact (Or.inl ⟨q.1, (q.2.elim (fun z => (Or.inr (Or.inr (Or.inl z)))) (fun z => (z.elim (fun z => (Or.inr (Or.inr (Or.inr (Or.inl z))))) (fun z => (z.elim (fun z => (Or.inr (Or.inr (Or.inr (Or.inr (Or.inl z)))))) (fun z => (z.elim (fun z => (Or.inr (Or.inr (Or.inr (Or.inr (Or.inr (Or.inl z))))))) (fun z => (z.elim (fun z => (Or.inr (Or.inr (Or.inr (Or.inr (Or.inr (Or.inr (Or.inl z)))))))) (fun z => (Or.inr (Or.inr (Or.inr (Or.inr (Or.inr (Or.inr (Or.inr z)))))))))))))))))⟩)))
        refine j_st (st' := []) rfl ?_
        have c2 := q31_0; rw [fz] at c2
        have cc := lineX_rack (by rw [k2]; omega) c0 c1 c2
        exact j_vret (pc := 64) ⟨rfl, rfl⟩ dX9_line_64 rfl ⟨rfl, hIσ30, hFσ30, cc, (by clear q3_0 q21_0 q21_2 q21_3 q25_0 q25_2 q31_0 q31_2 q31_3; omega), (by clear q3_0 q21_0 q21_3 q25_0 q25_2 q31_0 q31_3; omega), (by clear q3_0 q21_0 q21_1 q21_2 q25_0 q25_1 q31_0 q31_1 q31_2; omega)⟩
    · refine j_aload_n (pc := 27) dX9_line_27 rfl rfl ?_
      refine j_callV (pc := 28) (As := []) (st := []) (c_X9_advance hX σ hI) mv_X9_45 rfl rfl rfl (a_10 hX) dX9_line_28 ⟨Nat.le_of_ble_eq_true rfl, Nat.le_of_ble_eq_true rfl⟩ ⟨Nat.le_refl _, Nat.le_refl _⟩ rfl (Nat.le_of_ble_eq_true rfl) rfl (fun z35 σ36 hz35 => ?_)
      obtain ⟨rfl, hIσ36, hGσ36, q37_0, q37_1, q37_2, q37_3⟩ := hz35
      replace q37_0 : aX σ36 = tok (fX σ) (aX σ) := q37_0
      replace q37_1 : ¬ σ 10 5 ≤ σ 10 10 ∨ σ36 10 5 ≤ σ 10 10 := q37_1
      replace q37_2 : ¬ σ 10 5 ≤ σ 10 10 ∨ ¬ σ36 10 11 = 0 ∨ ¬ σ36 10 6 = 0 ∨ σ36 10 7 = σ 10 10 := q37_2
      replace q37_3 : ¬ σ36 10 11 = 0 ∨ (σ 10 11 = 0 ∧ σ 10 5 ≤ σ36 10 5 ∧ (σ36 10 6 = 0 ∨ σ 10 5 < σ36 10 5)) := q37_3
      have hFσ36 : tw_F (fun c j => (c = 10 ∧ (j = 3 ∨ j = 4 ∨ j = 5 ∨ j = 6 ∨ j = 7 ∨ j = 8 ∨ j = 11 ∨ j = 12)) ∨ (12 ≤ c ∧ c < 14) ∨ (14 ≤ c ∧ c < 23)) σ σ36 := tw_F_tr (tw_F_rf) hGσ36 (fun c j q => (show (c = 10 ∧ (j = 3 ∨ j = 4 ∨ j = 5 ∨ j = 6 ∨ j = 7 ∨ j = 8 ∨ j = 11 ∨ j = 12)) ∨ (12 ≤ c ∧ c < 14) ∨ (14 ≤ c ∧ c < 23) from by replace q : (c = 10 ∧ (j = 5 ∨ j = 6 ∨ j = 7 ∨ j = 8 ∨ j = 11 ∨ j = 12)) := q; exact (Or.inl ⟨q.1, (q.2.elim (fun z => (Or.inr (Or.inr (Or.inl z)))) (fun z => (z.elim (fun z => (Or.inr (Or.inr (Or.inr (Or.inl z))))) (fun z => (z.elim (fun z => (Or.inr (Or.inr (Or.inr (Or.inr (Or.inl z)))))) (fun z => (z.elim (fun z => (Or.inr (Or.inr (Or.inr (Or.inr (Or.inr (Or.inl z))))))) (fun z => (z.elim (fun z => (Or.inr (Or.inr (Or.inr (Or.inr (Or.inr (Or.inr (Or.inl z)))))))) (fun z => (Or.inr (Or.inr (Or.inr (Or.inr (Or.inr (Or.inr (Or.inr z)))))))))))))))))⟩)))
      refine j_st (st' := []) rfl ?_
      have c0 := q37_0
      have fz : fX σ36 = fX σ := by first | rfl | exact fX_F (hFσ36 10 10 (show ¬ ((10 = 10 ∧ (10 = 3 ∨ 10 = 4 ∨ 10 = 5 ∨ 10 = 6 ∨ 10 = 7 ∨ 10 = 8 ∨ 10 = 11 ∨ 10 = 12)) ∨ (12 ≤ 10 ∧ 10 < 14) ∨ (14 ≤ 10 ∧ 10 < 23)) from by decide)) (fun j => hFσ36 11 j (show ¬ ((11 = 10 ∧ (j = 3 ∨ j = 4 ∨ j = 5 ∨ j = 6 ∨ j = 7 ∨ j = 8 ∨ j = 11 ∨ j = 12)) ∨ (12 ≤ 11 ∧ 11 < 14) ∨ (14 ≤ 11 ∧ 11 < 23)) from fun h => h.elim (fun h => absurd h.1 (by decide)) (fun h => h.elim (fun h => absurd h (by decide)) (fun h => absurd h (by decide)))))
      refine j_aload_n (pc := 31) dX9_line_31 rfl rfl ?_
      refine j_callV (pc := 32) (As := []) (st := []) (c_X9_footLine hX σ36 hIσ36) mv_X9_139 rfl rfl rfl (a_10 hX) dX9_line_32 ⟨Nat.le_of_ble_eq_true rfl, Nat.le_of_ble_eq_true rfl⟩ ⟨Nat.le_refl _, Nat.le_refl _⟩ rfl (Nat.le_of_ble_eq_true rfl) rfl (fun z39 σ40 hz39 => ?_)
      obtain ⟨rfl, hIσ40, hGσ40, q41_0, q41_1, q41_2⟩ := hz39
      replace q41_0 : aX σ40 = footX (fX σ36) (aX σ36) := q41_0
      replace q41_1 : ¬ σ36 10 5 ≤ σ36 10 10 ∨ σ40 10 5 ≤ σ36 10 10 := q41_1
      have y43 : σ36 10 10 = σ 10 10 := (hGσ36 10 10 (show ¬ ((10 = 10 ∧ (10 = 5 ∨ 10 = 6 ∨ 10 = 7 ∨ 10 = 8 ∨ 10 = 11 ∨ 10 = 12))) from by decide))
      have f44 : (0 : Int) ≤ σ 10 10 ∧ σ 10 10 ≤ 400 := hI 10 10
      replace q41_2 : ¬ σ40 10 11 = 0 ∨ (σ36 10 11 = 0 ∧ σ36 10 5 ≤ σ40 10 5) := q41_2
      have hFσ40 : tw_F (fun c j => (c = 10 ∧ (j = 3 ∨ j = 4 ∨ j = 5 ∨ j = 6 ∨ j = 7 ∨ j = 8 ∨ j = 11 ∨ j = 12)) ∨ (12 ≤ c ∧ c < 14) ∨ (14 ≤ c ∧ c < 23)) σ σ40 := tw_F_tr hFσ36 hGσ40 (fun c j q => (show (c = 10 ∧ (j = 3 ∨ j = 4 ∨ j = 5 ∨ j = 6 ∨ j = 7 ∨ j = 8 ∨ j = 11 ∨ j = 12)) ∨ (12 ≤ c ∧ c < 14) ∨ (14 ≤ c ∧ c < 23) from by replace q : (c = 10 ∧ (j = 4 ∨ j = 5 ∨ j = 6 ∨ j = 7 ∨ j = 8 ∨ j = 11 ∨ j = 12)) ∨ c = 12 ∨ (14 ≤ c ∧ c < 23) := q; exact (q.elim (fun q => (Or.inl ⟨q.1, (q.2.elim (fun z => (Or.inr (Or.inl z))) (fun z => (z.elim (fun z => (Or.inr (Or.inr (Or.inl z)))) (fun z => (z.elim (fun z => (Or.inr (Or.inr (Or.inr (Or.inl z))))) (fun z => (z.elim (fun z => (Or.inr (Or.inr (Or.inr (Or.inr (Or.inl z)))))) (fun z => (z.elim (fun z => (Or.inr (Or.inr (Or.inr (Or.inr (Or.inr (Or.inl z))))))) (fun z => (z.elim (fun z => (Or.inr (Or.inr (Or.inr (Or.inr (Or.inr (Or.inr (Or.inl z)))))))) (fun z => (Or.inr (Or.inr (Or.inr (Or.inr (Or.inr (Or.inr (Or.inr z)))))))))))))))))))⟩)) (fun q => (q.elim (fun q => (Or.inr (Or.inl (by rw [show c = 12 from q]; decide)))) (fun q => (Or.inr (Or.inr q))))))))
      refine j_st (st' := []) rfl ?_
      have c1 := q41_0; rw [fz] at c1
      refine j_goto (pc := 35) (tgt := 60) dX9_line_35 rfl ?_
      have fz : fX σ40 = fX σ := by first | rfl | exact fX_F (hFσ40 10 10 (show ¬ ((10 = 10 ∧ (10 = 3 ∨ 10 = 4 ∨ 10 = 5 ∨ 10 = 6 ∨ 10 = 7 ∨ 10 = 8 ∨ 10 = 11 ∨ 10 = 12)) ∨ (12 ≤ 10 ∧ 10 < 14) ∨ (14 ≤ 10 ∧ 10 < 23)) from by decide)) (fun j => hFσ40 11 j (show ¬ ((11 = 10 ∧ (j = 3 ∨ j = 4 ∨ j = 5 ∨ j = 6 ∨ j = 7 ∨ j = 8 ∨ j = 11 ∨ j = 12)) ∨ (12 ≤ 11 ∧ 11 < 14) ∨ (14 ≤ 11 ∧ 11 < 23)) from fun h => h.elim (fun h => absurd h.1 (by decide)) (fun h => h.elim (fun h => absurd h (by decide)) (fun h => absurd h (by decide)))))
      refine j_aload_n (pc := 60) dX9_line_60 rfl rfl ?_
      refine j_callV (pc := 61) (As := []) (st := []) (c_X9_lineEnd hX σ40 hIσ40) mv_X9_149 rfl rfl rfl (a_10 hX) dX9_line_61 ⟨Nat.le_of_ble_eq_true rfl, Nat.le_of_ble_eq_true rfl⟩ ⟨Nat.le_refl _, Nat.le_refl _⟩ rfl (Nat.le_of_ble_eq_true rfl) rfl (fun z45 σ46 hz45 => ?_)
      obtain ⟨rfl, hIσ46, hGσ46, q47_0, q47_1, q47_2, q47_3⟩ := hz45
      replace q47_0 : aX σ46 = tok (fX σ40) (need (decide ((aX σ40) 2 = 3)) 2 (aX σ40)) := q47_0
      replace q47_1 : ¬ σ40 10 5 ≤ σ40 10 10 ∨ σ46 10 5 ≤ σ40 10 10 := q47_1
      have y49 : σ40 10 10 = σ 10 10 := ((hGσ40 10 10 (show ¬ ((10 = 10 ∧ (10 = 4 ∨ 10 = 5 ∨ 10 = 6 ∨ 10 = 7 ∨ 10 = 8 ∨ 10 = 11 ∨ 10 = 12)) ∨ 10 = 12 ∨ (14 ≤ 10 ∧ 10 < 23)) from by decide))).trans (hGσ36 10 10 (show ¬ ((10 = 10 ∧ (10 = 5 ∨ 10 = 6 ∨ 10 = 7 ∨ 10 = 8 ∨ 10 = 11 ∨ 10 = 12))) from by decide))
      replace q47_2 : ¬ σ40 10 5 ≤ σ40 10 10 ∨ ¬ σ46 10 11 = 0 ∨ ¬ σ46 10 6 = 0 ∨ σ46 10 7 = σ40 10 10 := q47_2
      have y50 : σ40 10 10 = σ 10 10 := ((hGσ40 10 10 (show ¬ ((10 = 10 ∧ (10 = 4 ∨ 10 = 5 ∨ 10 = 6 ∨ 10 = 7 ∨ 10 = 8 ∨ 10 = 11 ∨ 10 = 12)) ∨ 10 = 12 ∨ (14 ≤ 10 ∧ 10 < 23)) from by decide))).trans (hGσ36 10 10 (show ¬ ((10 = 10 ∧ (10 = 5 ∨ 10 = 6 ∨ 10 = 7 ∨ 10 = 8 ∨ 10 = 11 ∨ 10 = 12))) from by decide))
      replace q47_3 : ¬ σ46 10 11 = 0 ∨ (σ40 10 11 = 0 ∧ σ40 10 5 ≤ σ46 10 5 ∧ (σ46 10 6 = 0 ∨ σ40 10 5 < σ46 10 5)) := q47_3
      have hFσ46 : tw_F (fun c j => (c = 10 ∧ (j = 3 ∨ j = 4 ∨ j = 5 ∨ j = 6 ∨ j = 7 ∨ j = 8 ∨ j = 11 ∨ j = 12)) ∨ (12 ≤ c ∧ c < 14) ∨ (14 ≤ c ∧ c < 23)) σ σ46 := tw_F_tr hFσ40 hGσ46 (fun c j q => (show (c = 10 ∧ (j = 3 ∨ j = 4 ∨ j = 5 ∨ j = 6 ∨ j = 7 ∨ j = 8 ∨ j = 11 ∨ j = 12)) ∨ (12 ≤ c ∧ c < 14) ∨ (14 ≤ c ∧ c < 23) from by replace q : (c = 10 ∧ (j = 5 ∨ j = 6 ∨ j = 7 ∨ j = 8 ∨ j = 11 ∨ j = 12)) := q; exact (Or.inl ⟨q.1, (q.2.elim (fun z => (Or.inr (Or.inr (Or.inl z)))) (fun z => (z.elim (fun z => (Or.inr (Or.inr (Or.inr (Or.inl z))))) (fun z => (z.elim (fun z => (Or.inr (Or.inr (Or.inr (Or.inr (Or.inl z)))))) (fun z => (z.elim (fun z => (Or.inr (Or.inr (Or.inr (Or.inr (Or.inr (Or.inl z))))))) (fun z => (z.elim (fun z => (Or.inr (Or.inr (Or.inr (Or.inr (Or.inr (Or.inr (Or.inl z)))))))) (fun z => (Or.inr (Or.inr (Or.inr (Or.inr (Or.inr (Or.inr (Or.inr z)))))))))))))))))⟩)))
      refine j_st (st' := []) rfl ?_
      have c2 := q47_0; rw [fz] at c2
      have cc := lineX_at (by rw [k2]; omega) c0 c1 c2
      exact j_vret (pc := 64) ⟨rfl, rfl⟩ dX9_line_64 rfl ⟨rfl, hIσ46, hFσ46, cc, (by clear q3_0 q37_0 q37_2 q37_3 q41_0 q41_2 q47_0 q47_2 q47_3; omega), (by clear q3_0 q37_0 q37_3 q41_0 q41_2 q47_0 q47_3; omega), (by clear q3_0 q37_0 q37_1 q37_2 q41_0 q41_1 q47_0 q47_1 q47_2; omega)⟩
  · refine j_aload_n (pc := 9) dX9_line_9 rfl rfl ?_
    refine j_iconst (pc := 10) dX9_line_10 ?_
    refine j_aload_n (pc := 11) dX9_line_11 rfl rfl ?_
    refine j_getI (pc := 12) fl_X9_76 dX9_line_12 (a_10 hX) rfl ?_
    have f51 : (0 : Int) ≤ σ 10 7 ∧ σ 10 7 ≤ 400 := hI 10 7
    refine j_callV (pc := 15) (As := [vI 2, vI (σ 10 7)]) (st := []) (c_X9_fail hX 2 (by (first | decide | exact ⟨by omega, by omega⟩)) (σ 10 7) ⟨by omega, by omega⟩ σ hI) mv_X9_61 rfl rfl rfl (a_10 hX) dX9_line_15 ⟨Nat.le_of_ble_eq_true rfl, Nat.le_of_ble_eq_true rfl⟩ ⟨Nat.le_refl _, Nat.le_refl _⟩ rfl (Nat.le_of_ble_eq_true rfl) rfl (fun z52 σ53 hz52 => ?_)
    obtain ⟨rfl, hIσ53, hGσ53, q54_0⟩ := hz52
    replace q54_0 : (σ 10 11 = 0 ∧ σ53 10 11 = (2 : Int) ∧ σ53 10 12 = (σ 10 7)) ∨ (¬ σ 10 11 = 0 ∧ σ53 10 11 = σ 10 11 ∧ σ53 10 12 = σ 10 12) := q54_0
    have hFσ53 : tw_F (fun c j => (c = 10 ∧ (j = 3 ∨ j = 4 ∨ j = 5 ∨ j = 6 ∨ j = 7 ∨ j = 8 ∨ j = 11 ∨ j = 12)) ∨ (12 ≤ c ∧ c < 14) ∨ (14 ≤ c ∧ c < 23)) σ σ53 := tw_F_tr (tw_F_rf) hGσ53 (fun c j q => (show (c = 10 ∧ (j = 3 ∨ j = 4 ∨ j = 5 ∨ j = 6 ∨ j = 7 ∨ j = 8 ∨ j = 11 ∨ j = 12)) ∨ (12 ≤ c ∧ c < 14) ∨ (14 ≤ c ∧ c < 23) from by replace q : (c = 10 ∧ (j = 11 ∨ j = 12)) := q; exact (Or.inl ⟨q.1, (q.2.elim (fun z => (Or.inr (Or.inr (Or.inr (Or.inr (Or.inr (Or.inr (Or.inl z)))))))) (fun z => (Or.inr (Or.inr (Or.inr (Or.inr (Or.inr (Or.inr (Or.inr z)))))))))⟩)))
    refine j_st (st' := []) rfl ?_
    have c1 := aX_need (σ := σ) (τ := σ53) (g := false) (c := 2) (by decide) (fun _ => rfl) (by omega)
    refine j_goto (pc := 18) (tgt := 60) dX9_line_18 rfl ?_
    have fz : fX σ53 = fX σ := by first | rfl | exact fX_F (hFσ53 10 10 (show ¬ ((10 = 10 ∧ (10 = 3 ∨ 10 = 4 ∨ 10 = 5 ∨ 10 = 6 ∨ 10 = 7 ∨ 10 = 8 ∨ 10 = 11 ∨ 10 = 12)) ∨ (12 ≤ 10 ∧ 10 < 14) ∨ (14 ≤ 10 ∧ 10 < 23)) from by decide)) (fun j => hFσ53 11 j (show ¬ ((11 = 10 ∧ (j = 3 ∨ j = 4 ∨ j = 5 ∨ j = 6 ∨ j = 7 ∨ j = 8 ∨ j = 11 ∨ j = 12)) ∨ (12 ≤ 11 ∧ 11 < 14) ∨ (14 ≤ 11 ∧ 11 < 23)) from fun h => h.elim (fun h => absurd h.1 (by decide)) (fun h => h.elim (fun h => absurd h (by decide)) (fun h => absurd h (by decide)))))
    refine j_aload_n (pc := 60) dX9_line_60 rfl rfl ?_
    refine j_callV (pc := 61) (As := []) (st := []) (c_X9_lineEnd hX σ53 hIσ53) mv_X9_149 rfl rfl rfl (a_10 hX) dX9_line_61 ⟨Nat.le_of_ble_eq_true rfl, Nat.le_of_ble_eq_true rfl⟩ ⟨Nat.le_refl _, Nat.le_refl _⟩ rfl (Nat.le_of_ble_eq_true rfl) rfl (fun z56 σ57 hz56 => ?_)
    obtain ⟨rfl, hIσ57, hGσ57, q58_0, q58_1, q58_2, q58_3⟩ := hz56
    replace q58_0 : aX σ57 = tok (fX σ53) (need (decide ((aX σ53) 2 = 3)) 2 (aX σ53)) := q58_0
    replace q58_1 : ¬ σ53 10 5 ≤ σ53 10 10 ∨ σ57 10 5 ≤ σ53 10 10 := q58_1
    have y60 : σ53 10 5 = σ 10 5 := (hGσ53 10 5 (show ¬ ((10 = 10 ∧ (5 = 11 ∨ 5 = 12))) from by decide))
    have f61 : (0 : Int) ≤ σ 10 5 ∧ σ 10 5 ≤ 400 := hI 10 5
    have y62 : σ53 10 10 = σ 10 10 := (hGσ53 10 10 (show ¬ ((10 = 10 ∧ (10 = 11 ∨ 10 = 12))) from by decide))
    have f63 : (0 : Int) ≤ σ 10 10 ∧ σ 10 10 ≤ 400 := hI 10 10
    replace q58_2 : ¬ σ53 10 5 ≤ σ53 10 10 ∨ ¬ σ57 10 11 = 0 ∨ ¬ σ57 10 6 = 0 ∨ σ57 10 7 = σ53 10 10 := q58_2
    have y64 : σ53 10 5 = σ 10 5 := (hGσ53 10 5 (show ¬ ((10 = 10 ∧ (5 = 11 ∨ 5 = 12))) from by decide))
    have y65 : σ53 10 10 = σ 10 10 := (hGσ53 10 10 (show ¬ ((10 = 10 ∧ (10 = 11 ∨ 10 = 12))) from by decide))
    replace q58_3 : ¬ σ57 10 11 = 0 ∨ (σ53 10 11 = 0 ∧ σ53 10 5 ≤ σ57 10 5 ∧ (σ57 10 6 = 0 ∨ σ53 10 5 < σ57 10 5)) := q58_3
    have y66 : σ53 10 5 = σ 10 5 := (hGσ53 10 5 (show ¬ ((10 = 10 ∧ (5 = 11 ∨ 5 = 12))) from by decide))
    have hFσ57 : tw_F (fun c j => (c = 10 ∧ (j = 3 ∨ j = 4 ∨ j = 5 ∨ j = 6 ∨ j = 7 ∨ j = 8 ∨ j = 11 ∨ j = 12)) ∨ (12 ≤ c ∧ c < 14) ∨ (14 ≤ c ∧ c < 23)) σ σ57 := tw_F_tr hFσ53 hGσ57 (fun c j q => (show (c = 10 ∧ (j = 3 ∨ j = 4 ∨ j = 5 ∨ j = 6 ∨ j = 7 ∨ j = 8 ∨ j = 11 ∨ j = 12)) ∨ (12 ≤ c ∧ c < 14) ∨ (14 ≤ c ∧ c < 23) from by replace q : (c = 10 ∧ (j = 5 ∨ j = 6 ∨ j = 7 ∨ j = 8 ∨ j = 11 ∨ j = 12)) := q; exact (Or.inl ⟨q.1, (q.2.elim (fun z => (Or.inr (Or.inr (Or.inl z)))) (fun z => (z.elim (fun z => (Or.inr (Or.inr (Or.inr (Or.inl z))))) (fun z => (z.elim (fun z => (Or.inr (Or.inr (Or.inr (Or.inr (Or.inl z)))))) (fun z => (z.elim (fun z => (Or.inr (Or.inr (Or.inr (Or.inr (Or.inr (Or.inl z))))))) (fun z => (z.elim (fun z => (Or.inr (Or.inr (Or.inr (Or.inr (Or.inr (Or.inr (Or.inl z)))))))) (fun z => (Or.inr (Or.inr (Or.inr (Or.inr (Or.inr (Or.inr (Or.inr z)))))))))))))))))⟩)))
    refine j_st (st' := []) rfl ?_
    have c2 := q58_0; rw [fz] at c2
    have cc := lineX_no (by rw [k2]; omega) c1 c2
    exact j_vret (pc := 64) ⟨rfl, rfl⟩ dX9_line_64 rfl ⟨rfl, hIσ57, hFσ57, cc, (by clear q3_0 q54_0 q58_0 q58_2 q58_3; omega), (by clear q3_0 q58_0 q58_3; omega), (by clear q3_0 q58_0 q58_1 q58_2; omega)⟩
abbrev q_X9_readAll  (σ : tw_M) : Option tw_V → tw_M → Prop := fun z τ => z = none ∧ tw_I τ ∧ tw_F (fun c j => (c = 10 ∧ (j = 3 ∨ j = 4 ∨ j = 5 ∨ j = 6 ∨ j = 7 ∨ j = 8 ∨ j = 11 ∨ j = 12 ∨ j = 13)) ∨ (12 ≤ c ∧ c < 14) ∨ (14 ≤ c ∧ c < 23)) σ τ ∧ ((aX τ, τ 10 13) = parse (fX σ))
set_option maxHeartbeats 4000000 in
set_option maxRecDepth 100000 in
theorem l_X9_readAll {G : tw_G} (hX : tw_isX G) (σ : tw_M) (hI : tw_I σ) : ∀ N_ : Nat, (∀ (i : Int) (hi : 0 ≤ i ∧ i ≤ 400) (τ : tw_M) (hIτ : tw_I τ) (hFτ : tw_F (fun c j => (c = 10 ∧ (j = 3 ∨ j = 4 ∨ j = 5 ∨ j = 6 ∨ j = 7 ∨ j = 8 ∨ j = 11 ∨ j = 12 ∨ j = 13)) ∨ (12 ≤ c ∧ c < 14) ∨ (14 ≤ c ∧ c < 23)) σ τ) (i0 : τ 10 13 ≤ i) (i1 : itK lstop (lstep (fX σ)) (500 - i).toNat (aX τ, τ 10 13) = lns (fX σ)) (i2 : ¬ τ 10 11 = 0 ∨ τ 10 6 = 0 ∨ i + 1 ≤ τ 10 5) (i3 : τ 10 5 ≤ σ 10 10) (i4 : ¬ τ 10 11 = 0 ∨ ¬ τ 10 6 = 0 ∨ τ 10 7 = σ 10 10) (hm : (400 - i).toNat < N_), tw_J G (tw_mt RX9 cX9_readAll 2 none 8) (tw_E G (q_X9_readAll σ)) 10 [(0, vR 10), (1, vI i)] [] τ) := by
  intro N_
  induction N_ with
  | zero => exact fun i hi τ hIτ hFτ i0 i1 i2 i3 i4 hm => absurd hm (Nat.not_lt_zero _)
  | succ N_ ih =>
    intro i hi τ hIτ hFτ i0 i1 i2 i3 i4 hm
    have fx : fX τ = fX σ := fX_F (hFτ 10 10 (show ¬ ((10 = 10 ∧ (10 = 3 ∨ 10 = 4 ∨ 10 = 5 ∨ 10 = 6 ∨ 10 = 7 ∨ 10 = 8 ∨ 10 = 11 ∨ 10 = 12 ∨ 10 = 13)) ∨ (12 ≤ 10 ∧ 10 < 14) ∨ (14 ≤ 10 ∧ 10 < 23)) from by decide)) (fun j => hFτ 11 j (show ¬ ((11 = 10 ∧ (j = 3 ∨ j = 4 ∨ j = 5 ∨ j = 6 ∨ j = 7 ∨ j = 8 ∨ j = 11 ∨ j = 12 ∨ j = 13)) ∨ (12 ≤ 11 ∧ 11 < 14) ∨ (14 ≤ 11 ∧ 11 < 23)) from fun h => h.elim (fun h => absurd h.1 (by decide)) (fun h => h.elim (fun h => absurd h (by decide)) (fun h => absurd h (by decide)))))
    have f10 : (0 : Int) ≤ σ 10 10 ∧ σ 10 10 ≤ 400 := hI 10 10
    have e10 : τ 10 10 = σ 10 10 := hFτ 10 10 (show ¬ ((10 = 10 ∧ (10 = 3 ∨ 10 = 4 ∨ 10 = 5 ∨ 10 = 6 ∨ 10 = 7 ∨ 10 = 8 ∨ 10 = 11 ∨ 10 = 12 ∨ 10 = 13)) ∨ (12 ≤ 10 ∧ 10 < 14) ∨ (14 ≤ 10 ∧ 10 < 23)) from by decide); have f05 : (0 : Int) ≤ σ 10 5 ∧ σ 10 5 ≤ 400 := hI 10 5; have f15 : (0 : Int) ≤ τ 10 5 ∧ τ 10 5 ≤ 400 := hIτ 10 5
    refine j_iload_n (pc := 10) dX9_readAll_10 rfl rfl ?_
    refine j_sipush (pc := 11) dX9_readAll_11 rfl ?_
    refine j_icmpR_ge (pc := 14) (tgt := 51) ⟨by omega, by omega⟩ ⟨by omega, by omega⟩ dX9_readAll_14 rfl (fun h1 => ?_) (fun h1 => ?_)
    · refine j_aload_n (pc := 51) dX9_readAll_51 rfl rfl ?_
      refine j_getI (pc := 52) fl_X9_33 dX9_readAll_52 (a_10 hX) rfl ?_
      have f2 : (0 : Int) ≤ τ 10 11 ∧ τ 10 11 ≤ 5 := hIτ 10 11
      refine j_ifR_ne (pc := 55) (tgt := 81) ⟨by omega, by omega⟩ dX9_readAll_55 rfl (fun h3 => ?_) (fun h3 => ?_)
      · exact j_vret (pc := 81) ⟨rfl, rfl⟩ dX9_readAll_81 rfl ⟨rfl, hIτ, hFτ, (by first | exact parse_t i1 (by omega) | (rw [show τ 10 13 = τ 10 13 from rfl]; exact parse_f i1 (by omega) (by omega) (by omega) ⟨by omega, by omega⟩))⟩
      · refine j_aload_n (pc := 58) dX9_readAll_58 rfl rfl ?_
        refine j_getI (pc := 59) fl_X9_54 dX9_readAll_59 (a_10 hX) rfl ?_
        have f4 : (0 : Int) ≤ τ 10 4 ∧ τ 10 4 ≤ 40 := hIτ 10 4
        refine j_aload_n (pc := 62) dX9_readAll_62 rfl rfl ?_
        refine j_getR (pc := 63) (r := 14) fl_X9_25 dX9_readAll_63 (a_10 hX) rfl ?_
        refine j_callV (pc := 66) (As := []) (st := [vI (τ 10 4)]) (c_X10_top 14 (s_Wall_14 hX) τ hIτ) mv_X9_57 rfl rfl rfl (a_14 hX) dX9_readAll_66 ⟨Nat.le_of_ble_eq_true rfl, Nat.le_of_ble_eq_true rfl⟩ ⟨Nat.le_refl _, Nat.le_refl _⟩ rfl (Nat.le_of_ble_eq_true rfl) rfl (fun z5 σ6 hz5 => ?_)
        obtain ⟨r8, rfl, hr8, rfl, q7_0⟩ := hz5
        replace q7_0 : r8 = τ 15 0 := q7_0
        refine j_st (st' := [vI r8, vI (τ 10 4)]) rfl ?_
        refine j_icmpR_le (pc := 69) (tgt := 81) ⟨by omega, by omega⟩ ⟨by omega, by omega⟩ dX9_readAll_69 rfl (fun h9 => ?_) (fun h9 => ?_)
        · exact j_vret (pc := 81) ⟨rfl, rfl⟩ dX9_readAll_81 rfl ⟨rfl, hIτ, hFτ, (by first | exact parse_t i1 (by omega) | (rw [show τ 10 13 = τ 10 13 from rfl]; exact parse_f i1 (by omega) (by omega) (by omega) ⟨by omega, by omega⟩))⟩
        · refine j_aload_n (pc := 72) dX9_readAll_72 rfl rfl ?_
          refine j_iconst (pc := 73) dX9_readAll_73 ?_
          refine j_aload_n (pc := 74) dX9_readAll_74 rfl rfl ?_
          refine j_getI (pc := 75) fl_X9_29 dX9_readAll_75 (a_10 hX) rfl ?_
          have f10 : (0 : Int) ≤ τ 10 10 ∧ τ 10 10 ≤ 400 := hIτ 10 10
          refine j_callV (pc := 78) (As := [vI 5, vI (τ 10 10)]) (st := []) (c_X9_fail hX 5 (by (first | decide | exact ⟨by omega, by omega⟩)) (τ 10 10) ⟨by omega, by omega⟩ τ hIτ) mv_X9_61 rfl rfl rfl (a_10 hX) dX9_readAll_78 ⟨Nat.le_of_ble_eq_true rfl, Nat.le_of_ble_eq_true rfl⟩ ⟨Nat.le_refl _, Nat.le_refl _⟩ rfl (Nat.le_of_ble_eq_true rfl) rfl (fun z11 σ12 hz11 => ?_)
          obtain ⟨rfl, hIσ12, hGσ12, q13_0⟩ := hz11
          replace q13_0 : (τ 10 11 = 0 ∧ σ12 10 11 = (5 : Int) ∧ σ12 10 12 = (τ 10 10)) ∨ (¬ τ 10 11 = 0 ∧ σ12 10 11 = τ 10 11 ∧ σ12 10 12 = τ 10 12) := q13_0
          have hFσ12 : tw_F (fun c j => (c = 10 ∧ (j = 3 ∨ j = 4 ∨ j = 5 ∨ j = 6 ∨ j = 7 ∨ j = 8 ∨ j = 11 ∨ j = 12 ∨ j = 13)) ∨ (12 ≤ c ∧ c < 14) ∨ (14 ≤ c ∧ c < 23)) σ σ12 := tw_F_tr hFτ hGσ12 (fun c j q => (show (c = 10 ∧ (j = 3 ∨ j = 4 ∨ j = 5 ∨ j = 6 ∨ j = 7 ∨ j = 8 ∨ j = 11 ∨ j = 12 ∨ j = 13)) ∨ (12 ≤ c ∧ c < 14) ∨ (14 ≤ c ∧ c < 23) from by replace q : (c = 10 ∧ (j = 11 ∨ j = 12)) := q; exact (Or.inl ⟨q.1, (q.2.elim (fun z => (Or.inr (Or.inr (Or.inr (Or.inr (Or.inr (Or.inr (Or.inl z)))))))) (fun z => (Or.inr (Or.inr (Or.inr (Or.inr (Or.inr (Or.inr (Or.inr (Or.inl z))))))))))⟩)))
          refine j_st (st' := []) rfl ?_
          have y15 : σ12 10 13 = τ 10 13 := (hGσ12 10 13 (show ¬ ((10 = 10 ∧ (13 = 11 ∨ 13 = 12))) from by decide))
          have f16 : (0 : Int) ≤ τ 10 13 ∧ τ 10 13 ≤ 400 := hIτ 10 13
          exact j_vret (pc := 81) ⟨rfl, rfl⟩ dX9_readAll_81 rfl ⟨rfl, hIσ12, hFσ12, (by first | exact parse_t i1 (by omega) | (rw [show σ12 10 13 = τ 10 13 from (hGσ12 10 13 (show ¬ ((10 = 10 ∧ (13 = 11 ∨ 13 = 12))) from by decide))]; exact parse_f i1 (by omega) (by omega) (by omega) ⟨by omega, by omega⟩))⟩
    · refine j_aload_n (pc := 17) dX9_readAll_17 rfl rfl ?_
      refine j_getI (pc := 18) fl_X9_33 dX9_readAll_18 (a_10 hX) rfl ?_
      have f17 : (0 : Int) ≤ τ 10 11 ∧ τ 10 11 ≤ 5 := hIτ 10 11
      refine j_ifR_ne (pc := 21) (tgt := 51) ⟨by omega, by omega⟩ dX9_readAll_21 rfl (fun h18 => ?_) (fun h18 => ?_)
      · refine j_aload_n (pc := 51) dX9_readAll_51 rfl rfl ?_
        refine j_getI (pc := 52) fl_X9_33 dX9_readAll_52 (a_10 hX) rfl ?_
        refine j_ifR_ne (pc := 55) (tgt := 81) ⟨by omega, by omega⟩ dX9_readAll_55 rfl (fun h19 => ?_) (fun h19 => by exfalso; omega)
        exact j_vret (pc := 81) ⟨rfl, rfl⟩ dX9_readAll_81 rfl ⟨rfl, hIτ, hFτ, (by first | exact parse_t i1 (by omega) | (rw [show τ 10 13 = τ 10 13 from rfl]; exact parse_f i1 (by omega) (by omega) (by omega) ⟨by omega, by omega⟩))⟩
      · refine j_aload_n (pc := 24) dX9_readAll_24 rfl rfl ?_
        refine j_getI (pc := 25) fl_X9_48 dX9_readAll_25 (a_10 hX) rfl ?_
        have f20 : (0 : Int) ≤ τ 10 6 ∧ τ 10 6 ≤ 3 := hIτ 10 6
        refine j_ifR_eq (pc := 28) (tgt := 51) ⟨by omega, by omega⟩ dX9_readAll_28 rfl (fun h21 => ?_) (fun h21 => ?_)
        · refine j_aload_n (pc := 51) dX9_readAll_51 rfl rfl ?_
          refine j_getI (pc := 52) fl_X9_33 dX9_readAll_52 (a_10 hX) rfl ?_
          refine j_ifR_ne (pc := 55) (tgt := 81) ⟨by omega, by omega⟩ dX9_readAll_55 rfl (fun h22 => by exfalso; omega) (fun h22 => ?_)
          refine j_aload_n (pc := 58) dX9_readAll_58 rfl rfl ?_
          refine j_getI (pc := 59) fl_X9_54 dX9_readAll_59 (a_10 hX) rfl ?_
          have f23 : (0 : Int) ≤ τ 10 4 ∧ τ 10 4 ≤ 40 := hIτ 10 4
          refine j_aload_n (pc := 62) dX9_readAll_62 rfl rfl ?_
          refine j_getR (pc := 63) (r := 14) fl_X9_25 dX9_readAll_63 (a_10 hX) rfl ?_
          refine j_callV (pc := 66) (As := []) (st := [vI (τ 10 4)]) (c_X10_top 14 (s_Wall_14 hX) τ hIτ) mv_X9_57 rfl rfl rfl (a_14 hX) dX9_readAll_66 ⟨Nat.le_of_ble_eq_true rfl, Nat.le_of_ble_eq_true rfl⟩ ⟨Nat.le_refl _, Nat.le_refl _⟩ rfl (Nat.le_of_ble_eq_true rfl) rfl (fun z24 σ25 hz24 => ?_)
          obtain ⟨r27, rfl, hr27, rfl, q26_0⟩ := hz24
          replace q26_0 : r27 = τ 15 0 := q26_0
          refine j_st (st' := [vI r27, vI (τ 10 4)]) rfl ?_
          refine j_icmpR_le (pc := 69) (tgt := 81) ⟨by omega, by omega⟩ ⟨by omega, by omega⟩ dX9_readAll_69 rfl (fun h28 => ?_) (fun h28 => ?_)
          · exact j_vret (pc := 81) ⟨rfl, rfl⟩ dX9_readAll_81 rfl ⟨rfl, hIτ, hFτ, (by first | exact parse_t i1 (by omega) | (rw [show τ 10 13 = τ 10 13 from rfl]; exact parse_f i1 (by omega) (by omega) (by omega) ⟨by omega, by omega⟩))⟩
          · refine j_aload_n (pc := 72) dX9_readAll_72 rfl rfl ?_
            refine j_iconst (pc := 73) dX9_readAll_73 ?_
            refine j_aload_n (pc := 74) dX9_readAll_74 rfl rfl ?_
            refine j_getI (pc := 75) fl_X9_29 dX9_readAll_75 (a_10 hX) rfl ?_
            have f29 : (0 : Int) ≤ τ 10 10 ∧ τ 10 10 ≤ 400 := hIτ 10 10
            refine j_callV (pc := 78) (As := [vI 5, vI (τ 10 10)]) (st := []) (c_X9_fail hX 5 (by (first | decide | exact ⟨by omega, by omega⟩)) (τ 10 10) ⟨by omega, by omega⟩ τ hIτ) mv_X9_61 rfl rfl rfl (a_10 hX) dX9_readAll_78 ⟨Nat.le_of_ble_eq_true rfl, Nat.le_of_ble_eq_true rfl⟩ ⟨Nat.le_refl _, Nat.le_refl _⟩ rfl (Nat.le_of_ble_eq_true rfl) rfl (fun z30 σ31 hz30 => ?_)
            obtain ⟨rfl, hIσ31, hGσ31, q32_0⟩ := hz30
            replace q32_0 : (τ 10 11 = 0 ∧ σ31 10 11 = (5 : Int) ∧ σ31 10 12 = (τ 10 10)) ∨ (¬ τ 10 11 = 0 ∧ σ31 10 11 = τ 10 11 ∧ σ31 10 12 = τ 10 12) := q32_0
            have hFσ31 : tw_F (fun c j => (c = 10 ∧ (j = 3 ∨ j = 4 ∨ j = 5 ∨ j = 6 ∨ j = 7 ∨ j = 8 ∨ j = 11 ∨ j = 12 ∨ j = 13)) ∨ (12 ≤ c ∧ c < 14) ∨ (14 ≤ c ∧ c < 23)) σ σ31 := tw_F_tr hFτ hGσ31 (fun c j q => (show (c = 10 ∧ (j = 3 ∨ j = 4 ∨ j = 5 ∨ j = 6 ∨ j = 7 ∨ j = 8 ∨ j = 11 ∨ j = 12 ∨ j = 13)) ∨ (12 ≤ c ∧ c < 14) ∨ (14 ≤ c ∧ c < 23) from by replace q : (c = 10 ∧ (j = 11 ∨ j = 12)) := q; exact (Or.inl ⟨q.1, (q.2.elim (fun z => (Or.inr (Or.inr (Or.inr (Or.inr (Or.inr (Or.inr (Or.inl z)))))))) (fun z => (Or.inr (Or.inr (Or.inr (Or.inr (Or.inr (Or.inr (Or.inr (Or.inl z))))))))))⟩)))
            refine j_st (st' := []) rfl ?_
            have y34 : σ31 10 13 = τ 10 13 := (hGσ31 10 13 (show ¬ ((10 = 10 ∧ (13 = 11 ∨ 13 = 12))) from by decide))
            have f35 : (0 : Int) ≤ τ 10 13 ∧ τ 10 13 ≤ 400 := hIτ 10 13
            exact j_vret (pc := 81) ⟨rfl, rfl⟩ dX9_readAll_81 rfl ⟨rfl, hIσ31, hFσ31, (by first | exact parse_t i1 (by omega) | (rw [show σ31 10 13 = τ 10 13 from (hGσ31 10 13 (show ¬ ((10 = 10 ∧ (13 = 11 ∨ 13 = 12))) from by decide))]; exact parse_f i1 (by omega) (by omega) (by omega) ⟨by omega, by omega⟩))⟩
        · refine j_aload_n (pc := 31) dX9_readAll_31 rfl rfl ?_
          refine j_callV (pc := 32) (As := []) (st := []) (c_X9_line hX τ hIτ (by omega)) mv_X9_51 rfl rfl rfl (a_10 hX) dX9_readAll_32 ⟨Nat.le_of_ble_eq_true rfl, Nat.le_of_ble_eq_true rfl⟩ ⟨Nat.le_refl _, Nat.le_refl _⟩ rfl (Nat.le_of_ble_eq_true rfl) rfl (fun z36 σ37 hz36 => ?_)
          obtain ⟨rfl, hIσ37, hGσ37, q38_0, q38_1, q38_2, q38_3⟩ := hz36
          replace q38_0 : aX σ37 = lineX (fX τ) (aX τ) := q38_0
          replace q38_1 : ¬ τ 10 5 ≤ τ 10 10 ∨ σ37 10 5 ≤ τ 10 10 := q38_1
          replace q38_2 : ¬ τ 10 5 ≤ τ 10 10 ∨ ¬ σ37 10 11 = 0 ∨ ¬ σ37 10 6 = 0 ∨ σ37 10 7 = τ 10 10 := q38_2
          replace q38_3 : ¬ σ37 10 11 = 0 ∨ (τ 10 11 = 0 ∧ τ 10 5 ≤ σ37 10 5 ∧ (σ37 10 6 = 0 ∨ τ 10 5 < σ37 10 5)) := q38_3
          have hFσ37 : tw_F (fun c j => (c = 10 ∧ (j = 3 ∨ j = 4 ∨ j = 5 ∨ j = 6 ∨ j = 7 ∨ j = 8 ∨ j = 11 ∨ j = 12 ∨ j = 13)) ∨ (12 ≤ c ∧ c < 14) ∨ (14 ≤ c ∧ c < 23)) σ σ37 := tw_F_tr hFτ hGσ37 (fun c j q => (show (c = 10 ∧ (j = 3 ∨ j = 4 ∨ j = 5 ∨ j = 6 ∨ j = 7 ∨ j = 8 ∨ j = 11 ∨ j = 12 ∨ j = 13)) ∨ (12 ≤ c ∧ c < 14) ∨ (14 ≤ c ∧ c < 23) from by replace q : (c = 10 ∧ (j = 3 ∨ j = 4 ∨ j = 5 ∨ j = 6 ∨ j = 7 ∨ j = 8 ∨ j = 11 ∨ j = 12)) ∨ (12 ≤ c ∧ c < 14) ∨ (14 ≤ c ∧ c < 23) := q; exact (q.elim (fun q => (Or.inl ⟨q.1, (q.2.elim (fun z => (Or.inl z)) (fun z => (z.elim (fun z => (Or.inr (Or.inl z))) (fun z => (z.elim (fun z => (Or.inr (Or.inr (Or.inl z)))) (fun z => (z.elim (fun z => (Or.inr (Or.inr (Or.inr (Or.inl z))))) (fun z => (z.elim (fun z => (Or.inr (Or.inr (Or.inr (Or.inr (Or.inl z)))))) (fun z => (z.elim (fun z => (Or.inr (Or.inr (Or.inr (Or.inr (Or.inr (Or.inl z))))))) (fun z => (z.elim (fun z => (Or.inr (Or.inr (Or.inr (Or.inr (Or.inr (Or.inr (Or.inl z)))))))) (fun z => (Or.inr (Or.inr (Or.inr (Or.inr (Or.inr (Or.inr (Or.inr (Or.inl z))))))))))))))))))))))⟩)) (fun q => (q.elim (fun q => (Or.inr (Or.inl q))) (fun q => (Or.inr (Or.inr q))))))))
          refine j_st (st' := []) rfl ?_
          have cl := q38_0; rw [fx] at cl
          refine j_aload_n (pc := 35) dX9_readAll_35 rfl rfl ?_
          refine j_dup (pc := 36) dX9_readAll_36 rfl ?_
          refine j_getI (pc := 37) fl_X9_39 dX9_readAll_37 (a_10 hX) rfl ?_
          refine j_topV (show σ37 10 13 = τ 10 13 from (hGσ37 10 13 (show ¬ ((10 = 10 ∧ (13 = 3 ∨ 13 = 4 ∨ 13 = 5 ∨ 13 = 6 ∨ 13 = 7 ∨ 13 = 8 ∨ 13 = 11 ∨ 13 = 12)) ∨ (12 ≤ 10 ∧ 10 < 14) ∨ (14 ≤ 10 ∧ 10 < 23)) from by decide))) ?_
          have f40 : (0 : Int) ≤ τ 10 13 ∧ τ 10 13 ≤ 400 := hIτ 10 13
          refine j_iconst (pc := 40) dX9_readAll_40 ?_
          refine j_iadd (pc := 41) dX9_readAll_41 ?_
          refine j_putI (pc := 42) fl_X9_39 fp_X9_13 dX9_readAll_42 (a_10 hX) rfl (j_nm (fun σ41 (eσ41 : σ41 = tw_up σ37 10 13 ((τ 10 13) + 1)) => ?_))
          have hIσ41 : tw_I σ41 := tw_I_up hIσ37 eσ41 (show (0 : Int) ≤ (τ 10 13) + 1 ∧ (τ 10 13) + 1 ≤ 400 from ⟨by omega, by omega⟩)
          have hFσ41 : tw_F (fun c j => (c = 10 ∧ (j = 3 ∨ j = 4 ∨ j = 5 ∨ j = 6 ∨ j = 7 ∨ j = 8 ∨ j = 11 ∨ j = 12 ∨ j = 13)) ∨ (12 ≤ c ∧ c < 14) ∨ (14 ≤ c ∧ c < 23)) σ σ41 := tw_F_up hFσ37 eσ41 (show (10 = 10 ∧ (13 = 3 ∨ 13 = 4 ∨ 13 = 5 ∨ 13 = 6 ∨ 13 = 7 ∨ 13 = 8 ∨ 13 = 11 ∨ 13 = 12 ∨ 13 = 13)) ∨ (12 ≤ 10 ∧ 10 < 14) ∨ (14 ≤ 10 ∧ 10 < 23) from (Or.inl ⟨rfl, (Or.inr (Or.inr (Or.inr (Or.inr (Or.inr (Or.inr (Or.inr (Or.inr rfl))))))))⟩))
          have y42 : σ41 10 13 = (τ 10 13) + 1 := (tw_eq1 eσ41)
          have lx := lns_s (τ := σ41) (m := σ41 10 13) i1 ⟨by omega, by omega⟩ (by omega) (by omega) ((aX_13 eσ41).trans cl) (by omega)
          refine j_iinc (pc := 45) (i := 1) (n := 1) (ls' := [(0, vR 10), (1, vI (i + 1))]) [1, 0] dX9_readAll_45 rfl (Nat.le_of_ble_eq_true rfl) rfl rfl ?_
          refine j_goto (pc := 48) (tgt := 10) dX9_readAll_48 rfl ?_
          refine j_ls (ls' := [(0, vR 10), (1, vI (i + 1))]) [0, 1] rfl ?_
          have y43 : σ41 10 13 = (τ 10 13) + 1 := (tw_eq1 eσ41)
          have y44 : σ41 10 13 = (τ 10 13) + 1 := (tw_eq1 eσ41)
          have y45 : σ41 10 11 = σ37 10 11 := (tw_ne1 eσ41 (by (first | decide | omega)))
          have f46 : (0 : Int) ≤ σ37 10 11 ∧ σ37 10 11 ≤ 5 := hIσ37 10 11
          have y47 : σ41 10 6 = σ37 10 6 := (tw_ne1 eσ41 (by (first | decide | omega)))
          have f48 : (0 : Int) ≤ σ37 10 6 ∧ σ37 10 6 ≤ 3 := hIσ37 10 6
          have y49 : σ41 10 5 = σ37 10 5 := (tw_ne1 eσ41 (by (first | decide | omega)))
          have f50 : (0 : Int) ≤ σ37 10 5 ∧ σ37 10 5 ≤ 400 := hIσ37 10 5
          have y51 : σ41 10 5 = σ37 10 5 := (tw_ne1 eσ41 (by (first | decide | omega)))
          have y52 : σ41 10 11 = σ37 10 11 := (tw_ne1 eσ41 (by (first | decide | omega)))
          have y53 : σ41 10 6 = σ37 10 6 := (tw_ne1 eσ41 (by (first | decide | omega)))
          have y54 : σ41 10 7 = σ37 10 7 := (tw_ne1 eσ41 (by (first | decide | omega)))
          have f55 : (0 : Int) ≤ σ37 10 7 ∧ σ37 10 7 ≤ 400 := hIσ37 10 7
          exact ih (i + 1) ⟨by omega, by omega⟩ σ41 hIσ41 hFσ41 (show σ41 10 13 ≤ (i + 1) from by omega) (show itK lstop (lstep (fX σ)) (500 - (i + 1)).toNat (aX σ41, σ41 10 13) = lns (fX σ) from (by first | exact lx | exact lns_0 cb (by omega))) (show ¬ σ41 10 11 = 0 ∨ σ41 10 6 = 0 ∨ (i + 1) + 1 ≤ σ41 10 5 from by omega) (show σ41 10 5 ≤ σ 10 10 from by omega) (show ¬ σ41 10 11 = 0 ∨ ¬ σ41 10 6 = 0 ∨ σ41 10 7 = σ 10 10 from by omega) (show (400 - (i + 1)).toNat < N_ from by omega)
set_option maxHeartbeats 4000000 in
set_option maxRecDepth 100000 in
theorem c_X9_readAll {G : tw_G} (hX : tw_isX G) (σ : tw_M) (hI : tw_I σ) : tw_C G yX9_readAll cX9_readAll 2 none 8 [vR 10] σ (q_X9_readAll σ) := by
  refine tw_met [(0, vR 10)] (by decide +kernel) rfl (Nat.le_of_ble_eq_true rfl) ?_
  refine j_aload_n (pc := 0) dX9_readAll_0 rfl rfl ?_
  refine j_callV (pc := 1) (As := []) (st := []) (c_X9_begin hX σ hI) mv_X9_42 rfl rfl rfl (a_10 hX) dX9_readAll_1 ⟨Nat.le_of_ble_eq_true rfl, Nat.le_of_ble_eq_true rfl⟩ ⟨Nat.le_refl _, Nat.le_refl _⟩ rfl (Nat.le_of_ble_eq_true rfl) rfl (fun z56 σ57 hz56 => ?_)
  obtain ⟨rfl, hIσ57, hGσ57, q58_0, q58_1, q58_2, q58_3, q58_4, q58_5, q58_6⟩ := hz56
  replace q58_0 : σ57 10 3 = 0 := q58_0
  replace q58_1 : σ57 10 4 = 0 := q58_1
  replace q58_2 : σ57 10 5 = 0 := q58_2
  replace q58_3 : σ57 10 11 = 0 := q58_3
  replace q58_4 : σ57 10 12 = 0 := q58_4
  replace q58_5 : σ57 10 13 = 0 := q58_5
  replace q58_6 : drX σ57 = D0 := q58_6
  have hFσ57 : tw_F (fun c j => (c = 10 ∧ (j = 3 ∨ j = 4 ∨ j = 5 ∨ j = 6 ∨ j = 7 ∨ j = 8 ∨ j = 11 ∨ j = 12 ∨ j = 13)) ∨ (12 ≤ c ∧ c < 14) ∨ (14 ≤ c ∧ c < 23)) σ σ57 := tw_F_tr (tw_F_rf) hGσ57 (fun c j q => (show (c = 10 ∧ (j = 3 ∨ j = 4 ∨ j = 5 ∨ j = 6 ∨ j = 7 ∨ j = 8 ∨ j = 11 ∨ j = 12 ∨ j = 13)) ∨ (12 ≤ c ∧ c < 14) ∨ (14 ≤ c ∧ c < 23) from by replace q : (c = 10 ∧ (j = 3 ∨ j = 4 ∨ j = 5 ∨ j = 11 ∨ j = 12 ∨ j = 13)) ∨ (12 ≤ c ∧ c < 14) ∨ (14 ≤ c ∧ c < 23) := q; exact (q.elim (fun q => (Or.inl ⟨q.1, (q.2.elim (fun z => (Or.inl z)) (fun z => (z.elim (fun z => (Or.inr (Or.inl z))) (fun z => (z.elim (fun z => (Or.inr (Or.inr (Or.inl z)))) (fun z => (z.elim (fun z => (Or.inr (Or.inr (Or.inr (Or.inr (Or.inr (Or.inr (Or.inl z)))))))) (fun z => (z.elim (fun z => (Or.inr (Or.inr (Or.inr (Or.inr (Or.inr (Or.inr (Or.inr (Or.inl z))))))))) (fun z => (Or.inr (Or.inr (Or.inr (Or.inr (Or.inr (Or.inr (Or.inr (Or.inr z))))))))))))))))))⟩)) (fun q => (q.elim (fun q => (Or.inr (Or.inl q))) (fun q => (Or.inr (Or.inr q))))))))
  refine j_st (st' := []) rfl ?_
  refine j_aload_n (pc := 4) dX9_readAll_4 rfl rfl ?_
  have fz : fX σ57 = fX σ := by first | rfl | exact fX_F (hFσ57 10 10 (show ¬ ((10 = 10 ∧ (10 = 3 ∨ 10 = 4 ∨ 10 = 5 ∨ 10 = 6 ∨ 10 = 7 ∨ 10 = 8 ∨ 10 = 11 ∨ 10 = 12 ∨ 10 = 13)) ∨ (12 ≤ 10 ∧ 10 < 14) ∨ (14 ≤ 10 ∧ 10 < 23)) from by decide)) (fun j => hFσ57 11 j (show ¬ ((11 = 10 ∧ (j = 3 ∨ j = 4 ∨ j = 5 ∨ j = 6 ∨ j = 7 ∨ j = 8 ∨ j = 11 ∨ j = 12 ∨ j = 13)) ∨ (12 ≤ 11 ∧ 11 < 14) ∨ (14 ≤ 11 ∧ 11 < 23)) from fun h => h.elim (fun h => absurd h.1 (by decide)) (fun h => h.elim (fun h => absurd h (by decide)) (fun h => absurd h (by decide)))))
  refine j_callV (pc := 5) (As := []) (st := []) (c_X9_advance hX σ57 hIσ57) mv_X9_45 rfl rfl rfl (a_10 hX) dX9_readAll_5 ⟨Nat.le_of_ble_eq_true rfl, Nat.le_of_ble_eq_true rfl⟩ ⟨Nat.le_refl _, Nat.le_refl _⟩ rfl (Nat.le_of_ble_eq_true rfl) rfl (fun z60 σ61 hz60 => ?_)
  obtain ⟨rfl, hIσ61, hGσ61, q62_0, q62_1, q62_2, q62_3⟩ := hz60
  replace q62_0 : aX σ61 = tok (fX σ57) (aX σ57) := q62_0
  replace q62_1 : ¬ σ57 10 5 ≤ σ57 10 10 ∨ σ61 10 5 ≤ σ57 10 10 := q62_1
  have y64 : σ57 10 10 = σ 10 10 := (hGσ57 10 10 (show ¬ ((10 = 10 ∧ (10 = 3 ∨ 10 = 4 ∨ 10 = 5 ∨ 10 = 11 ∨ 10 = 12 ∨ 10 = 13)) ∨ (12 ≤ 10 ∧ 10 < 14) ∨ (14 ≤ 10 ∧ 10 < 23)) from by decide))
  have f65 : (0 : Int) ≤ σ 10 10 ∧ σ 10 10 ≤ 400 := hI 10 10
  replace q62_2 : ¬ σ57 10 5 ≤ σ57 10 10 ∨ ¬ σ61 10 11 = 0 ∨ ¬ σ61 10 6 = 0 ∨ σ61 10 7 = σ57 10 10 := q62_2
  have y66 : σ57 10 10 = σ 10 10 := (hGσ57 10 10 (show ¬ ((10 = 10 ∧ (10 = 3 ∨ 10 = 4 ∨ 10 = 5 ∨ 10 = 11 ∨ 10 = 12 ∨ 10 = 13)) ∨ (12 ≤ 10 ∧ 10 < 14) ∨ (14 ≤ 10 ∧ 10 < 23)) from by decide))
  replace q62_3 : ¬ σ61 10 11 = 0 ∨ (σ57 10 11 = 0 ∧ σ57 10 5 ≤ σ61 10 5 ∧ (σ61 10 6 = 0 ∨ σ57 10 5 < σ61 10 5)) := q62_3
  have hFσ61 : tw_F (fun c j => (c = 10 ∧ (j = 3 ∨ j = 4 ∨ j = 5 ∨ j = 6 ∨ j = 7 ∨ j = 8 ∨ j = 11 ∨ j = 12 ∨ j = 13)) ∨ (12 ≤ c ∧ c < 14) ∨ (14 ≤ c ∧ c < 23)) σ σ61 := tw_F_tr hFσ57 hGσ61 (fun c j q => (show (c = 10 ∧ (j = 3 ∨ j = 4 ∨ j = 5 ∨ j = 6 ∨ j = 7 ∨ j = 8 ∨ j = 11 ∨ j = 12 ∨ j = 13)) ∨ (12 ≤ c ∧ c < 14) ∨ (14 ≤ c ∧ c < 23) from by replace q : (c = 10 ∧ (j = 5 ∨ j = 6 ∨ j = 7 ∨ j = 8 ∨ j = 11 ∨ j = 12)) := q; exact (Or.inl ⟨q.1, (q.2.elim (fun z => (Or.inr (Or.inr (Or.inl z)))) (fun z => (z.elim (fun z => (Or.inr (Or.inr (Or.inr (Or.inl z))))) (fun z => (z.elim (fun z => (Or.inr (Or.inr (Or.inr (Or.inr (Or.inl z)))))) (fun z => (z.elim (fun z => (Or.inr (Or.inr (Or.inr (Or.inr (Or.inr (Or.inl z))))))) (fun z => (z.elim (fun z => (Or.inr (Or.inr (Or.inr (Or.inr (Or.inr (Or.inr (Or.inl z)))))))) (fun z => (Or.inr (Or.inr (Or.inr (Or.inr (Or.inr (Or.inr (Or.inr (Or.inl z))))))))))))))))))⟩)))
  refine j_st (st' := []) rfl ?_
  have cb := q62_0; rw [fz, aX_ok (σ := σ57) (by omega), q58_6, show _ = (0 : Int) from q58_2] at cb
  refine j_iconst (pc := 8) dX9_readAll_8 ?_
  refine j_istore_n (pc := 9) (i := 1) (ls' := [(0, vR 10), (1, vI 0)]) [1, 0] dX9_readAll_9 rfl (Nat.le_of_ble_eq_true rfl) rfl rfl ?_
  refine j_ls (ls' := [(0, vR 10), (1, vI 0)]) [0, 1] rfl ?_
  have y67 : σ61 10 13 = σ57 10 13 := (hGσ61 10 13 (show ¬ ((10 = 10 ∧ (13 = 5 ∨ 13 = 6 ∨ 13 = 7 ∨ 13 = 8 ∨ 13 = 11 ∨ 13 = 12))) from by decide))
  have f68 : (0 : Int) ≤ σ57 10 13 ∧ σ57 10 13 ≤ 400 := hIσ57 10 13
  have y69 : σ61 10 13 = σ57 10 13 := (hGσ61 10 13 (show ¬ ((10 = 10 ∧ (13 = 5 ∨ 13 = 6 ∨ 13 = 7 ∨ 13 = 8 ∨ 13 = 11 ∨ 13 = 12))) from by decide))
  exact (l_X9_readAll hX σ hI (((400 - (0 : Int)).toNat) + 1)) 0 (by (first | decide | exact ⟨by omega, by omega⟩)) σ61 hIσ61 hFσ61 (show σ61 10 13 ≤ (0 : Int) from by omega) (show itK lstop (lstep (fX σ)) (500 - (0 : Int)).toNat (aX σ61, σ61 10 13) = lns (fX σ) from (by first | exact lx | exact lns_0 cb (by omega))) (show ¬ σ61 10 11 = 0 ∨ σ61 10 6 = 0 ∨ (0 : Int) + 1 ≤ σ61 10 5 from by omega) (show σ61 10 5 ≤ σ 10 10 from by omega) (show ¬ σ61 10 11 = 0 ∨ ¬ σ61 10 6 = 0 ∨ σ61 10 7 = σ 10 10 from by omega) (Nat.lt_succ_self _)
