/-! 19an.tape -/
theorem dX9_lineEnd_0 : decode cX9_lineEnd 0 = .ok (.aload_n 0, 1) := by decide +kernel
theorem dX9_lineEnd_1 : decode cX9_lineEnd 1 = .ok (.getfield 48, 3) := by decide +kernel
theorem dX9_lineEnd_4 : decode cX9_lineEnd 4 = .ok (.iconst 3, 1) := by decide +kernel
theorem dX9_lineEnd_5 : decode cX9_lineEnd 5 = .ok (.if_icmp .eq 12, 3) := by decide +kernel
theorem dX9_lineEnd_8 : decode cX9_lineEnd 8 = .ok (.aload_n 0, 1) := by decide +kernel
theorem dX9_lineEnd_9 : decode cX9_lineEnd 9 = .ok (.iconst 2, 1) := by decide +kernel
theorem dX9_lineEnd_10 : decode cX9_lineEnd 10 = .ok (.aload_n 0, 1) := by decide +kernel
theorem dX9_lineEnd_11 : decode cX9_lineEnd 11 = .ok (.getfield 76, 3) := by decide +kernel
theorem dX9_lineEnd_14 : decode cX9_lineEnd 14 = .ok (.invokevirtual 61, 3) := by decide +kernel
theorem dX9_lineEnd_17 : decode cX9_lineEnd 17 = .ok (.aload_n 0, 1) := by decide +kernel
theorem dX9_lineEnd_18 : decode cX9_lineEnd 18 = .ok (.invokevirtual 45, 3) := by decide +kernel
theorem dX9_lineEnd_21 : decode cX9_lineEnd 21 = .ok (.return_, 1) := by decide +kernel
abbrev q_X9_lineEnd  (σ : tw_M) : Option tw_V → tw_M → Prop := fun z τ => z = none ∧ tw_I τ ∧ tw_F (fun c j => (c = 10 ∧ (j = 5 ∨ j = 6 ∨ j = 7 ∨ j = 8 ∨ j = 11 ∨ j = 12))) σ τ ∧ (aX τ = tok (fX σ) (need (decide ((aX σ) 2 = 3)) 2 (aX σ))) ∧ (¬ σ 10 5 ≤ σ 10 10 ∨ τ 10 5 ≤ σ 10 10) ∧ (¬ σ 10 5 ≤ σ 10 10 ∨ ¬ τ 10 11 = 0 ∨ ¬ τ 10 6 = 0 ∨ τ 10 7 = σ 10 10) ∧ (¬ τ 10 11 = 0 ∨ (σ 10 11 = 0 ∧ σ 10 5 ≤ τ 10 5 ∧ (τ 10 6 = 0 ∨ σ 10 5 < τ 10 5)))
set_option maxHeartbeats 4000000 in
set_option maxRecDepth 100000 in
theorem c_X9_lineEnd {G : tw_G} (hX : tw_isX G) (σ : tw_M) (hI : tw_I σ) : tw_C G yX9_lineEnd cX9_lineEnd 1 none 3 [vR 10] σ (q_X9_lineEnd σ) := by
  refine tw_met [(0, vR 10)] (by decide +kernel) rfl (Nat.le_of_ble_eq_true rfl) ?_
  refine j_aload_n (pc := 0) dX9_lineEnd_0 rfl rfl ?_
  refine j_getI (pc := 1) fl_X9_48 dX9_lineEnd_1 (a_10 hX) rfl ?_
  have f1 : (0 : Int) ≤ σ 10 6 ∧ σ 10 6 ≤ 3 := hI 10 6
  refine j_iconst (pc := 4) dX9_lineEnd_4 ?_
  refine j_icmpR_eq (pc := 5) (tgt := 17) ⟨by omega, by omega⟩ ⟨by omega, by omega⟩ dX9_lineEnd_5 rfl (fun h2 => ?_) (fun h2 => ?_)
  · have c1 := stop_t (σ := σ) (by omega)
    have fz : fX σ = fX σ := by first | rfl | exact fX_F ((tw_F_rf) 10 10 (show ¬ ((10 = 10 ∧ (10 = 5 ∨ 10 = 6 ∨ 10 = 7 ∨ 10 = 8 ∨ 10 = 11 ∨ 10 = 12))) from by decide)) (fun j => (tw_F_rf) 11 j (show ¬ ((11 = 10 ∧ (j = 5 ∨ j = 6 ∨ j = 7 ∨ j = 8 ∨ j = 11 ∨ j = 12))) from fun h => absurd h.1 (by decide)))
    refine j_aload_n (pc := 17) dX9_lineEnd_17 rfl rfl ?_
    refine j_callV (pc := 18) (As := []) (st := []) (c_X9_advance hX σ hI) mv_X9_45 rfl rfl rfl (a_10 hX) dX9_lineEnd_18 ⟨Nat.le_of_ble_eq_true rfl, Nat.le_of_ble_eq_true rfl⟩ ⟨Nat.le_refl _, Nat.le_refl _⟩ rfl (Nat.le_of_ble_eq_true rfl) rfl (fun z3 σ4 hz3 => ?_)
    obtain ⟨rfl, hIσ4, hGσ4, q5_0, q5_1, q5_2, q5_3⟩ := hz3
    replace q5_0 : aX σ4 = tok (fX σ) (aX σ) := q5_0
    replace q5_1 : ¬ σ 10 5 ≤ σ 10 10 ∨ σ4 10 5 ≤ σ 10 10 := q5_1
    replace q5_2 : ¬ σ 10 5 ≤ σ 10 10 ∨ ¬ σ4 10 11 = 0 ∨ ¬ σ4 10 6 = 0 ∨ σ4 10 7 = σ 10 10 := q5_2
    replace q5_3 : ¬ σ4 10 11 = 0 ∨ (σ 10 11 = 0 ∧ σ 10 5 ≤ σ4 10 5 ∧ (σ4 10 6 = 0 ∨ σ 10 5 < σ4 10 5)) := q5_3
    have hFσ4 : tw_F (fun c j => (c = 10 ∧ (j = 5 ∨ j = 6 ∨ j = 7 ∨ j = 8 ∨ j = 11 ∨ j = 12))) σ σ4 := tw_F_tr (tw_F_rf) hGσ4 (fun c j q => (show (c = 10 ∧ (j = 5 ∨ j = 6 ∨ j = 7 ∨ j = 8 ∨ j = 11 ∨ j = 12)) from by replace q : (c = 10 ∧ (j = 5 ∨ j = 6 ∨ j = 7 ∨ j = 8 ∨ j = 11 ∨ j = 12)) := q; exact q))
    refine j_st (st' := []) rfl ?_
    have c2 := q5_0; rw [fz, c1] at c2
    exact j_vret (pc := 21) ⟨rfl, rfl⟩ dX9_lineEnd_21 rfl ⟨rfl, hIσ4, hFσ4, c2, by omega, by omega, by omega⟩
  · refine j_aload_n (pc := 8) dX9_lineEnd_8 rfl rfl ?_
    refine j_iconst (pc := 9) dX9_lineEnd_9 ?_
    refine j_aload_n (pc := 10) dX9_lineEnd_10 rfl rfl ?_
    refine j_getI (pc := 11) fl_X9_76 dX9_lineEnd_11 (a_10 hX) rfl ?_
    have f7 : (0 : Int) ≤ σ 10 7 ∧ σ 10 7 ≤ 400 := hI 10 7
    refine j_callV (pc := 14) (As := [vI 2, vI (σ 10 7)]) (st := []) (c_X9_fail hX 2 (by (first | decide | exact ⟨by omega, by omega⟩)) (σ 10 7) ⟨by omega, by omega⟩ σ hI) mv_X9_61 rfl rfl rfl (a_10 hX) dX9_lineEnd_14 ⟨Nat.le_of_ble_eq_true rfl, Nat.le_of_ble_eq_true rfl⟩ ⟨Nat.le_refl _, Nat.le_refl _⟩ rfl (Nat.le_of_ble_eq_true rfl) rfl (fun z8 σ9 hz8 => ?_)
    obtain ⟨rfl, hIσ9, hGσ9, q10_0⟩ := hz8
    replace q10_0 : (σ 10 11 = 0 ∧ σ9 10 11 = (2 : Int) ∧ σ9 10 12 = (σ 10 7)) ∨ (¬ σ 10 11 = 0 ∧ σ9 10 11 = σ 10 11 ∧ σ9 10 12 = σ 10 12) := q10_0
    have hFσ9 : tw_F (fun c j => (c = 10 ∧ (j = 5 ∨ j = 6 ∨ j = 7 ∨ j = 8 ∨ j = 11 ∨ j = 12))) σ σ9 := tw_F_tr (tw_F_rf) hGσ9 (fun c j q => (show (c = 10 ∧ (j = 5 ∨ j = 6 ∨ j = 7 ∨ j = 8 ∨ j = 11 ∨ j = 12)) from by replace q : (c = 10 ∧ (j = 11 ∨ j = 12)) := q; exact ⟨q.1, (q.2.elim (fun z => (Or.inr (Or.inr (Or.inr (Or.inr (Or.inl z)))))) (fun z => (Or.inr (Or.inr (Or.inr (Or.inr (Or.inr z)))))))⟩))
    refine j_st (st' := []) rfl ?_
    have c1 := stop_f (τ := σ9) (σ := σ) (by omega) (by omega)
    have fz : fX σ9 = fX σ := by first | rfl | exact fX_F (hFσ9 10 10 (show ¬ ((10 = 10 ∧ (10 = 5 ∨ 10 = 6 ∨ 10 = 7 ∨ 10 = 8 ∨ 10 = 11 ∨ 10 = 12))) from by decide)) (fun j => hFσ9 11 j (show ¬ ((11 = 10 ∧ (j = 5 ∨ j = 6 ∨ j = 7 ∨ j = 8 ∨ j = 11 ∨ j = 12))) from fun h => absurd h.1 (by decide)))
    refine j_aload_n (pc := 17) dX9_lineEnd_17 rfl rfl ?_
    refine j_callV (pc := 18) (As := []) (st := []) (c_X9_advance hX σ9 hIσ9) mv_X9_45 rfl rfl rfl (a_10 hX) dX9_lineEnd_18 ⟨Nat.le_of_ble_eq_true rfl, Nat.le_of_ble_eq_true rfl⟩ ⟨Nat.le_refl _, Nat.le_refl _⟩ rfl (Nat.le_of_ble_eq_true rfl) rfl (fun z12 σ13 hz12 => ?_)
    obtain ⟨rfl, hIσ13, hGσ13, q14_0, q14_1, q14_2, q14_3⟩ := hz12
    replace q14_0 : aX σ13 = tok (fX σ9) (aX σ9) := q14_0
    replace q14_1 : ¬ σ9 10 5 ≤ σ9 10 10 ∨ σ13 10 5 ≤ σ9 10 10 := q14_1
    have y16 : σ9 10 5 = σ 10 5 := (hGσ9 10 5 (show ¬ ((10 = 10 ∧ (5 = 11 ∨ 5 = 12))) from by decide))
    have f17 : (0 : Int) ≤ σ 10 5 ∧ σ 10 5 ≤ 400 := hI 10 5
    have y18 : σ9 10 10 = σ 10 10 := (hGσ9 10 10 (show ¬ ((10 = 10 ∧ (10 = 11 ∨ 10 = 12))) from by decide))
    have f19 : (0 : Int) ≤ σ 10 10 ∧ σ 10 10 ≤ 400 := hI 10 10
    replace q14_2 : ¬ σ9 10 5 ≤ σ9 10 10 ∨ ¬ σ13 10 11 = 0 ∨ ¬ σ13 10 6 = 0 ∨ σ13 10 7 = σ9 10 10 := q14_2
    have y20 : σ9 10 5 = σ 10 5 := (hGσ9 10 5 (show ¬ ((10 = 10 ∧ (5 = 11 ∨ 5 = 12))) from by decide))
    have y21 : σ9 10 10 = σ 10 10 := (hGσ9 10 10 (show ¬ ((10 = 10 ∧ (10 = 11 ∨ 10 = 12))) from by decide))
    replace q14_3 : ¬ σ13 10 11 = 0 ∨ (σ9 10 11 = 0 ∧ σ9 10 5 ≤ σ13 10 5 ∧ (σ13 10 6 = 0 ∨ σ9 10 5 < σ13 10 5)) := q14_3
    have y22 : σ9 10 5 = σ 10 5 := (hGσ9 10 5 (show ¬ ((10 = 10 ∧ (5 = 11 ∨ 5 = 12))) from by decide))
    have hFσ13 : tw_F (fun c j => (c = 10 ∧ (j = 5 ∨ j = 6 ∨ j = 7 ∨ j = 8 ∨ j = 11 ∨ j = 12))) σ σ13 := tw_F_tr hFσ9 hGσ13 (fun c j q => (show (c = 10 ∧ (j = 5 ∨ j = 6 ∨ j = 7 ∨ j = 8 ∨ j = 11 ∨ j = 12)) from by replace q : (c = 10 ∧ (j = 5 ∨ j = 6 ∨ j = 7 ∨ j = 8 ∨ j = 11 ∨ j = 12)) := q; exact q))
    refine j_st (st' := []) rfl ?_
    have c2 := q14_0; rw [fz, c1] at c2
    exact j_vret (pc := 21) ⟨rfl, rfl⟩ dX9_lineEnd_21 rfl ⟨rfl, hIσ13, hFσ13, c2, by omega, by omega, by omega⟩
