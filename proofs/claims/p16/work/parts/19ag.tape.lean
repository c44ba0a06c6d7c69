/-! 19ag.tape -/
theorem dX9_readName_0 : decode cX9_readName 0 = .ok (.aload_n 0, 1) := by decide +kernel
theorem dX9_readName_1 : decode cX9_readName 1 = .ok (.iconst 1, 1) := by decide +kernel
theorem dX9_readName_2 : decode cX9_readName 2 = .ok (.putfield 48, 3) := by decide +kernel
theorem dX9_readName_5 : decode cX9_readName 5 = .ok (.iconst 0, 1) := by decide +kernel
theorem dX9_readName_6 : decode cX9_readName 6 = .ok (.istore_n 1, 1) := by decide +kernel
theorem dX9_readName_7 : decode cX9_readName 7 = .ok (.iload_n 1, 1) := by decide +kernel
theorem dX9_readName_8 : decode cX9_readName 8 = .ok (.sipush 400, 3) := by decide +kernel
theorem dX9_readName_11 : decode cX9_readName 11 = .ok (.if_icmp .ge 33, 3) := by decide +kernel
theorem dX9_readName_14 : decode cX9_readName 14 = .ok (.aload_n 0, 1) := by decide +kernel
theorem dX9_readName_15 : decode cX9_readName 15 = .ok (.aload_n 0, 1) := by decide +kernel
theorem dX9_readName_16 : decode cX9_readName 16 = .ok (.getfield 69, 3) := by decide +kernel
theorem dX9_readName_19 : decode cX9_readName 19 = .ok (.invokevirtual 72, 3) := by decide +kernel
theorem dX9_readName_22 : decode cX9_readName 22 = .ok (.invokestatic 79, 3) := by decide +kernel
theorem dX9_readName_25 : decode cX9_readName 25 = .ok (.ifCond .eq 19, 3) := by decide +kernel
theorem dX9_readName_28 : decode cX9_readName 28 = .ok (.aload_n 0, 1) := by decide +kernel
theorem dX9_readName_29 : decode cX9_readName 29 = .ok (.dup, 1) := by decide +kernel
theorem dX9_readName_30 : decode cX9_readName 30 = .ok (.getfield 69, 3) := by decide +kernel
theorem dX9_readName_33 : decode cX9_readName 33 = .ok (.iconst 1, 1) := by decide +kernel
theorem dX9_readName_34 : decode cX9_readName 34 = .ok (.iadd, 1) := by decide +kernel
theorem dX9_readName_35 : decode cX9_readName 35 = .ok (.putfield 69, 3) := by decide +kernel
theorem dX9_readName_38 : decode cX9_readName 38 = .ok (.iinc 1 1, 3) := by decide +kernel
theorem dX9_readName_41 : decode cX9_readName 41 = .ok (.goto (-34), 3) := by decide +kernel
theorem dX9_readName_44 : decode cX9_readName 44 = .ok (.return_, 1) := by decide +kernel
abbrev q_X9_readName  (σ : tw_M) : Option tw_V → tw_M → Prop := fun z τ => z = none ∧ tw_I τ ∧ tw_F (fun c j => (c = 10 ∧ (j = 5 ∨ j = 6))) σ τ ∧ (τ 10 6 = 1) ∧ (τ 10 5 = run isL (fX σ) (σ 10 5)) ∧ (¬ σ 10 5 ≤ σ 10 10 ∨ τ 10 5 ≤ σ 10 10)
set_option maxHeartbeats 4000000 in
set_option maxRecDepth 100000 in
theorem l_X9_readName {G : tw_G} (hX : tw_isX G) (σ : tw_M) (hI : tw_I σ) : ∀ N_ : Nat, (∀ (i : Int) (hi : 0 ≤ i ∧ i ≤ 400) (τ : tw_M) (hIτ : tw_I τ) (hFτ : tw_F (fun c j => (c = 10 ∧ (j = 5 ∨ j = 6))) σ τ) (i0 : τ 10 6 = 1) (i1 : τ 10 5 = σ 10 5 + i) (i2 : run isL (fX σ) (τ 10 5) = run isL (fX σ) (σ 10 5)) (i3 : ¬ σ 10 5 ≤ σ 10 10 ∨ τ 10 5 ≤ σ 10 10) (hm : (400 - i).toNat < N_), tw_J G (tw_mt RX9 cX9_readName 2 none 1) (tw_E G (q_X9_readName σ)) 7 [(0, vR 10), (1, vI i)] [] τ) := by
  intro N_
  induction N_ with
  | zero => exact fun i hi τ hIτ hFτ i0 i1 i2 i3 hm => absurd hm (Nat.not_lt_zero _)
  | succ N_ ih =>
    intro i hi τ hIτ hFτ i0 i1 i2 i3 hm
    have fx : fX τ = fX σ := fX_F (hFτ 10 10 (show ¬ ((10 = 10 ∧ (10 = 5 ∨ 10 = 6))) from by decide)) (fun j => hFτ 11 j (show ¬ ((11 = 10 ∧ (j = 5 ∨ j = 6))) from fun h => absurd h.1 (by decide)))
    have f10 : (0 : Int) ≤ σ 10 10 ∧ σ 10 10 ≤ 400 := hI 10 10
    have e10 : τ 10 10 = σ 10 10 := hFτ 10 10 (show ¬ ((10 = 10 ∧ (10 = 5 ∨ 10 = 6))) from by decide); have f05 : (0 : Int) ≤ σ 10 5 ∧ σ 10 5 ≤ 400 := hI 10 5; have f15 : (0 : Int) ≤ τ 10 5 ∧ τ 10 5 ≤ 400 := hIτ 10 5
    refine j_iload_n (pc := 7) dX9_readName_7 rfl rfl ?_
    refine j_sipush (pc := 8) dX9_readName_8 rfl ?_
    refine j_icmpR_ge (pc := 11) (tgt := 44) ⟨by omega, by omega⟩ ⟨by omega, by omega⟩ dX9_readName_11 rfl (fun h1 => ?_) (fun h1 => ?_)
    · exact j_vret (pc := 44) ⟨rfl, rfl⟩ dX9_readName_44 rfl ⟨rfl, hIτ, hFτ, by omega, (by rw [show τ 10 5 = τ 10 5 from rfl, ← i2]; exact (run_n (show isL (fX σ (τ 10 5)) = false from decide_eq_false (by first | omega | (rw [fX_no (by omega)]; decide)))).symm), (by skip; omega)⟩
    · refine j_aload_n (pc := 14) dX9_readName_14 rfl rfl ?_
      refine j_aload_n (pc := 15) dX9_readName_15 rfl rfl ?_
      refine j_getI (pc := 16) fl_X9_69 dX9_readName_16 (a_10 hX) rfl ?_
      have f2 : (0 : Int) ≤ τ 10 5 ∧ τ 10 5 ≤ 400 := hIτ 10 5
      refine j_callV (pc := 19) (As := [vI (τ 10 5)]) (st := []) (c_X9_byteAt hX (τ 10 5) ⟨by omega, by omega⟩ τ hIτ) mv_X9_72 rfl rfl rfl (a_10 hX) dX9_readName_19 ⟨Nat.le_of_ble_eq_true rfl, Nat.le_of_ble_eq_true rfl⟩ ⟨Nat.le_refl _, Nat.le_refl _⟩ rfl (Nat.le_of_ble_eq_true rfl) rfl (fun z3 σ4 hz3 => ?_)
      obtain ⟨r6, rfl, hr6, rfl, q5_0, q5_1⟩ := hz3
      replace q5_0 : (¬ (0 ≤ (τ 10 5) ∧ (τ 10 5) < τ 10 10 ∧ (τ 10 5) < 400) ∧ r6 = -1) ∨ (0 ≤ (τ 10 5) ∧ (τ 10 5) < τ 10 10 ∧ (τ 10 5) < 400 ∧ 0 ≤ r6 ∧ r6 = tw_and (τ 11 (τ 10 5).toNat) 255) := q5_0
      replace q5_1 : r6 = fX τ (τ 10 5) := q5_1
      refine j_st (st' := [vI r6]) rfl ?_
      refine j_callS (pc := 22) (As := [vI r6]) (st := []) (c_X9_isLetter r6 ⟨by omega, by omega⟩ τ hIτ) ms_X9_79 rfl dX9_readName_22 ⟨Nat.le_of_ble_eq_true rfl, Nat.le_of_ble_eq_true rfl⟩ ⟨Nat.le_refl _, Nat.le_refl _⟩ rfl (Nat.le_of_ble_eq_true rfl) rfl (fun z7 σ8 hz7 => ?_)
      obtain ⟨r10, rfl, hr10, rfl, q9_0⟩ := hz7
      replace q9_0 : (r10 = 1 ∧ 97 ≤ r6 ∧ r6 ≤ 122) ∨ (r10 = 0 ∧ ¬ (97 ≤ r6 ∧ r6 ≤ 122)) := q9_0
      refine j_st (st' := [vI r10]) rfl ?_
      have b9 := q5_1; rw [fx] at b9
      refine j_ifR_eq (pc := 25) (tgt := 44) ⟨by omega, by omega⟩ dX9_readName_25 rfl (fun h11 => ?_) (fun h11 => ?_)
      · exact j_vret (pc := 44) ⟨rfl, rfl⟩ dX9_readName_44 rfl ⟨rfl, hIτ, hFτ, by omega, (by rw [show τ 10 5 = τ 10 5 from rfl, ← i2]; exact (run_n (show isL (fX σ (τ 10 5)) = false from decide_eq_false (by first | omega | (rw [fX_no (by omega)]; decide)))).symm), (by clear q5_0 q5_1 q9_0; omega)⟩
      · refine j_aload_n (pc := 28) dX9_readName_28 rfl rfl ?_
        refine j_dup (pc := 29) dX9_readName_29 rfl ?_
        refine j_getI (pc := 30) fl_X9_69 dX9_readName_30 (a_10 hX) rfl ?_
        refine j_iconst (pc := 33) dX9_readName_33 ?_
        refine j_iadd (pc := 34) dX9_readName_34 ?_
        refine j_putI (pc := 35) fl_X9_69 fp_X9_5 dX9_readName_35 (a_10 hX) rfl (j_nm (fun σ12 (eσ12 : σ12 = tw_up τ 10 5 ((τ 10 5) + 1)) => ?_))
        have hIσ12 : tw_I σ12 := tw_I_up hIτ eσ12 (show (0 : Int) ≤ (τ 10 5) + 1 ∧ (τ 10 5) + 1 ≤ 400 from ⟨by omega, by omega⟩)
        have hFσ12 : tw_F (fun c j => (c = 10 ∧ (j = 5 ∨ j = 6))) σ σ12 := tw_F_up hFτ eσ12 (show (10 = 10 ∧ (5 = 5 ∨ 5 = 6)) from ⟨rfl, (Or.inl rfl)⟩)
        refine j_iinc (pc := 38) (i := 1) (n := 1) (ls' := [(0, vR 10), (1, vI (i + 1))]) [1, 0] dX9_readName_38 rfl (Nat.le_of_ble_eq_true rfl) rfl rfl ?_
        refine j_goto (pc := 41) (tgt := 7) dX9_readName_41 rfl ?_
        refine j_ls (ls' := [(0, vR 10), (1, vI (i + 1))]) [0, 1] rfl ?_
        have y13 : σ12 10 6 = τ 10 6 := (tw_ne1 eσ12 (by (first | decide | omega)))
        have f14 : (0 : Int) ≤ τ 10 6 ∧ τ 10 6 ≤ 3 := hIτ 10 6
        have y15 : σ12 10 5 = (τ 10 5) + 1 := (tw_eq1 eσ12)
        have y16 : σ12 10 5 = (τ 10 5) + 1 := (tw_eq1 eσ12)
        have y17 : σ12 10 5 = (τ 10 5) + 1 := (tw_eq1 eσ12)
        exact ih (i + 1) ⟨by omega, by omega⟩ σ12 hIσ12 hFσ12 (show σ12 10 6 = 1 from by omega) (show σ12 10 5 = σ 10 5 + (i + 1) from by omega) (show run isL (fX σ) (σ12 10 5) = run isL (fX σ) (σ 10 5) from (by first | (rw [(tw_eq1 eσ12)]; exact (run_s (show isL (fX σ (τ 10 5)) = true from decide_eq_true (by omega)) (by omega)).symm.trans i2) | rw [(tw_eq1 eσ12)] | rfl)) (show ¬ σ 10 5 ≤ σ 10 10 ∨ σ12 10 5 ≤ σ 10 10 from by omega) (show (400 - (i + 1)).toNat < N_ from by omega)
set_option maxHeartbeats 4000000 in
set_option maxRecDepth 100000 in
theorem c_X9_readName {G : tw_G} (hX : tw_isX G) (σ : tw_M) (hI : tw_I σ) : tw_C G yX9_readName cX9_readName 2 none 1 [vR 10] σ (q_X9_readName σ) := by
  refine tw_met [(0, vR 10)] (by decide +kernel) rfl (Nat.le_of_ble_eq_true rfl) ?_
  refine j_aload_n (pc := 0) dX9_readName_0 rfl rfl ?_
  refine j_iconst (pc := 1) dX9_readName_1 ?_
  refine j_putI (pc := 2) fl_X9_48 fp_X9_6 dX9_readName_2 (a_10 hX) rfl (j_nm (fun σ18 (eσ18 : σ18 = tw_up σ 10 6 1) => ?_))
  have hIσ18 : tw_I σ18 := tw_I_up hI eσ18 (show (0 : Int) ≤ 1 ∧ 1 ≤ 3 from by decide)
  have hFσ18 : tw_F (fun c j => (c = 10 ∧ (j = 5 ∨ j = 6))) σ σ18 := tw_F_up (tw_F_rf) eσ18 (show (10 = 10 ∧ (6 = 5 ∨ 6 = 6)) from ⟨rfl, (Or.inr rfl)⟩)
  refine j_iconst (pc := 5) dX9_readName_5 ?_
  refine j_istore_n (pc := 6) (i := 1) (ls' := [(0, vR 10), (1, vI 0)]) [1, 0] dX9_readName_6 rfl (Nat.le_of_ble_eq_true rfl) rfl rfl ?_
  refine j_ls (ls' := [(0, vR 10), (1, vI 0)]) [0, 1] rfl ?_
  have y19 : σ18 10 6 = 1 := (tw_eq1 eσ18)
  have y20 : σ18 10 5 = σ 10 5 := (tw_ne1 eσ18 (by (first | decide | omega)))
  have f21 : (0 : Int) ≤ σ 10 5 ∧ σ 10 5 ≤ 400 := hI 10 5
  have y22 : σ18 10 5 = σ 10 5 := (tw_ne1 eσ18 (by (first | decide | omega)))
  have y23 : σ18 10 5 = σ 10 5 := (tw_ne1 eσ18 (by (first | decide | omega)))
  exact (l_X9_readName hX σ hI (((400 - (0 : Int)).toNat) + 1)) 0 (by (first | decide | exact ⟨by omega, by omega⟩)) σ18 hIσ18 hFσ18 (show σ18 10 6 = 1 from by omega) (show σ18 10 5 = σ 10 5 + (0 : Int) from by omega) (show run isL (fX σ) (σ18 10 5) = run isL (fX σ) (σ 10 5) from (by first | (rw [(tw_ne1 eσ18 (by (first | decide | omega)))]; exact (run_s (show isL (fX σ (τ 10 5)) = true from decide_eq_true (by omega)) (by omega)).symm.trans i2) | rw [(tw_ne1 eσ18 (by (first | decide | omega)))] | rfl)) (show ¬ σ 10 5 ≤ σ 10 10 ∨ σ18 10 5 ≤ σ 10 10 from by omega) (Nat.lt_succ_self _)
