/-! 19b.tape -/
theorem dX9_readName_0 : decode cX9_readName 0 = .ok (.aload_n 0, 1) := by decide +kernel
theorem dX9_readName_1 : decode cX9_readName 1 = .ok (.iconst 1, 1) := by decide +kernel
theorem dX9_readName_2 : decode cX9_readName 2 = .ok (.putfield 48, 3) := by decide +kernel
theorem dX9_readName_5 : decode cX9_readName 5 = .ok (.iconst 0, 1) := by decide +kernel
theorem dX9_readName_6 : decode cX9_readName 6 = .ok (.istore_n 1, 1) := by decide +kernel
theorem dX9_readName_7 : decode cX9_readName 7 = .ok (.iload_n 1, 1) := by decide +kernel
theorem dX9_readName_8 : decode cX9_readName 8 = .ok (.sipush 400, 3) := by decide +kernel
theorem dX9_readName_11 : decode cX9_readName 11 = .ok (.if_icmp .ge 33, 3) := by decide +kernel
theorem dX9_readName_14 : decode cX9_readName 14 = .ok (.aload_n 0, 1) := by decide +kernel
theorem dX9_readName_15 : decode cX9_readName 15 = .ok (.aload_n 0, 1) := by decide +kernel
theorem dX9_readName_16 : decode cX9_readName 16 = .ok (.getfield 69, 3) := by decide +kernel
theorem dX9_readName_19 : decode cX9_readName 19 = .ok (.invokevirtual 72, 3) := by decide +kernel
theorem dX9_readName_22 : decode cX9_readName 22 = .ok (.invokestatic 79, 3) := by decide +kernel
theorem dX9_readName_25 : decode cX9_readName 25 = .ok (.ifCond .eq 19, 3) := by decide +kernel
theorem dX9_readName_28 : decode cX9_readName 28 = .ok (.aload_n 0, 1) := by decide +kernel
theorem dX9_readName_29 : decode cX9_readName 29 = .ok (.dup, 1) := by decide +kernel
theorem dX9_readName_30 : decode cX9_readName 30 = .ok (.getfield 69, 3) := by decide +kernel
theorem dX9_readName_33 : decode cX9_readName 33 = .ok (.iconst 1, 1) := by decide +kernel
theorem dX9_readName_34 : decode cX9_readName 34 = .ok (.iadd, 1) := by decide +kernel
theorem dX9_readName_35 : decode cX9_readName 35 = .ok (.putfield 69, 3) := by decide +kernel
theorem dX9_readName_38 : decode cX9_readName 38 = .ok (.iinc 1 1, 3) := by decide +kernel
theorem dX9_readName_41 : decode cX9_readName 41 = .ok (.goto (-34), 3) := by decide +kernel
theorem dX9_readName_44 : decode cX9_readName 44 = .ok (.return_, 1) := by decide +kernel
theorem dX9_readNumber_0 : decode cX9_readNumber 0 = .ok (.aload_n 0, 1) := by decide +kernel
theorem dX9_readNumber_1 : decode cX9_readNumber 1 = .ok (.iconst 2, 1) := by decide +kernel
theorem dX9_readNumber_2 : decode cX9_readNumber 2 = .ok (.putfield 48, 3) := by decide +kernel
theorem dX9_readNumber_5 : decode cX9_readNumber 5 = .ok (.aload_n 0, 1) := by decide +kernel
theorem dX9_readNumber_6 : decode cX9_readNumber 6 = .ok (.iconst 0, 1) := by decide +kernel
theorem dX9_readNumber_7 : decode cX9_readNumber 7 = .ok (.putfield 95, 3) := by decide +kernel
theorem dX9_readNumber_10 : decode cX9_readNumber 10 = .ok (.iconst 0, 1) := by decide +kernel
theorem dX9_readNumber_11 : decode cX9_readNumber 11 = .ok (.istore_n 1, 1) := by decide +kernel
theorem dX9_readNumber_12 : decode cX9_readNumber 12 = .ok (.iload_n 1, 1) := by decide +kernel
theorem dX9_readNumber_13 : decode cX9_readNumber 13 = .ok (.sipush 400, 3) := by decide +kernel
theorem dX9_readNumber_16 : decode cX9_readNumber 16 = .ok (.if_icmp .ge 61, 3) := by decide +kernel
theorem dX9_readNumber_19 : decode cX9_readNumber 19 = .ok (.aload_n 0, 1) := by decide +kernel
theorem dX9_readNumber_20 : decode cX9_readNumber 20 = .ok (.aload_n 0, 1) := by decide +kernel
theorem dX9_readNumber_21 : decode cX9_readNumber 21 = .ok (.getfield 69, 3) := by decide +kernel
theorem dX9_readNumber_24 : decode cX9_readNumber 24 = .ok (.invokevirtual 72, 3) := by decide +kernel
theorem dX9_readNumber_27 : decode cX9_readNumber 27 = .ok (.invokestatic 86, 3) := by decide +kernel
theorem dX9_readNumber_30 : decode cX9_readNumber 30 = .ok (.ifCond .eq 47, 3) := by decide +kernel
theorem dX9_readNumber_33 : decode cX9_readNumber 33 = .ok (.iload_n 1, 1) := by decide +kernel
theorem dX9_readNumber_34 : decode cX9_readNumber 34 = .ok (.iconst 3, 1) := by decide +kernel
theorem dX9_readNumber_35 : decode cX9_readNumber 35 = .ok (.if_icmp .ge 26, 3) := by decide +kernel
theorem dX9_readNumber_38 : decode cX9_readNumber 38 = .ok (.aload_n 0, 1) := by decide +kernel
theorem dX9_readNumber_39 : decode cX9_readNumber 39 = .ok (.bipush 10, 2) := by decide +kernel
theorem dX9_readNumber_41 : decode cX9_readNumber 41 = .ok (.aload_n 0, 1) := by decide +kernel
theorem dX9_readNumber_42 : decode cX9_readNumber 42 = .ok (.getfield 95, 3) := by decide +kernel
theorem dX9_readNumber_45 : decode cX9_readNumber 45 = .ok (.imul, 1) := by decide +kernel
theorem dX9_readNumber_46 : decode cX9_readNumber 46 = .ok (.aload_n 0, 1) := by decide +kernel
theorem dX9_readNumber_47 : decode cX9_readNumber 47 = .ok (.aload_n 0, 1) := by decide +kernel
theorem dX9_readNumber_48 : decode cX9_readNumber 48 = .ok (.getfield 69, 3) := by decide +kernel
theorem dX9_readNumber_51 : decode cX9_readNumber 51 = .ok (.invokevirtual 72, 3) := by decide +kernel
theorem dX9_readNumber_54 : decode cX9_readNumber 54 = .ok (.iadd, 1) := by decide +kernel
theorem dX9_readNumber_55 : decode cX9_readNumber 55 = .ok (.bipush 48, 2) := by decide +kernel
theorem dX9_readNumber_57 : decode cX9_readNumber 57 = .ok (.isub, 1) := by decide +kernel
theorem dX9_readNumber_58 : decode cX9_readNumber 58 = .ok (.putfield 95, 3) := by decide +kernel
theorem dX9_readNumber_61 : decode cX9_readNumber 61 = .ok (.aload_n 0, 1) := by decide +kernel
theorem dX9_readNumber_62 : decode cX9_readNumber 62 = .ok (.dup, 1) := by decide +kernel
theorem dX9_readNumber_63 : decode cX9_readNumber 63 = .ok (.getfield 69, 3) := by decide +kernel
theorem dX9_readNumber_66 : decode cX9_readNumber 66 = .ok (.iconst 1, 1) := by decide +kernel
theorem dX9_readNumber_67 : decode cX9_readNumber 67 = .ok (.iadd, 1) := by decide +kernel
theorem dX9_readNumber_68 : decode cX9_readNumber 68 = .ok (.putfield 69, 3) := by decide +kernel
theorem dX9_readNumber_71 : decode cX9_readNumber 71 = .ok (.iinc 1 1, 3) := by decide +kernel
theorem dX9_readNumber_74 : decode cX9_readNumber 74 = .ok (.goto (-62), 3) := by decide +kernel
theorem dX9_readNumber_77 : decode cX9_readNumber 77 = .ok (.aload_n 0, 1) := by decide +kernel
theorem dX9_readNumber_78 : decode cX9_readNumber 78 = .ok (.getfield 69, 3) := by decide +kernel
theorem dX9_readNumber_81 : decode cX9_readNumber 81 = .ok (.aload_n 0, 1) := by decide +kernel
theorem dX9_readNumber_82 : decode cX9_readNumber 82 = .ok (.getfield 76, 3) := by decide +kernel
theorem dX9_readNumber_85 : decode cX9_readNumber 85 = .ok (.isub, 1) := by decide +kernel
theorem dX9_readNumber_86 : decode cX9_readNumber 86 = .ok (.iconst 3, 1) := by decide +kernel
theorem dX9_readNumber_87 : decode cX9_readNumber 87 = .ok (.if_icmp .le 12, 3) := by decide +kernel
theorem dX9_readNumber_90 : decode cX9_readNumber 90 = .ok (.aload_n 0, 1) := by decide +kernel
theorem dX9_readNumber_91 : decode cX9_readNumber 91 = .ok (.iconst 1, 1) := by decide +kernel
theorem dX9_readNumber_92 : decode cX9_readNumber 92 = .ok (.aload_n 0, 1) := by decide +kernel
theorem dX9_readNumber_93 : decode cX9_readNumber 93 = .ok (.getfield 76, 3) := by decide +kernel
theorem dX9_readNumber_96 : decode cX9_readNumber 96 = .ok (.invokevirtual 61, 3) := by decide +kernel
theorem dX9_readNumber_99 : decode cX9_readNumber 99 = .ok (.return_, 1) := by decide +kernel
theorem dX9_readSign_0 : decode cX9_readSign 0 = .ok (.aload_n 0, 1) := by decide +kernel
theorem dX9_readSign_1 : decode cX9_readSign 1 = .ok (.iconst 3, 1) := by decide +kernel
theorem dX9_readSign_2 : decode cX9_readSign 2 = .ok (.putfield 48, 3) := by decide +kernel
theorem dX9_readSign_5 : decode cX9_readSign 5 = .ok (.aload_n 0, 1) := by decide +kernel
theorem dX9_readSign_6 : decode cX9_readSign 6 = .ok (.dup, 1) := by decide +kernel
theorem dX9_readSign_7 : decode cX9_readSign 7 = .ok (.getfield 69, 3) := by decide +kernel
theorem dX9_readSign_10 : decode cX9_readSign 10 = .ok (.iconst 1, 1) := by decide +kernel
theorem dX9_readSign_11 : decode cX9_readSign 11 = .ok (.iadd, 1) := by decide +kernel
theorem dX9_readSign_12 : decode cX9_readSign 12 = .ok (.putfield 69, 3) := by decide +kernel
theorem dX9_readSign_15 : decode cX9_readSign 15 = .ok (.return_, 1) := by decide +kernel
abbrev q_X9_readName  (σ : tw_M) : Option tw_V → tw_M → Prop := fun z τ => z = none ∧ tw_I τ ∧ tw_F (fun c j => (c = 10 ∧ (j = 5 ∨ j = 6))) σ τ ∧ (τ 10 6 = 1) ∧ (τ 10 5 = run isL (fX σ) (σ 10 5)) ∧ (¬ σ 10 5 ≤ σ 10 10 ∨ τ 10 5 ≤ σ 10 10)
set_option maxHeartbeats 4000000 in
set_option maxRecDepth 100000 in
theorem l_X9_readName {G : tw_G} (hX : tw_isX G) (σ : tw_M) (hI : tw_I σ) : ∀ N_ : Nat, (∀ (i : Int) (hi : 0 ≤ i ∧ i ≤ 400) (τ : tw_M) (hIτ : tw_I τ) (hFτ : tw_F (fun c j => (c = 10 ∧ (j = 5 ∨ j = 6))) σ τ) (i0 : τ 10 6 = 1) (i1 : τ 10 5 = σ 10 5 + i) (i2 : run isL (fX σ) (τ 10 5) = run isL (fX σ) (σ 10 5)) (i3 : ¬ σ 10 5 ≤ σ 10 10 ∨ τ 10 5 ≤ σ 10 10) (hm : (400 - i).toNat < N_), tw_J G (tw_mt RX9 cX9_readName 2 none 1) (tw_E G (q_X9_readName σ)) 7 [(0, vR 10), (1, vI i)] [] τ) := by
  intro N_
  induction N_ with
  | zero => exact fun i hi τ hIτ hFτ i0 i1 i2 i3 hm => absurd hm (Nat.not_lt_zero _)
  | succ N_ ih =>
    intro i hi τ hIτ hFτ i0 i1 i2 i3 hm
    have fx : fX τ = fX σ := fX_F (hFτ 10 10 (show ¬ ((10 = 10 ∧ (10 = 5 ∨ 10 = 6))) from by decide)) (fun j => hFτ 11 j (show ¬ ((11 = 10 ∧ (j = 5 ∨ j = 6))) from fun h => absurd h.1 (by decide)))
    have f10 : (0 : Int) ≤ σ 10 10 ∧ σ 10 10 ≤ 400 := hI 10 10
    have e10 : τ 10 10 = σ 10 10 := hFτ 10 10 (show ¬ ((10 = 10 ∧ (10 = 5 ∨ 10 = 6))) from by decide); have f05 : (0 : Int) ≤ σ 10 5 ∧ σ 10 5 ≤ 400 := hI 10 5; have f15 : (0 : Int) ≤ τ 10 5 ∧ τ 10 5 ≤ 400 := hIτ 10 5
    refine j_iload_n (pc := 7) dX9_readName_7 rfl rfl ?_
    refine j_sipush (pc := 8) dX9_readName_8 rfl ?_
    refine j_icmpR_ge (pc := 11) (tgt := 44) ⟨by omega, by omega⟩ ⟨by omega, by omega⟩ dX9_readName_11 rfl (fun h1 => ?_) (fun h1 => ?_)
    · exact j_vret (pc := 44) ⟨rfl, rfl⟩ dX9_readName_44 rfl ⟨rfl, hIτ, hFτ, by omega, (by rw [show τ 10 5 = τ 10 5 from rfl, ← i2]; exact (run_n (show isL (fX σ (τ 10 5)) = false from decide_eq_false (by first | omega | (rw [fX_no (by omega)]; decide)))).symm), (by skip; omega)⟩
    · refine j_aload_n (pc := 14) dX9_readName_14 rfl rfl ?_
      refine j_aload_n (pc := 15) dX9_readName_15 rfl rfl ?_
      refine j_getI (pc := 16) fl_X9_69 dX9_readName_16 (a_10 hX) rfl ?_
      have f2 : (0 : Int) ≤ τ 10 5 ∧ τ 10 5 ≤ 400 := hIτ 10 5
      refine j_callV (pc := 19) (As := [vI (τ 10 5)]) (st := []) (c_X9_byteAt hX (τ 10 5) ⟨by omega, by omega⟩ τ hIτ) mv_X9_72 rfl rfl rfl (a_10 hX) dX9_readName_19 ⟨Nat.le_of_ble_eq_true rfl, Nat.le_of_ble_eq_true rfl⟩ ⟨Nat.le_refl _, Nat.le_refl _⟩ rfl (Nat.le_of_ble_eq_true rfl) rfl (fun z3 σ4 hz3 => ?_)
      obtain ⟨r6, rfl, hr6, rfl, q5_0, q5_1⟩ := hz3
      replace q5_0 : (¬ (0 ≤ (τ 10 5) ∧ (τ 10 5) < τ 10 10 ∧ (τ 10 5) < 400) ∧ r6 = -1) ∨ (0 ≤ (τ 10 5) ∧ (τ 10 5) < τ 10 10 ∧ (τ 10 5) < 400 ∧ 0 ≤ r6 ∧ r6 = tw_and (τ 11 (τ 10 5).toNat) 255) := q5_0
      replace q5_1 : r6 = fX τ (τ 10 5) := q5_1
      refine j_st (st' := [vI r6]) rfl ?_
      refine j_callS (pc := 22) (As := [vI r6]) (st := []) (c_X9_isLetter r6 ⟨by omega, by omega⟩ τ hIτ) ms_X9_79 rfl dX9_readName_22 ⟨Nat.le_of_ble_eq_true rfl, Nat.le_of_ble_eq_true rfl⟩ ⟨Nat.le_refl _, Nat.le_refl _⟩ rfl (Nat.le_of_ble_eq_true rfl) rfl (fun z7 σ8 hz7 => ?_)
      obtain ⟨r10, rfl, hr10, rfl, q9_0⟩ := hz7
      replace q9_0 : (r10 = 1 ∧ 97 ≤ r6 ∧ r6 ≤ 122) ∨ (r10 = 0 ∧ ¬ (97 ≤ r6 ∧ r6 ≤ 122)) := q9_0
      refine j_st (st' := [vI r10]) rfl ?_
      have b9 := q5_1; rw [fx] at b9
      refine j_ifR_eq (pc := 25) (tgt := 44) ⟨by omega, by omega⟩ dX9_readName_25 rfl (fun h11 => ?_) (fun h11 => ?_)
      · exact j_vret (pc := 44) ⟨rfl, rfl⟩ dX9_readName_44 rfl ⟨rfl, hIτ, hFτ, by omega, (by rw [show τ 10 5 = τ 10 5 from rfl, ← i2]; exact (run_n (show isL (fX σ (τ 10 5)) = false from decide_eq_false (by first | omega | (rw [fX_no (by omega)]; decide)))).symm), (by clear q5_0 q5_1 q9_0; omega)⟩
      · refine j_aload_n (pc := 28) dX9_readName_28 rfl rfl ?_
        refine j_dup (pc := 29) dX9_readName_29 rfl ?_
        refine j_getI (pc := 30) fl_X9_69 dX9_readName_30 (a_10 hX) rfl ?_
        refine j_iconst (pc := 33) dX9_readName_33 ?_
        refine j_iadd (pc := 34) dX9_readName_34 ?_
        refine j_putI (pc := 35) fl_X9_69 fp_X9_5 dX9_readName_35 (a_10 hX) rfl (j_nm (fun σ12 (eσ12 : σ12 = tw_up τ 10 5 ((τ 10 5) + 1)) => ?_))
        have hIσ12 : tw_I σ12 := tw_I_up hIτ eσ12 (show (0 : Int) ≤ (τ 10 5) + 1 ∧ (τ 10 5) + 1 ≤ 400 from ⟨by omega, by omega⟩)
        have hFσ12 : tw_F (fun c j => (c = 10 ∧ (j = 5 ∨ j = 6))) σ σ12 := tw_F_up hFτ eσ12 (show (10 = 10 ∧ (5 = 5 ∨ 5 = 6)) from ⟨rfl, (Or.inl rfl)⟩)
        refine j_iinc (pc := 38) (i := 1) (n := 1) (ls' := [(0, vR 10), (1, vI (i + 1))]) [1, 0] dX9_readName_38 rfl (Nat.le_of_ble_eq_true rfl) rfl rfl ?_
        refine j_goto (pc := 41) (tgt := 7) dX9_readName_41 rfl ?_
        refine j_ls (ls' := [(0, vR 10), (1, vI (i + 1))]) [0, 1] rfl ?_
        have y13 : σ12 10 6 = τ 10 6 := (tw_ne1 eσ12 (by (first | decide | omega)))
        have f14 : (0 : Int) ≤ τ 10 6 ∧ τ 10 6 ≤ 3 := hIτ 10 6
        have y15 : σ12 10 5 = (τ 10 5) + 1 := (tw_eq1 eσ12)
        have y16 : σ12 10 5 = (τ 10 5) + 1 := (tw_eq1 eσ12)
        have y17 : σ12 10 5 = (τ 10 5) + 1 := (tw_eq1 eσ12)
        exact ih (i + 1) ⟨by omega, by omega⟩ σ12 hIσ12 hFσ12 (show σ12 10 6 = 1 from by omega) (show σ12 10 5 = σ 10 5 + (i + 1) from by omega) (show run isL (fX σ) (σ12 10 5) = run isL (fX σ) (σ 10 5) from (by first | (rw [(tw_eq1 eσ12)]; exact (run_s (show isL (fX σ (τ 10 5)) = true from decide_eq_true (by omega)) (by omega)).symm.trans i2) | rw [(tw_eq1 eσ12)] | rfl)) (show ¬ σ 10 5 ≤ σ 10 10 ∨ σ12 10 5 ≤ σ 10 10 from by omega) (show (400 - (i + 1)).toNat < N_ from by omega)
set_option maxHeartbeats 4000000 in
set_option maxRecDepth 100000 in
theorem c_X9_readName {G : tw_G} (hX : tw_isX G) (σ : tw_M) (hI : tw_I σ) : tw_C G yX9_readName cX9_readName 2 none 1 [vR 10] σ (q_X9_readName σ) := by
  refine tw_met [(0, vR 10)] (by decide +kernel) rfl (Nat.le_of_ble_eq_true rfl) ?_
  refine j_aload_n (pc := 0) dX9_readName_0 rfl rfl ?_
  refine j_iconst (pc := 1) dX9_readName_1 ?_
  refine j_putI (pc := 2) fl_X9_48 fp_X9_6 dX9_readName_2 (a_10 hX) rfl (j_nm (fun σ18 (eσ18 : σ18 = tw_up σ 10 6 1) => ?_))
  have hIσ18 : tw_I σ18 := tw_I_up hI eσ18 (show (0 : Int) ≤ 1 ∧ 1 ≤ 3 from by decide)
  have hFσ18 : tw_F (fun c j => (c = 10 ∧ (j = 5 ∨ j = 6))) σ σ18 := tw_F_up (tw_F_rf) eσ18 (show (10 = 10 ∧ (6 = 5 ∨ 6 = 6)) from ⟨rfl, (Or.inr rfl)⟩)
  refine j_iconst (pc := 5) dX9_readName_5 ?_
  refine j_istore_n (pc := 6) (i := 1) (ls' := [(0, vR 10), (1, vI 0)]) [1, 0] dX9_readName_6 rfl (Nat.le_of_ble_eq_true rfl) rfl rfl ?_
  refine j_ls (ls' := [(0, vR 10), (1, vI 0)]) [0, 1] rfl ?_
  have y19 : σ18 10 6 = 1 := (tw_eq1 eσ18)
  have y20 : σ18 10 5 = σ 10 5 := (tw_ne1 eσ18 (by (first | decide | omega)))
  have f21 : (0 : Int) ≤ σ 10 5 ∧ σ 10 5 ≤ 400 := hI 10 5
  have y22 : σ18 10 5 = σ 10 5 := (tw_ne1 eσ18 (by (first | decide | omega)))
  have y23 : σ18 10 5 = σ 10 5 := (tw_ne1 eσ18 (by (first | decide | omega)))
  exact (l_X9_readName hX σ hI (((400 - (0 : Int)).toNat) + 1)) 0 (by (first | decide | exact ⟨by omega, by omega⟩)) σ18 hIσ18 hFσ18 (show σ18 10 6 = 1 from by omega) (show σ18 10 5 = σ 10 5 + (0 : Int) from by omega) (show run isL (fX σ) (σ18 10 5) = run isL (fX σ) (σ 10 5) from (by first | (rw [(tw_ne1 eσ18 (by (first | decide | omega)))]; exact (run_s (show isL (fX σ (τ 10 5)) = true from decide_eq_true (by omega)) (by omega)).symm.trans i2) | rw [(tw_ne1 eσ18 (by (first | decide | omega)))] | rfl)) (show ¬ σ 10 5 ≤ σ 10 10 ∨ σ18 10 5 ≤ σ 10 10 from by omega) (Nat.lt_succ_self _)
abbrev q_X9_readNumber  (σ : tw_M) : Option tw_V → tw_M → Prop := fun z τ => z = none ∧ tw_I τ ∧ tw_F (fun c j => (c = 10 ∧ (j = 5 ∨ j = 6 ∨ j = 8 ∨ j = 11 ∨ j = 12))) σ τ ∧ (τ 10 6 = 2) ∧ (τ 10 5 = run isG (fX σ) (σ 10 5)) ∧ (τ 10 8 = nv (fX σ) (σ 10 5) (τ 10 5 - σ 10 5).toNat) ∧ ((τ 10 5 - σ 10 7 ≤ 3 ∧ τ 10 11 = σ 10 11 ∧ τ 10 12 = σ 10 12) ∨ (3 < τ 10 5 - σ 10 7 ∧ σ 10 11 = 0 ∧ τ 10 11 = 1 ∧ τ 10 12 = σ 10 7) ∨ (3 < τ 10 5 - σ 10 7 ∧ ¬ σ 10 11 = 0 ∧ τ 10 11 = σ 10 11 ∧ τ 10 12 = σ 10 12)) ∧ (¬ σ 10 5 ≤ σ 10 10 ∨ τ 10 5 ≤ σ 10 10)
set_option maxHeartbeats 4000000 in
set_option maxRecDepth 100000 in
theorem l_X9_readNumber {G : tw_G} (hX : tw_isX G) (σ : tw_M) (hI : tw_I σ) : ∀ N_ : Nat, (∀ (i : Int) (hi : 0 ≤ i ∧ i ≤ 400) (τ : tw_M) (hIτ : tw_I τ) (hFτ : tw_F (fun c j => (c = 10 ∧ (j = 5 ∨ j = 6 ∨ j = 8 ∨ j = 11 ∨ j = 12))) σ τ) (i0 : (i = 0 ∧ τ 10 8 = 0) ∨ (i = 1 ∧ τ 10 8 ≤ 9) ∨ (i = 2 ∧ τ 10 8 ≤ 99) ∨ (3 ≤ i ∧ τ 10 8 ≤ 999)) (i1 : τ 10 6 = 2) (i2 : τ 10 5 = σ 10 5 + i) (i3 : run isG (fX σ) (τ 10 5) = run isG (fX σ) (σ 10 5)) (i4 : ¬ σ 10 5 ≤ σ 10 10 ∨ τ 10 5 ≤ σ 10 10) (i5 : τ 10 8 = nv (fX σ) (σ 10 5) i.toNat) (i6 : τ 10 11 = σ 10 11) (i7 : τ 10 12 = σ 10 12) (i8 : τ 10 7 = σ 10 7) (hm : (400 - i).toNat < N_), tw_J G (tw_mt RX9 cX9_readNumber 2 none 1) (tw_E G (q_X9_readNumber σ)) 12 [(0, vR 10), (1, vI i)] [] τ) := by
  intro N_
  induction N_ with
  | zero => exact fun i hi τ hIτ hFτ i0 i1 i2 i3 i4 i5 i6 i7 i8 hm => absurd hm (Nat.not_lt_zero _)
  | succ N_ ih =>
    intro i hi τ hIτ hFτ i0 i1 i2 i3 i4 i5 i6 i7 i8 hm
    have fx : fX τ = fX σ := fX_F (hFτ 10 10 (show ¬ ((10 = 10 ∧ (10 = 5 ∨ 10 = 6 ∨ 10 = 8 ∨ 10 = 11 ∨ 10 = 12))) from by decide)) (fun j => hFτ 11 j (show ¬ ((11 = 10 ∧ (j = 5 ∨ j = 6 ∨ j = 8 ∨ j = 11 ∨ j = 12))) from fun h => absurd h.1 (by decide)))
    have f10 : (0 : Int) ≤ σ 10 10 ∧ σ 10 10 ≤ 400 := hI 10 10
    have e10 : τ 10 10 = σ 10 10 := hFτ 10 10 (show ¬ ((10 = 10 ∧ (10 = 5 ∨ 10 = 6 ∨ 10 = 8 ∨ 10 = 11 ∨ 10 = 12))) from by decide); have f05 : (0 : Int) ≤ σ 10 5 ∧ σ 10 5 ≤ 400 := hI 10 5; have f15 : (0 : Int) ≤ τ 10 5 ∧ τ 10 5 ≤ 400 := hIτ 10 5
    refine j_iload_n (pc := 12) dX9_readNumber_12 rfl rfl ?_
    refine j_sipush (pc := 13) dX9_readNumber_13 rfl ?_
    refine j_icmpR_ge (pc := 16) (tgt := 77) ⟨by omega, by omega⟩ ⟨by omega, by omega⟩ dX9_readNumber_16 rfl (fun h1 => ?_) (fun h1 => ?_)
    · refine j_aload_n (pc := 77) dX9_readNumber_77 rfl rfl ?_
      refine j_getI (pc := 78) fl_X9_69 dX9_readNumber_78 (a_10 hX) rfl ?_
      have f2 : (0 : Int) ≤ τ 10 5 ∧ τ 10 5 ≤ 400 := hIτ 10 5
      refine j_aload_n (pc := 81) dX9_readNumber_81 rfl rfl ?_
      refine j_getI (pc := 82) fl_X9_76 dX9_readNumber_82 (a_10 hX) rfl ?_
      have f3 : (0 : Int) ≤ τ 10 7 ∧ τ 10 7 ≤ 400 := hIτ 10 7
      refine j_isub (pc := 85) dX9_readNumber_85 ?_
      refine j_iconst (pc := 86) dX9_readNumber_86 ?_
      refine j_icmpR_le (pc := 87) (tgt := 99) ⟨by omega, by omega⟩ ⟨by omega, by omega⟩ dX9_readNumber_87 rfl (fun h4 => ?_) (fun h4 => ?_)
      · exact j_vret (pc := 99) ⟨rfl, rfl⟩ dX9_readNumber_99 rfl ⟨rfl, hIτ, hFτ, by omega, (by rw [show τ 10 5 = τ 10 5 from rfl, ← i3]; exact (run_n (show isG (fX σ (τ 10 5)) = false from decide_eq_false (by first | omega | (rw [fX_no (by omega)]; decide)))).symm), (by rw [show τ 10 8 = τ 10 8 from rfl, show τ 10 5 = τ 10 5 from rfl, i5, show (τ 10 5 - σ 10 5).toNat = i.toNat from by omega]), by omega, (by skip; omega)⟩
      · refine j_aload_n (pc := 90) dX9_readNumber_90 rfl rfl ?_
        refine j_iconst (pc := 91) dX9_readNumber_91 ?_
        refine j_aload_n (pc := 92) dX9_readNumber_92 rfl rfl ?_
        refine j_getI (pc := 93) fl_X9_76 dX9_readNumber_93 (a_10 hX) rfl ?_
        refine j_callV (pc := 96) (As := [vI 1, vI (τ 10 7)]) (st := []) (c_X9_fail hX 1 (by (first | decide | exact ⟨by omega, by omega⟩)) (τ 10 7) ⟨by omega, by omega⟩ τ hIτ) mv_X9_61 rfl rfl rfl (a_10 hX) dX9_readNumber_96 ⟨Nat.le_of_ble_eq_true rfl, Nat.le_of_ble_eq_true rfl⟩ ⟨Nat.le_refl _, Nat.le_refl _⟩ rfl (Nat.le_of_ble_eq_true rfl) rfl (fun z5 σ6 hz5 => ?_)
        obtain ⟨rfl, hIσ6, hGσ6, q7_0⟩ := hz5
        replace q7_0 : (τ 10 11 = 0 ∧ σ6 10 11 = (1 : Int) ∧ σ6 10 12 = (τ 10 7)) ∨ (¬ τ 10 11 = 0 ∧ σ6 10 11 = τ 10 11 ∧ σ6 10 12 = τ 10 12) := q7_0
        have hFσ6 : tw_F (fun c j => (c = 10 ∧ (j = 5 ∨ j = 6 ∨ j = 8 ∨ j = 11 ∨ j = 12))) σ σ6 := tw_F_tr hFτ hGσ6 (fun c j q => (show (c = 10 ∧ (j = 5 ∨ j = 6 ∨ j = 8 ∨ j = 11 ∨ j = 12)) from by replace q : (c = 10 ∧ (j = 11 ∨ j = 12)) := q; exact ⟨q.1, (q.2.elim (fun z => (Or.inr (Or.inr (Or.inr (Or.inl z))))) (fun z => (Or.inr (Or.inr (Or.inr (Or.inr z))))))⟩))
        refine j_st (st' := []) rfl ?_
        have y9 : σ6 10 6 = τ 10 6 := (hGσ6 10 6 (show ¬ ((10 = 10 ∧ (6 = 11 ∨ 6 = 12))) from by decide))
        have f10 : (0 : Int) ≤ τ 10 6 ∧ τ 10 6 ≤ 3 := hIτ 10 6
        have y11 : σ6 10 5 = τ 10 5 := (hGσ6 10 5 (show ¬ ((10 = 10 ∧ (5 = 11 ∨ 5 = 12))) from by decide))
        have y12 : σ6 10 8 = τ 10 8 := (hGσ6 10 8 (show ¬ ((10 = 10 ∧ (8 = 11 ∨ 8 = 12))) from by decide))
        have f13 : (0 : Int) ≤ τ 10 8 ∧ τ 10 8 ≤ 999 := hIτ 10 8
        have y14 : σ6 10 5 = τ 10 5 := (hGσ6 10 5 (show ¬ ((10 = 10 ∧ (5 = 11 ∨ 5 = 12))) from by decide))
        have y15 : σ6 10 5 = τ 10 5 := (hGσ6 10 5 (show ¬ ((10 = 10 ∧ (5 = 11 ∨ 5 = 12))) from by decide))
        have y16 : σ6 10 5 = τ 10 5 := (hGσ6 10 5 (show ¬ ((10 = 10 ∧ (5 = 11 ∨ 5 = 12))) from by decide))
        exact j_vret (pc := 99) ⟨rfl, rfl⟩ dX9_readNumber_99 rfl ⟨rfl, hIσ6, hFσ6, by omega, (by rw [show σ6 10 5 = τ 10 5 from (hGσ6 10 5 (show ¬ ((10 = 10 ∧ (5 = 11 ∨ 5 = 12))) from by decide)), ← i3]; exact (run_n (show isG (fX σ (τ 10 5)) = false from decide_eq_false (by first | omega | (rw [fX_no (by omega)]; decide)))).symm), (by rw [show σ6 10 8 = τ 10 8 from (hGσ6 10 8 (show ¬ ((10 = 10 ∧ (8 = 11 ∨ 8 = 12))) from by decide)), show σ6 10 5 = τ 10 5 from (hGσ6 10 5 (show ¬ ((10 = 10 ∧ (5 = 11 ∨ 5 = 12))) from by decide)), i5, show (τ 10 5 - σ 10 5).toNat = i.toNat from by omega]), by omega, (by clear q7_0; omega)⟩
    · refine j_aload_n (pc := 19) dX9_readNumber_19 rfl rfl ?_
      refine j_aload_n (pc := 20) dX9_readNumber_20 rfl rfl ?_
      refine j_getI (pc := 21) fl_X9_69 dX9_readNumber_21 (a_10 hX) rfl ?_
      have f17 : (0 : Int) ≤ τ 10 5 ∧ τ 10 5 ≤ 400 := hIτ 10 5
      refine j_callV (pc := 24) (As := [vI (τ 10 5)]) (st := []) (c_X9_byteAt hX (τ 10 5) ⟨by omega, by omega⟩ τ hIτ) mv_X9_72 rfl rfl rfl (a_10 hX) dX9_readNumber_24 ⟨Nat.le_of_ble_eq_true rfl, Nat.le_of_ble_eq_true rfl⟩ ⟨Nat.le_refl _, Nat.le_refl _⟩ rfl (Nat.le_of_ble_eq_true rfl) rfl (fun z18 σ19 hz18 => ?_)
      obtain ⟨r21, rfl, hr21, rfl, q20_0, q20_1⟩ := hz18
      replace q20_0 : (¬ (0 ≤ (τ 10 5) ∧ (τ 10 5) < τ 10 10 ∧ (τ 10 5) < 400) ∧ r21 = -1) ∨ (0 ≤ (τ 10 5) ∧ (τ 10 5) < τ 10 10 ∧ (τ 10 5) < 400 ∧ 0 ≤ r21 ∧ r21 = tw_and (τ 11 (τ 10 5).toNat) 255) := q20_0
      replace q20_1 : r21 = fX τ (τ 10 5) := q20_1
      refine j_st (st' := [vI r21]) rfl ?_
      refine j_callS (pc := 27) (As := [vI r21]) (st := []) (c_X9_isFigure r21 ⟨by omega, by omega⟩ τ hIτ) ms_X9_86 rfl dX9_readNumber_27 ⟨Nat.le_of_ble_eq_true rfl, Nat.le_of_ble_eq_true rfl⟩ ⟨Nat.le_refl _, Nat.le_refl _⟩ rfl (Nat.le_of_ble_eq_true rfl) rfl (fun z22 σ23 hz22 => ?_)
      obtain ⟨r25, rfl, hr25, rfl, q24_0⟩ := hz22
      replace q24_0 : (r25 = 1 ∧ 48 ≤ r21 ∧ r21 ≤ 57) ∨ (r25 = 0 ∧ ¬ (48 ≤ r21 ∧ r21 ≤ 57)) := q24_0
      refine j_st (st' := [vI r25]) rfl ?_
      have b9 := q20_1; rw [fx] at b9
      refine j_ifR_eq (pc := 30) (tgt := 77) ⟨by omega, by omega⟩ dX9_readNumber_30 rfl (fun h26 => ?_) (fun h26 => ?_)
      · refine j_aload_n (pc := 77) dX9_readNumber_77 rfl rfl ?_
        refine j_getI (pc := 78) fl_X9_69 dX9_readNumber_78 (a_10 hX) rfl ?_
        refine j_aload_n (pc := 81) dX9_readNumber_81 rfl rfl ?_
        refine j_getI (pc := 82) fl_X9_76 dX9_readNumber_82 (a_10 hX) rfl ?_
        have f27 : (0 : Int) ≤ τ 10 7 ∧ τ 10 7 ≤ 400 := hIτ 10 7
        refine j_isub (pc := 85) dX9_readNumber_85 ?_
        refine j_iconst (pc := 86) dX9_readNumber_86 ?_
        refine j_icmpR_le (pc := 87) (tgt := 99) ⟨by omega, by omega⟩ ⟨by omega, by omega⟩ dX9_readNumber_87 rfl (fun h28 => ?_) (fun h28 => ?_)
        · exact j_vret (pc := 99) ⟨rfl, rfl⟩ dX9_readNumber_99 rfl ⟨rfl, hIτ, hFτ, by omega, (by rw [show τ 10 5 = τ 10 5 from rfl, ← i3]; exact (run_n (show isG (fX σ (τ 10 5)) = false from decide_eq_false (by first | omega | (rw [fX_no (by omega)]; decide)))).symm), (by rw [show τ 10 8 = τ 10 8 from rfl, show τ 10 5 = τ 10 5 from rfl, i5, show (τ 10 5 - σ 10 5).toNat = i.toNat from by omega]), by omega, (by clear q20_0 q20_1 q24_0; omega)⟩
        · refine j_aload_n (pc := 90) dX9_readNumber_90 rfl rfl ?_
          refine j_iconst (pc := 91) dX9_readNumber_91 ?_
          refine j_aload_n (pc := 92) dX9_readNumber_92 rfl rfl ?_
          refine j_getI (pc := 93) fl_X9_76 dX9_readNumber_93 (a_10 hX) rfl ?_
          refine j_callV (pc := 96) (As := [vI 1, vI (τ 10 7)]) (st := []) (c_X9_fail hX 1 (by (first | decide | exact ⟨by omega, by omega⟩)) (τ 10 7) ⟨by omega, by omega⟩ τ hIτ) mv_X9_61 rfl rfl rfl (a_10 hX) dX9_readNumber_96 ⟨Nat.le_of_ble_eq_true rfl, Nat.le_of_ble_eq_true rfl⟩ ⟨Nat.le_refl _, Nat.le_refl _⟩ rfl (Nat.le_of_ble_eq_true rfl) rfl (fun z29 σ30 hz29 => ?_)
          obtain ⟨rfl, hIσ30, hGσ30, q31_0⟩ := hz29
          replace q31_0 : (τ 10 11 = 0 ∧ σ30 10 11 = (1 : Int) ∧ σ30 10 12 = (τ 10 7)) ∨ (¬ τ 10 11 = 0 ∧ σ30 10 11 = τ 10 11 ∧ σ30 10 12 = τ 10 12) := q31_0
          have hFσ30 : tw_F (fun c j => (c = 10 ∧ (j = 5 ∨ j = 6 ∨ j = 8 ∨ j = 11 ∨ j = 12))) σ σ30 := tw_F_tr hFτ hGσ30 (fun c j q => (show (c = 10 ∧ (j = 5 ∨ j = 6 ∨ j = 8 ∨ j = 11 ∨ j = 12)) from by replace q : (c = 10 ∧ (j = 11 ∨ j = 12)) := q; exact ⟨q.1, (q.2.elim (fun z => (Or.inr (Or.inr (Or.inr (Or.inl z))))) (fun z => (Or.inr (Or.inr (Or.inr (Or.inr z))))))⟩))
          refine j_st (st' := []) rfl ?_
          have y33 : σ30 10 6 = τ 10 6 := (hGσ30 10 6 (show ¬ ((10 = 10 ∧ (6 = 11 ∨ 6 = 12))) from by decide))
          have f34 : (0 : Int) ≤ τ 10 6 ∧ τ 10 6 ≤ 3 := hIτ 10 6
          have y35 : σ30 10 5 = τ 10 5 := (hGσ30 10 5 (show ¬ ((10 = 10 ∧ (5 = 11 ∨ 5 = 12))) from by decide))
          have y36 : σ30 10 8 = τ 10 8 := (hGσ30 10 8 (show ¬ ((10 = 10 ∧ (8 = 11 ∨ 8 = 12))) from by decide))
          have f37 : (0 : Int) ≤ τ 10 8 ∧ τ 10 8 ≤ 999 := hIτ 10 8
          have y38 : σ30 10 5 = τ 10 5 := (hGσ30 10 5 (show ¬ ((10 = 10 ∧ (5 = 11 ∨ 5 = 12))) from by decide))
          have y39 : σ30 10 5 = τ 10 5 := (hGσ30 10 5 (show ¬ ((10 = 10 ∧ (5 = 11 ∨ 5 = 12))) from by decide))
          have y40 : σ30 10 5 = τ 10 5 := (hGσ30 10 5 (show ¬ ((10 = 10 ∧ (5 = 11 ∨ 5 = 12))) from by decide))
          exact j_vret (pc := 99) ⟨rfl, rfl⟩ dX9_readNumber_99 rfl ⟨rfl, hIσ30, hFσ30, by omega, (by rw [show σ30 10 5 = τ 10 5 from (hGσ30 10 5 (show ¬ ((10 = 10 ∧ (5 = 11 ∨ 5 = 12))) from by decide)), ← i3]; exact (run_n (show isG (fX σ (τ 10 5)) = false from decide_eq_false (by first | omega | (rw [fX_no (by omega)]; decide)))).symm), (by rw [show σ30 10 8 = τ 10 8 from (hGσ30 10 8 (show ¬ ((10 = 10 ∧ (8 = 11 ∨ 8 = 12))) from by decide)), show σ30 10 5 = τ 10 5 from (hGσ30 10 5 (show ¬ ((10 = 10 ∧ (5 = 11 ∨ 5 = 12))) from by decide)), i5, show (τ 10 5 - σ 10 5).toNat = i.toNat from by omega]), by omega, (by clear q20_0 q20_1 q24_0 q31_0; omega)⟩
      · refine j_iload_n (pc := 33) dX9_readNumber_33 rfl rfl ?_
        refine j_iconst (pc := 34) dX9_readNumber_34 ?_
        refine j_icmpR_ge (pc := 35) (tgt := 61) ⟨by omega, by omega⟩ ⟨by omega, by omega⟩ dX9_readNumber_35 rfl (fun h41 => ?_) (fun h41 => ?_)
        · refine j_aload_n (pc := 61) dX9_readNumber_61 rfl rfl ?_
          refine j_dup (pc := 62) dX9_readNumber_62 rfl ?_
          refine j_getI (pc := 63) fl_X9_69 dX9_readNumber_63 (a_10 hX) rfl ?_
          refine j_iconst (pc := 66) dX9_readNumber_66 ?_
          refine j_iadd (pc := 67) dX9_readNumber_67 ?_
          refine j_putI (pc := 68) fl_X9_69 fp_X9_5 dX9_readNumber_68 (a_10 hX) rfl (j_nm (fun σ42 (eσ42 : σ42 = tw_up τ 10 5 ((τ 10 5) + 1)) => ?_))
          have hIσ42 : tw_I σ42 := tw_I_up hIτ eσ42 (show (0 : Int) ≤ (τ 10 5) + 1 ∧ (τ 10 5) + 1 ≤ 400 from ⟨by omega, by omega⟩)
          have hFσ42 : tw_F (fun c j => (c = 10 ∧ (j = 5 ∨ j = 6 ∨ j = 8 ∨ j = 11 ∨ j = 12))) σ σ42 := tw_F_up hFτ eσ42 (show (10 = 10 ∧ (5 = 5 ∨ 5 = 6 ∨ 5 = 8 ∨ 5 = 11 ∨ 5 = 12)) from ⟨rfl, (Or.inl rfl)⟩)
          refine j_iinc (pc := 71) (i := 1) (n := 1) (ls' := [(0, vR 10), (1, vI (i + 1))]) [1, 0] dX9_readNumber_71 rfl (Nat.le_of_ble_eq_true rfl) rfl rfl ?_
          refine j_goto (pc := 74) (tgt := 12) dX9_readNumber_74 rfl ?_
          refine j_ls (ls' := [(0, vR 10), (1, vI (i + 1))]) [0, 1] rfl ?_
          have y43 : σ42 10 8 = τ 10 8 := (tw_ne1 eσ42 (by (first | decide | omega)))
          have f44 : (0 : Int) ≤ τ 10 8 ∧ τ 10 8 ≤ 999 := hIτ 10 8
          have y45 : σ42 10 6 = τ 10 6 := (tw_ne1 eσ42 (by (first | decide | omega)))
          have f46 : (0 : Int) ≤ τ 10 6 ∧ τ 10 6 ≤ 3 := hIτ 10 6
          have y47 : σ42 10 5 = (τ 10 5) + 1 := (tw_eq1 eσ42)
          have y48 : σ42 10 5 = (τ 10 5) + 1 := (tw_eq1 eσ42)
          have y49 : σ42 10 5 = (τ 10 5) + 1 := (tw_eq1 eσ42)
          have y50 : σ42 10 8 = τ 10 8 := (tw_ne1 eσ42 (by (first | decide | omega)))
          have y51 : σ42 10 11 = τ 10 11 := (tw_ne1 eσ42 (by (first | decide | omega)))
          have f52 : (0 : Int) ≤ τ 10 11 ∧ τ 10 11 ≤ 5 := hIτ 10 11
          have y53 : σ42 10 12 = τ 10 12 := (tw_ne1 eσ42 (by (first | decide | omega)))
          have f54 : (0 : Int) ≤ τ 10 12 ∧ τ 10 12 ≤ 400 := hIτ 10 12
          have y55 : σ42 10 7 = τ 10 7 := (tw_ne1 eσ42 (by (first | decide | omega)))
          have f56 : (0 : Int) ≤ τ 10 7 ∧ τ 10 7 ≤ 400 := hIτ 10 7
          exact ih (i + 1) ⟨by omega, by omega⟩ σ42 hIσ42 hFσ42 (show ((i + 1) = 0 ∧ σ42 10 8 = 0) ∨ ((i + 1) = 1 ∧ σ42 10 8 ≤ 9) ∨ ((i + 1) = 2 ∧ σ42 10 8 ≤ 99) ∨ (3 ≤ (i + 1) ∧ σ42 10 8 ≤ 999) from by omega) (show σ42 10 6 = 2 from by omega) (show σ42 10 5 = σ 10 5 + (i + 1) from by omega) (show run isG (fX σ) (σ42 10 5) = run isG (fX σ) (σ 10 5) from (by first | (rw [(tw_eq1 eσ42)]; exact (run_s (show isG (fX σ (τ 10 5)) = true from decide_eq_true (by omega)) (by omega)).symm.trans i3) | rw [(tw_eq1 eσ42)] | rfl)) (show ¬ σ 10 5 ≤ σ 10 10 ∨ σ42 10 5 ≤ σ 10 10 from by omega) (show σ42 10 8 = nv (fX σ) (σ 10 5) (i + 1).toNat from (by rw [(tw_ne1 eσ42 (by (first | decide | omega)))]; first | rfl | (rw [nv_lt ⟨by omega, by omega⟩, show σ 10 5 + i = τ 10 5 from by omega]; omega) | (rw [nv_ge (by omega)]; exact i5))) (show σ42 10 11 = σ 10 11 from by omega) (show σ42 10 12 = σ 10 12 from by omega) (show σ42 10 7 = σ 10 7 from by omega) (show (400 - (i + 1)).toNat < N_ from by omega)
        · refine j_aload_n (pc := 38) dX9_readNumber_38 rfl rfl ?_
          refine j_bipush (pc := 39) dX9_readNumber_39 rfl ?_
          refine j_aload_n (pc := 41) dX9_readNumber_41 rfl rfl ?_
          refine j_getI (pc := 42) fl_X9_95 dX9_readNumber_42 (a_10 hX) rfl ?_
          have f57 : (0 : Int) ≤ τ 10 8 ∧ τ 10 8 ≤ 999 := hIτ 10 8
          refine j_imul (pc := 45) dX9_readNumber_45 ?_
          refine j_aload_n (pc := 46) dX9_readNumber_46 rfl rfl ?_
          refine j_aload_n (pc := 47) dX9_readNumber_47 rfl rfl ?_
          refine j_getI (pc := 48) fl_X9_69 dX9_readNumber_48 (a_10 hX) rfl ?_
          refine j_callV (pc := 51) (As := [vI (τ 10 5)]) (st := [vI (10 * (τ 10 8)), vR 10]) (c_X9_byteAt hX (τ 10 5) ⟨by omega, by omega⟩ τ hIτ) mv_X9_72 rfl rfl rfl (a_10 hX) dX9_readNumber_51 ⟨Nat.le_of_ble_eq_true rfl, Nat.le_of_ble_eq_true rfl⟩ ⟨Nat.le_refl _, Nat.le_refl _⟩ rfl (Nat.le_of_ble_eq_true rfl) rfl (fun z58 σ59 hz58 => ?_)
          obtain ⟨r61, rfl, hr61, rfl, q60_0, q60_1⟩ := hz58
          replace q60_0 : (¬ (0 ≤ (τ 10 5) ∧ (τ 10 5) < τ 10 10 ∧ (τ 10 5) < 400) ∧ r61 = -1) ∨ (0 ≤ (τ 10 5) ∧ (τ 10 5) < τ 10 10 ∧ (τ 10 5) < 400 ∧ 0 ≤ r61 ∧ r61 = tw_and (τ 11 (τ 10 5).toNat) 255) := q60_0
          replace q60_1 : r61 = fX τ (τ 10 5) := q60_1
          refine j_st (st' := [vI r61, vI (10 * (τ 10 8)), vR 10]) rfl ?_
          have b8 := q60_1; rw [fx] at b8
          refine j_iadd (pc := 54) dX9_readNumber_54 ?_
          refine j_bipush (pc := 55) dX9_readNumber_55 rfl ?_
          refine j_isub (pc := 57) dX9_readNumber_57 ?_
          refine j_putI (pc := 58) fl_X9_95 fp_X9_8 dX9_readNumber_58 (a_10 hX) rfl (j_nm (fun σ62 (eσ62 : σ62 = tw_up τ 10 8 (((10 * (τ 10 8)) + r61) - 48)) => ?_))
          have hIσ62 : tw_I σ62 := tw_I_up hIτ eσ62 (show (0 : Int) ≤ ((10 * (τ 10 8)) + r61) - 48 ∧ ((10 * (τ 10 8)) + r61) - 48 ≤ 999 from ⟨by omega, by omega⟩)
          have hFσ62 : tw_F (fun c j => (c = 10 ∧ (j = 5 ∨ j = 6 ∨ j = 8 ∨ j = 11 ∨ j = 12))) σ σ62 := tw_F_up hFτ eσ62 (show (10 = 10 ∧ (8 = 5 ∨ 8 = 6 ∨ 8 = 8 ∨ 8 = 11 ∨ 8 = 12)) from ⟨rfl, (Or.inr (Or.inr (Or.inl rfl)))⟩)
          refine j_aload_n (pc := 61) dX9_readNumber_61 rfl rfl ?_
          refine j_dup (pc := 62) dX9_readNumber_62 rfl ?_
          refine j_getI (pc := 63) fl_X9_69 dX9_readNumber_63 (a_10 hX) rfl ?_
          refine j_topV (show σ62 10 5 = τ 10 5 from (tw_ne1 eσ62 (by (first | decide | omega)))) ?_
          refine j_iconst (pc := 66) dX9_readNumber_66 ?_
          refine j_iadd (pc := 67) dX9_readNumber_67 ?_
          refine j_putI (pc := 68) fl_X9_69 fp_X9_5 dX9_readNumber_68 (a_10 hX) rfl (j_nm (fun σ63 (eσ63 : σ63 = tw_up σ62 10 5 ((τ 10 5) + 1)) => ?_))
          have hIσ63 : tw_I σ63 := tw_I_up hIσ62 eσ63 (show (0 : Int) ≤ (τ 10 5) + 1 ∧ (τ 10 5) + 1 ≤ 400 from ⟨by omega, by omega⟩)
          have hFσ63 : tw_F (fun c j => (c = 10 ∧ (j = 5 ∨ j = 6 ∨ j = 8 ∨ j = 11 ∨ j = 12))) σ σ63 := tw_F_up hFσ62 eσ63 (show (10 = 10 ∧ (5 = 5 ∨ 5 = 6 ∨ 5 = 8 ∨ 5 = 11 ∨ 5 = 12)) from ⟨rfl, (Or.inl rfl)⟩)
          refine j_iinc (pc := 71) (i := 1) (n := 1) (ls' := [(0, vR 10), (1, vI (i + 1))]) [1, 0] dX9_readNumber_71 rfl (Nat.le_of_ble_eq_true rfl) rfl rfl ?_
          refine j_goto (pc := 74) (tgt := 12) dX9_readNumber_74 rfl ?_
          refine j_ls (ls' := [(0, vR 10), (1, vI (i + 1))]) [0, 1] rfl ?_
          have y64 : σ63 10 8 = ((10 * (τ 10 8)) + r61) - 48 := ((tw_ne1 eσ63 (by (first | decide | omega)))).trans (tw_eq1 eσ62)
          have y65 : σ63 10 6 = τ 10 6 := ((tw_ne1 eσ63 (by (first | decide | omega)))).trans (tw_ne1 eσ62 (by (first | decide | omega)))
          have f66 : (0 : Int) ≤ τ 10 6 ∧ τ 10 6 ≤ 3 := hIτ 10 6
          have y67 : σ63 10 5 = (τ 10 5) + 1 := (tw_eq1 eσ63)
          have y68 : σ63 10 5 = (τ 10 5) + 1 := (tw_eq1 eσ63)
          have y69 : σ63 10 5 = (τ 10 5) + 1 := (tw_eq1 eσ63)
          have y70 : σ63 10 8 = ((10 * (τ 10 8)) + r61) - 48 := ((tw_ne1 eσ63 (by (first | decide | omega)))).trans (tw_eq1 eσ62)
          have y71 : σ63 10 11 = τ 10 11 := ((tw_ne1 eσ63 (by (first | decide | omega)))).trans (tw_ne1 eσ62 (by (first | decide | omega)))
          have f72 : (0 : Int) ≤ τ 10 11 ∧ τ 10 11 ≤ 5 := hIτ 10 11
          have y73 : σ63 10 12 = τ 10 12 := ((tw_ne1 eσ63 (by (first | decide | omega)))).trans (tw_ne1 eσ62 (by (first | decide | omega)))
          have f74 : (0 : Int) ≤ τ 10 12 ∧ τ 10 12 ≤ 400 := hIτ 10 12
          have y75 : σ63 10 7 = τ 10 7 := ((tw_ne1 eσ63 (by (first | decide | omega)))).trans (tw_ne1 eσ62 (by (first | decide | omega)))
          have f76 : (0 : Int) ≤ τ 10 7 ∧ τ 10 7 ≤ 400 := hIτ 10 7
          exact ih (i + 1) ⟨by omega, by omega⟩ σ63 hIσ63 hFσ63 (show ((i + 1) = 0 ∧ σ63 10 8 = 0) ∨ ((i + 1) = 1 ∧ σ63 10 8 ≤ 9) ∨ ((i + 1) = 2 ∧ σ63 10 8 ≤ 99) ∨ (3 ≤ (i + 1) ∧ σ63 10 8 ≤ 999) from by omega) (show σ63 10 6 = 2 from by omega) (show σ63 10 5 = σ 10 5 + (i + 1) from by omega) (show run isG (fX σ) (σ63 10 5) = run isG (fX σ) (σ 10 5) from (by first | (rw [(tw_eq1 eσ63)]; exact (run_s (show isG (fX σ (τ 10 5)) = true from decide_eq_true (by omega)) (by omega)).symm.trans i3) | rw [(tw_eq1 eσ63)] | rfl)) (show ¬ σ 10 5 ≤ σ 10 10 ∨ σ63 10 5 ≤ σ 10 10 from by omega) (show σ63 10 8 = nv (fX σ) (σ 10 5) (i + 1).toNat from (by rw [((tw_ne1 eσ63 (by (first | decide | omega)))).trans (tw_eq1 eσ62)]; first | rfl | (rw [nv_lt ⟨by omega, by omega⟩, show σ 10 5 + i = τ 10 5 from by omega]; omega) | (rw [nv_ge (by omega)]; exact i5))) (show σ63 10 11 = σ 10 11 from by omega) (show σ63 10 12 = σ 10 12 from by omega) (show σ63 10 7 = σ 10 7 from by omega) (show (400 - (i + 1)).toNat < N_ from by omega)
set_option maxHeartbeats 4000000 in
set_option maxRecDepth 100000 in
theorem c_X9_readNumber {G : tw_G} (hX : tw_isX G) (σ : tw_M) (hI : tw_I σ) : tw_C G yX9_readNumber cX9_readNumber 2 none 1 [vR 10] σ (q_X9_readNumber σ) := by
  refine tw_met [(0, vR 10)] (by decide +kernel) rfl (Nat.le_of_ble_eq_true rfl) ?_
  refine j_aload_n (pc := 0) dX9_readNumber_0 rfl rfl ?_
  refine j_iconst (pc := 1) dX9_readNumber_1 ?_
  refine j_putI (pc := 2) fl_X9_48 fp_X9_6 dX9_readNumber_2 (a_10 hX) rfl (j_nm (fun σ77 (eσ77 : σ77 = tw_up σ 10 6 2) => ?_))
  have hIσ77 : tw_I σ77 := tw_I_up hI eσ77 (show (0 : Int) ≤ 2 ∧ 2 ≤ 3 from by decide)
  have hFσ77 : tw_F (fun c j => (c = 10 ∧ (j = 5 ∨ j = 6 ∨ j = 8 ∨ j = 11 ∨ j = 12))) σ σ77 := tw_F_up (tw_F_rf) eσ77 (show (10 = 10 ∧ (6 = 5 ∨ 6 = 6 ∨ 6 = 8 ∨ 6 = 11 ∨ 6 = 12)) from ⟨rfl, (Or.inr (Or.inl rfl))⟩)
  refine j_aload_n (pc := 5) dX9_readNumber_5 rfl rfl ?_
  refine j_iconst (pc := 6) dX9_readNumber_6 ?_
  refine j_putI (pc := 7) fl_X9_95 fp_X9_8 dX9_readNumber_7 (a_10 hX) rfl (j_nm (fun σ78 (eσ78 : σ78 = tw_up σ77 10 8 0) => ?_))
  have hIσ78 : tw_I σ78 := tw_I_up hIσ77 eσ78 (show (0 : Int) ≤ 0 ∧ 0 ≤ 999 from by decide)
  have hFσ78 : tw_F (fun c j => (c = 10 ∧ (j = 5 ∨ j = 6 ∨ j = 8 ∨ j = 11 ∨ j = 12))) σ σ78 := tw_F_up hFσ77 eσ78 (show (10 = 10 ∧ (8 = 5 ∨ 8 = 6 ∨ 8 = 8 ∨ 8 = 11 ∨ 8 = 12)) from ⟨rfl, (Or.inr (Or.inr (Or.inl rfl)))⟩)
  refine j_iconst (pc := 10) dX9_readNumber_10 ?_
  refine j_istore_n (pc := 11) (i := 1) (ls' := [(0, vR 10), (1, vI 0)]) [1, 0] dX9_readNumber_11 rfl (Nat.le_of_ble_eq_true rfl) rfl rfl ?_
  refine j_ls (ls' := [(0, vR 10), (1, vI 0)]) [0, 1] rfl ?_
  have y79 : σ78 10 8 = 0 := (tw_eq1 eσ78)
  have y80 : σ78 10 6 = 2 := ((tw_ne1 eσ78 (by (first | decide | omega)))).trans (tw_eq1 eσ77)
  have y81 : σ78 10 5 = σ 10 5 := ((tw_ne1 eσ78 (by (first | decide | omega)))).trans (tw_ne1 eσ77 (by (first | decide | omega)))
  have f82 : (0 : Int) ≤ σ 10 5 ∧ σ 10 5 ≤ 400 := hI 10 5
  have y83 : σ78 10 5 = σ 10 5 := ((tw_ne1 eσ78 (by (first | decide | omega)))).trans (tw_ne1 eσ77 (by (first | decide | omega)))
  have y84 : σ78 10 5 = σ 10 5 := ((tw_ne1 eσ78 (by (first | decide | omega)))).trans (tw_ne1 eσ77 (by (first | decide | omega)))
  have y85 : σ78 10 8 = 0 := (tw_eq1 eσ78)
  have y86 : σ78 10 11 = σ 10 11 := ((tw_ne1 eσ78 (by (first | decide | omega)))).trans (tw_ne1 eσ77 (by (first | decide | omega)))
  have f87 : (0 : Int) ≤ σ 10 11 ∧ σ 10 11 ≤ 5 := hI 10 11
  have y88 : σ78 10 12 = σ 10 12 := ((tw_ne1 eσ78 (by (first | decide | omega)))).trans (tw_ne1 eσ77 (by (first | decide | omega)))
  have f89 : (0 : Int) ≤ σ 10 12 ∧ σ 10 12 ≤ 400 := hI 10 12
  have y90 : σ78 10 7 = σ 10 7 := ((tw_ne1 eσ78 (by (first | decide | omega)))).trans (tw_ne1 eσ77 (by (first | decide | omega)))
  have f91 : (0 : Int) ≤ σ 10 7 ∧ σ 10 7 ≤ 400 := hI 10 7
  exact (l_X9_readNumber hX σ hI (((400 - (0 : Int)).toNat) + 1)) 0 (by (first | decide | exact ⟨by omega, by omega⟩)) σ78 hIσ78 hFσ78 (show ((0 : Int) = 0 ∧ σ78 10 8 = 0) ∨ ((0 : Int) = 1 ∧ σ78 10 8 ≤ 9) ∨ ((0 : Int) = 2 ∧ σ78 10 8 ≤ 99) ∨ (3 ≤ (0 : Int) ∧ σ78 10 8 ≤ 999) from by omega) (show σ78 10 6 = 2 from by omega) (show σ78 10 5 = σ 10 5 + (0 : Int) from by omega) (show run isG (fX σ) (σ78 10 5) = run isG (fX σ) (σ 10 5) from (by first | (rw [((tw_ne1 eσ78 (by (first | decide | omega)))).trans (tw_ne1 eσ77 (by (first | decide | omega)))]; exact (run_s (show isG (fX σ (τ 10 5)) = true from decide_eq_true (by omega)) (by omega)).symm.trans i3) | rw [((tw_ne1 eσ78 (by (first | decide | omega)))).trans (tw_ne1 eσ77 (by (first | decide | omega)))] | rfl)) (show ¬ σ 10 5 ≤ σ 10 10 ∨ σ78 10 5 ≤ σ 10 10 from by omega) (show σ78 10 8 = nv (fX σ) (σ 10 5) (0 : Int).toNat from (by rw [(tw_eq1 eσ78)]; first | rfl | (rw [nv_lt ⟨by omega, by omega⟩, show σ 10 5 + i = τ 10 5 from by omega]; omega) | (rw [nv_ge (by omega)]; exact i5))) (show σ78 10 11 = σ 10 11 from by omega) (show σ78 10 12 = σ 10 12 from by omega) (show σ78 10 7 = σ 10 7 from by omega) (Nat.lt_succ_self _)
abbrev q_X9_readSign  (σ : tw_M) : Option tw_V → tw_M → Prop := fun z τ => z = none ∧ tw_I τ ∧ tw_F (fun c j => (c = 10 ∧ (j = 5 ∨ j = 6))) σ τ ∧ (τ 10 6 = 3) ∧ (τ 10 5 = σ 10 5 + 1)
set_option maxHeartbeats 4000000 in
set_option maxRecDepth 100000 in
theorem c_X9_readSign {G : tw_G} (hX : tw_isX G) (σ : tw_M) (hI : tw_I σ) (hq0 : σ 10 5 < 400) : tw_C G yX9_readSign cX9_readSign 1 none 0 [vR 10] σ (q_X9_readSign σ) := by
  refine tw_met [(0, vR 10)] (by decide +kernel) rfl (Nat.le_of_ble_eq_true rfl) ?_
  refine j_aload_n (pc := 0) dX9_readSign_0 rfl rfl ?_
  refine j_iconst (pc := 1) dX9_readSign_1 ?_
  refine j_putI (pc := 2) fl_X9_48 fp_X9_6 dX9_readSign_2 (a_10 hX) rfl (j_nm (fun σ1 (eσ1 : σ1 = tw_up σ 10 6 3) => ?_))
  have hIσ1 : tw_I σ1 := tw_I_up hI eσ1 (show (0 : Int) ≤ 3 ∧ 3 ≤ 3 from by decide)
  have hFσ1 : tw_F (fun c j => (c = 10 ∧ (j = 5 ∨ j = 6))) σ σ1 := tw_F_up (tw_F_rf) eσ1 (show (10 = 10 ∧ (6 = 5 ∨ 6 = 6)) from ⟨rfl, (Or.inr rfl)⟩)
  refine j_aload_n (pc := 5) dX9_readSign_5 rfl rfl ?_
  refine j_dup (pc := 6) dX9_readSign_6 rfl ?_
  refine j_getI (pc := 7) fl_X9_69 dX9_readSign_7 (a_10 hX) rfl ?_
  refine j_topV (show σ1 10 5 = σ 10 5 from (tw_ne1 eσ1 (by (first | decide | omega)))) ?_
  have f2 : (0 : Int) ≤ σ 10 5 ∧ σ 10 5 ≤ 400 := hI 10 5
  refine j_iconst (pc := 10) dX9_readSign_10 ?_
  refine j_iadd (pc := 11) dX9_readSign_11 ?_
  refine j_putI (pc := 12) fl_X9_69 fp_X9_5 dX9_readSign_12 (a_10 hX) rfl (j_nm (fun σ3 (eσ3 : σ3 = tw_up σ1 10 5 ((σ 10 5) + 1)) => ?_))
  have hIσ3 : tw_I σ3 := tw_I_up hIσ1 eσ3 (show (0 : Int) ≤ (σ 10 5) + 1 ∧ (σ 10 5) + 1 ≤ 400 from ⟨by omega, by omega⟩)
  have hFσ3 : tw_F (fun c j => (c = 10 ∧ (j = 5 ∨ j = 6))) σ σ3 := tw_F_up hFσ1 eσ3 (show (10 = 10 ∧ (5 = 5 ∨ 5 = 6)) from ⟨rfl, (Or.inl rfl)⟩)
  have y4 : σ3 10 6 = 3 := ((tw_ne1 eσ3 (by (first | decide | omega)))).trans (tw_eq1 eσ1)
  have y5 : σ3 10 5 = (σ 10 5) + 1 := (tw_eq1 eσ3)
  exact j_vret (pc := 15) ⟨rfl, rfl⟩ dX9_readSign_15 rfl ⟨rfl, hIσ3, hFσ3, by omega, by omega⟩
