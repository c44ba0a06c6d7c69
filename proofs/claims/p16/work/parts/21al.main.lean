/-! 21al.main -/
theorem dX11_learn_0 : decode cX11_learn 0 = .ok (.aload_n 0, 1) := by decide +kernel
theorem dX11_learn_1 : decode cX11_learn 1 = .ok (.getfield 26, 3) := by decide +kernel
theorem dX11_learn_4 : decode cX11_learn 4 = .ok (.iconst 0, 1) := by decide +kernel
theorem dX11_learn_5 : decode cX11_learn 5 = .ok (.aload_n 0, 1) := by decide +kernel
theorem dX11_learn_6 : decode cX11_learn 6 = .ok (.getfield 26, 3) := by decide +kernel
theorem dX11_learn_9 : decode cX11_learn 9 = .ok (.getfield 136, 3) := by decide +kernel
theorem dX11_learn_12 : decode cX11_learn 12 = .ok (.invokevirtual 372, 3) := by decide +kernel
theorem dX11_learn_15 : decode cX11_learn 15 = .ok (.istore_n 1, 1) := by decide +kernel
theorem dX11_learn_16 : decode cX11_learn 16 = .ok (.aload_n 0, 1) := by decide +kernel
theorem dX11_learn_17 : decode cX11_learn 17 = .ok (.getfield 26, 3) := by decide +kernel
theorem dX11_learn_20 : decode cX11_learn 20 = .ok (.iconst 1, 1) := by decide +kernel
theorem dX11_learn_21 : decode cX11_learn 21 = .ok (.aload_n 0, 1) := by decide +kernel
theorem dX11_learn_22 : decode cX11_learn 22 = .ok (.getfield 26, 3) := by decide +kernel
theorem dX11_learn_25 : decode cX11_learn 25 = .ok (.getfield 139, 3) := by decide +kernel
theorem dX11_learn_28 : decode cX11_learn 28 = .ok (.invokevirtual 372, 3) := by decide +kernel
theorem dX11_learn_31 : decode cX11_learn 31 = .ok (.istore_n 2, 1) := by decide +kernel
theorem dX11_learn_32 : decode cX11_learn 32 = .ok (.iload_n 1, 1) := by decide +kernel
theorem dX11_learn_33 : decode cX11_learn 33 = .ok (.aload_n 0, 1) := by decide +kernel
theorem dX11_learn_34 : decode cX11_learn 34 = .ok (.getfield 26, 3) := by decide +kernel
theorem dX11_learn_37 : decode cX11_learn 37 = .ok (.getfield 136, 3) := by decide +kernel
theorem dX11_learn_40 : decode cX11_learn 40 = .ok (.if_icmp .eq 7, 3) := by decide +kernel
theorem dX11_learn_43 : decode cX11_learn 43 = .ok (.iconst 1, 1) := by decide +kernel
theorem dX11_learn_44 : decode cX11_learn 44 = .ok (.goto 4, 3) := by decide +kernel
theorem dX11_learn_47 : decode cX11_learn 47 = .ok (.iconst 0, 1) := by decide +kernel
theorem dX11_learn_48 : decode cX11_learn 48 = .ok (.iload_n 2, 1) := by decide +kernel
theorem dX11_learn_49 : decode cX11_learn 49 = .ok (.aload_n 0, 1) := by decide +kernel
theorem dX11_learn_50 : decode cX11_learn 50 = .ok (.getfield 26, 3) := by decide +kernel
theorem dX11_learn_53 : decode cX11_learn 53 = .ok (.getfield 139, 3) := by decide +kernel
theorem dX11_learn_56 : decode cX11_learn 56 = .ok (.if_icmp .eq 7, 3) := by decide +kernel
theorem dX11_learn_59 : decode cX11_learn 59 = .ok (.iconst 1, 1) := by decide +kernel
theorem dX11_learn_60 : decode cX11_learn 60 = .ok (.goto 4, 3) := by decide +kernel
theorem dX11_learn_63 : decode cX11_learn 63 = .ok (.iconst 0, 1) := by decide +kernel
theorem dX11_learn_64 : decode cX11_learn 64 = .ok (.iadd, 1) := by decide +kernel
theorem dX11_learn_65 : decode cX11_learn 65 = .ok (.istore_n 3, 1) := by decide +kernel
theorem dX11_learn_66 : decode cX11_learn 66 = .ok (.aload_n 0, 1) := by decide +kernel
theorem dX11_learn_67 : decode cX11_learn 67 = .ok (.getfield 26, 3) := by decide +kernel
theorem dX11_learn_70 : decode cX11_learn 70 = .ok (.iload_n 1, 1) := by decide +kernel
theorem dX11_learn_71 : decode cX11_learn 71 = .ok (.putfield 136, 3) := by decide +kernel
theorem dX11_learn_74 : decode cX11_learn 74 = .ok (.aload_n 0, 1) := by decide +kernel
theorem dX11_learn_75 : decode cX11_learn 75 = .ok (.getfield 26, 3) := by decide +kernel
theorem dX11_learn_78 : decode cX11_learn 78 = .ok (.iload_n 2, 1) := by decide +kernel
theorem dX11_learn_79 : decode cX11_learn 79 = .ok (.putfield 139, 3) := by decide +kernel
theorem dX11_learn_82 : decode cX11_learn 82 = .ok (.iload_n 3, 1) := by decide +kernel
theorem dX11_learn_83 : decode cX11_learn 83 = .ok (.ireturn, 1) := by decide +kernel
abbrev q_X11_learn  (σ : tw_M) : Option tw_V → tw_M → Prop := fun z τ => ∃ r : Int, z = some (vI r) ∧ (-2147483648 ≤ r ∧ r ≤ 2147483647) ∧ tw_I τ ∧ tw_F (fun c j => (c = 23 ∧ (j = 4 ∨ j = 5))) σ τ ∧ (((σ 29 0 = 0 ∧ τ 23 4 = σ 23 4) ∨ (¬ σ 29 0 = 0 ∧ τ 23 4 = lrn (σ 30 0) (σ 29 0)))) ∧ (((σ 29 1 = 0 ∧ τ 23 5 = σ 23 5) ∨ (¬ σ 29 1 = 0 ∧ τ 23 5 = lrn (σ 30 1) (σ 29 1)))) ∧ (((τ 23 4 = σ 23 4 ∧ τ 23 5 = σ 23 5 ∧ r = 0) ∨ (¬ τ 23 4 = σ 23 4 ∧ τ 23 5 = σ 23 5 ∧ r = 1) ∨ (τ 23 4 = σ 23 4 ∧ ¬ τ 23 5 = σ 23 5 ∧ r = 1) ∨ (¬ τ 23 4 = σ 23 4 ∧ ¬ τ 23 5 = σ 23 5 ∧ r = 2)))
set_option maxHeartbeats 4000000 in
set_option maxRecDepth 100000 in
theorem c_X11_learn {G : tw_G} (hX : tw_isX G) (σ : tw_M) (hI : tw_I σ) : tw_C G yX11_learn cX11_learn 4 (some .int) 1 [vR 0] σ (q_X11_learn σ) := by
  refine tw_met [(0, vR 0)] (by decide +kernel) rfl (Nat.le_of_ble_eq_true rfl) ?_
  refine j_aload_n (pc := 0) dX11_learn_0 rfl rfl ?_
  refine j_getR (pc := 1) (r := 23) fl_X11_26 dX11_learn_1 (a_0 hX) rfl ?_
  refine j_iconst (pc := 4) dX11_learn_4 ?_
  refine j_aload_n (pc := 5) dX11_learn_5 rfl rfl ?_
  refine j_getR (pc := 6) (r := 23) fl_X11_26 dX11_learn_6 (a_0 hX) rfl ?_
  refine j_getI (pc := 9) fl_X11_136 dX11_learn_9 (a_23 hX) rfl ?_
  have f1 : (-2147483648 : Int) ≤ σ 23 4 ∧ σ 23 4 ≤ 2147483647 := hI 23 4
  refine j_callV (pc := 12) (As := [vI 0, vI (σ 23 4)]) (st := []) (c_X3_learned 23 (s_Hand_23 hX) 0 (by (first | decide | exact ⟨by omega, by omega⟩)) (σ 23 4) ⟨by omega, by omega⟩ σ hI) mv_X11_372 rfl rfl rfl (a_23 hX) dX11_learn_12 ⟨Nat.le_of_ble_eq_true rfl, Nat.le_of_ble_eq_true rfl⟩ ⟨Nat.le_refl _, Nat.le_refl _⟩ rfl (Nat.le_of_ble_eq_true rfl) rfl (fun z2 σ3 hz2 => ?_)
  obtain ⟨r5, rfl, hr5, rfl, q4_0⟩ := hz2
  replace q4_0 : (σ 29 (0 : Int).toNat = 0 ∧ r5 = (σ 23 4)) ∨ (¬ σ 29 (0 : Int).toNat = 0 ∧ r5 = lrn (σ 30 (0 : Int).toNat) (σ 29 (0 : Int).toNat)) := q4_0
  refine j_st (st' := [vI r5]) rfl ?_
  have y0 : ((σ 29 0 = 0 ∧ r5 = σ 23 4) ∨ (¬ σ 29 0 = 0 ∧ r5 = lrn (σ 30 0) (σ 29 0))) := q4_0
  refine j_istore_n (pc := 15) (i := 1) (ls' := [(0, vR 0), (1, vI r5)]) [1, 0] dX11_learn_15 rfl (Nat.le_of_ble_eq_true rfl) rfl rfl ?_
  refine j_aload_n (pc := 16) dX11_learn_16 rfl rfl ?_
  refine j_getR (pc := 17) (r := 23) fl_X11_26 dX11_learn_17 (a_0 hX) rfl ?_
  refine j_iconst (pc := 20) dX11_learn_20 ?_
  refine j_aload_n (pc := 21) dX11_learn_21 rfl rfl ?_
  refine j_getR (pc := 22) (r := 23) fl_X11_26 dX11_learn_22 (a_0 hX) rfl ?_
  refine j_getI (pc := 25) fl_X11_139 dX11_learn_25 (a_23 hX) rfl ?_
  have f6 : (-2147483648 : Int) ≤ σ 23 5 ∧ σ 23 5 ≤ 2147483647 := hI 23 5
  refine j_callV (pc := 28) (As := [vI 1, vI (σ 23 5)]) (st := []) (c_X3_learned 23 (s_Hand_23 hX) 1 (by (first | decide | exact ⟨by omega, by omega⟩)) (σ 23 5) ⟨by omega, by omega⟩ σ hI) mv_X11_372 rfl rfl rfl (a_23 hX) dX11_learn_28 ⟨Nat.le_of_ble_eq_true rfl, Nat.le_of_ble_eq_true rfl⟩ ⟨Nat.le_refl _, Nat.le_refl _⟩ rfl (Nat.le_of_ble_eq_true rfl) rfl (fun z7 σ8 hz7 => ?_)
  obtain ⟨r10, rfl, hr10, rfl, q9_0⟩ := hz7
  replace q9_0 : (σ 29 (1 : Int).toNat = 0 ∧ r10 = (σ 23 5)) ∨ (¬ σ 29 (1 : Int).toNat = 0 ∧ r10 = lrn (σ 30 (1 : Int).toNat) (σ 29 (1 : Int).toNat)) := q9_0
  refine j_st (st' := [vI r10]) rfl ?_
  have y1 : ((σ 29 1 = 0 ∧ r10 = σ 23 5) ∨ (¬ σ 29 1 = 0 ∧ r10 = lrn (σ 30 1) (σ 29 1))) := q9_0
  clear q9_0 q4_0
  refine j_istore_n (pc := 31) (i := 2) (ls' := [(0, vR 0), (1, vI r5), (2, vI r10)]) [1, 2, 0] dX11_learn_31 rfl (Nat.le_of_ble_eq_true rfl) rfl rfl ?_
  refine j_iload_n (pc := 32) dX11_learn_32 rfl rfl ?_
  refine j_aload_n (pc := 33) dX11_learn_33 rfl rfl ?_
  refine j_getR (pc := 34) (r := 23) fl_X11_26 dX11_learn_34 (a_0 hX) rfl ?_
  refine j_getI (pc := 37) fl_X11_136 dX11_learn_37 (a_23 hX) rfl ?_
  refine j_icmpR_eq (pc := 40) (tgt := 47) ⟨by omega, by omega⟩ ⟨by omega, by omega⟩ dX11_learn_40 rfl (fun h11 => ?_) (fun h11 => ?_)
  · refine j_iconst (pc := 47) dX11_learn_47 ?_
    refine j_iload_n (pc := 48) dX11_learn_48 rfl rfl ?_
    refine j_aload_n (pc := 49) dX11_learn_49 rfl rfl ?_
    refine j_getR (pc := 50) (r := 23) fl_X11_26 dX11_learn_50 (a_0 hX) rfl ?_
    refine j_getI (pc := 53) fl_X11_139 dX11_learn_53 (a_23 hX) rfl ?_
    refine j_icmpR_eq (pc := 56) (tgt := 63) ⟨by omega, by omega⟩ ⟨by omega, by omega⟩ dX11_learn_56 rfl (fun h12 => ?_) (fun h12 => ?_)
    · refine j_iconst (pc := 63) dX11_learn_63 ?_
      refine j_iadd (pc := 64) dX11_learn_64 ?_
      refine j_topV (show (0 + 0 : Int) = 0 from by decide) ?_
      refine j_istore_n (pc := 65) (i := 3) (ls' := [(0, vR 0), (1, vI r5), (2, vI r10), (3, vI 0)]) [1, 2, 3, 0] dX11_learn_65 rfl (Nat.le_of_ble_eq_true rfl) rfl rfl ?_
      refine j_aload_n (pc := 66) dX11_learn_66 rfl rfl ?_
      refine j_getR (pc := 67) (r := 23) fl_X11_26 dX11_learn_67 (a_0 hX) rfl ?_
      refine j_iload_n (pc := 70) dX11_learn_70 rfl rfl ?_
      refine j_putI (pc := 71) fl_X11_136 fp_X3_4 dX11_learn_71 (a_23 hX) rfl (j_nm (fun σ13 (eσ13 : σ13 = tw_up σ 23 4 r5) => ?_))
      have hIσ13 : tw_I σ13 := tw_I_up hI eσ13 (show (-2147483648 : Int) ≤ r5 ∧ r5 ≤ 2147483647 from ⟨by omega, by omega⟩)
      have hFσ13 : tw_F (fun c j => (c = 23 ∧ (j = 4 ∨ j = 5))) σ σ13 := tw_F_up (tw_F_rf) eσ13 (show (23 = 23 ∧ (4 = 4 ∨ 4 = 5)) from ⟨rfl, (Or.inl rfl)⟩)
      refine j_aload_n (pc := 74) dX11_learn_74 rfl rfl ?_
      refine j_getR (pc := 75) (r := 23) fl_X11_26 dX11_learn_75 (a_0 hX) rfl ?_
      refine j_iload_n (pc := 78) dX11_learn_78 rfl rfl ?_
      refine j_putI (pc := 79) fl_X11_139 fp_X3_5 dX11_learn_79 (a_23 hX) rfl (j_nm (fun σ14 (eσ14 : σ14 = tw_up σ13 23 5 r10) => ?_))
      have hIσ14 : tw_I σ14 := tw_I_up hIσ13 eσ14 (show (-2147483648 : Int) ≤ r10 ∧ r10 ≤ 2147483647 from ⟨by omega, by omega⟩)
      have hFσ14 : tw_F (fun c j => (c = 23 ∧ (j = 4 ∨ j = 5))) σ σ14 := tw_F_up hFσ13 eσ14 (show (23 = 23 ∧ (5 = 4 ∨ 5 = 5)) from ⟨rfl, (Or.inr rfl)⟩)
      refine j_iload_n (pc := 82) dX11_learn_82 rfl rfl ?_
      have y15 : σ14 23 4 = r5 := ((tw_ne1 eσ14 (by (first | decide | omega)))).trans (tw_eq1 eσ13)
      have y16 : σ14 23 5 = r10 := (tw_eq1 eσ14)
      have y17 : σ14 23 4 = r5 := ((tw_ne1 eσ14 (by (first | decide | omega)))).trans (tw_eq1 eσ13)
      have y18 : σ14 23 5 = r10 := (tw_eq1 eσ14)
      exact j_iret (pc := 83) ⟨rfl, rfl⟩ dX11_learn_83 rfl ⟨_, rfl, ⟨by omega, by omega⟩, hIσ14, hFσ14, by omega, by omega, by omega⟩
    · refine j_iconst (pc := 59) dX11_learn_59 ?_
      refine j_goto (pc := 60) (tgt := 64) dX11_learn_60 rfl ?_
      refine j_iadd (pc := 64) dX11_learn_64 ?_
      refine j_topV (show (0 + 1 : Int) = 1 from by decide) ?_
      refine j_istore_n (pc := 65) (i := 3) (ls' := [(0, vR 0), (1, vI r5), (2, vI r10), (3, vI 1)]) [1, 2, 3, 0] dX11_learn_65 rfl (Nat.le_of_ble_eq_true rfl) rfl rfl ?_
      refine j_aload_n (pc := 66) dX11_learn_66 rfl rfl ?_
      refine j_getR (pc := 67) (r := 23) fl_X11_26 dX11_learn_67 (a_0 hX) rfl ?_
      refine j_iload_n (pc := 70) dX11_learn_70 rfl rfl ?_
      refine j_putI (pc := 71) fl_X11_136 fp_X3_4 dX11_learn_71 (a_23 hX) rfl (j_nm (fun σ19 (eσ19 : σ19 = tw_up σ 23 4 r5) => ?_))
      have hIσ19 : tw_I σ19 := tw_I_up hI eσ19 (show (-2147483648 : Int) ≤ r5 ∧ r5 ≤ 2147483647 from ⟨by omega, by omega⟩)
      have hFσ19 : tw_F (fun c j => (c = 23 ∧ (j = 4 ∨ j = 5))) σ σ19 := tw_F_up (tw_F_rf) eσ19 (show (23 = 23 ∧ (4 = 4 ∨ 4 = 5)) from ⟨rfl, (Or.inl rfl)⟩)
      refine j_aload_n (pc := 74) dX11_learn_74 rfl rfl ?_
      refine j_getR (pc := 75) (r := 23) fl_X11_26 dX11_learn_75 (a_0 hX) rfl ?_
      refine j_iload_n (pc := 78) dX11_learn_78 rfl rfl ?_
      refine j_putI (pc := 79) fl_X11_139 fp_X3_5 dX11_learn_79 (a_23 hX) rfl (j_nm (fun σ20 (eσ20 : σ20 = tw_up σ19 23 5 r10) => ?_))
      have hIσ20 : tw_I σ20 := tw_I_up hIσ19 eσ20 (show (-2147483648 : Int) ≤ r10 ∧ r10 ≤ 2147483647 from ⟨by omega, by omega⟩)
      have hFσ20 : tw_F (fun c j => (c = 23 ∧ (j = 4 ∨ j = 5))) σ σ20 := tw_F_up hFσ19 eσ20 (show (23 = 23 ∧ (5 = 4 ∨ 5 = 5)) from ⟨rfl, (Or.inr rfl)⟩)
      refine j_iload_n (pc := 82) dX11_learn_82 rfl rfl ?_
      have y21 : σ20 23 4 = r5 := ((tw_ne1 eσ20 (by (first | decide | omega)))).trans (tw_eq1 eσ19)
      have y22 : σ20 23 5 = r10 := (tw_eq1 eσ20)
      have y23 : σ20 23 4 = r5 := ((tw_ne1 eσ20 (by (first | decide | omega)))).trans (tw_eq1 eσ19)
      have y24 : σ20 23 5 = r10 := (tw_eq1 eσ20)
      exact j_iret (pc := 83) ⟨rfl, rfl⟩ dX11_learn_83 rfl ⟨_, rfl, ⟨by omega, by omega⟩, hIσ20, hFσ20, by omega, by omega, by omega⟩
  · refine j_iconst (pc := 43) dX11_learn_43 ?_
    refine j_goto (pc := 44) (tgt := 48) dX11_learn_44 rfl ?_
    refine j_iload_n (pc := 48) dX11_learn_48 rfl rfl ?_
    refine j_aload_n (pc := 49) dX11_learn_49 rfl rfl ?_
    refine j_getR (pc := 50) (r := 23) fl_X11_26 dX11_learn_50 (a_0 hX) rfl ?_
    refine j_getI (pc := 53) fl_X11_139 dX11_learn_53 (a_23 hX) rfl ?_
    refine j_icmpR_eq (pc := 56) (tgt := 63) ⟨by omega, by omega⟩ ⟨by omega, by omega⟩ dX11_learn_56 rfl (fun h25 => ?_) (fun h25 => ?_)
    · refine j_iconst (pc := 63) dX11_learn_63 ?_
      refine j_iadd (pc := 64) dX11_learn_64 ?_
      refine j_topV (show (1 + 0 : Int) = 1 from by decide) ?_
      refine j_istore_n (pc := 65) (i := 3) (ls' := [(0, vR 0), (1, vI r5), (2, vI r10), (3, vI 1)]) [1, 2, 3, 0] dX11_learn_65 rfl (Nat.le_of_ble_eq_true rfl) rfl rfl ?_
      refine j_aload_n (pc := 66) dX11_learn_66 rfl rfl ?_
      refine j_getR (pc := 67) (r := 23) fl_X11_26 dX11_learn_67 (a_0 hX) rfl ?_
      refine j_iload_n (pc := 70) dX11_learn_70 rfl rfl ?_
      refine j_putI (pc := 71) fl_X11_136 fp_X3_4 dX11_learn_71 (a_23 hX) rfl (j_nm (fun σ26 (eσ26 : σ26 = tw_up σ 23 4 r5) => ?_))
      have hIσ26 : tw_I σ26 := tw_I_up hI eσ26 (show (-2147483648 : Int) ≤ r5 ∧ r5 ≤ 2147483647 from ⟨by omega, by omega⟩)
      have hFσ26 : tw_F (fun c j => (c = 23 ∧ (j = 4 ∨ j = 5))) σ σ26 := tw_F_up (tw_F_rf) eσ26 (show (23 = 23 ∧ (4 = 4 ∨ 4 = 5)) from ⟨rfl, (Or.inl rfl)⟩)
      refine j_aload_n (pc := 74) dX11_learn_74 rfl rfl ?_
      refine j_getR (pc := 75) (r := 23) fl_X11_26 dX11_learn_75 (a_0 hX) rfl ?_
      refine j_iload_n (pc := 78) dX11_learn_78 rfl rfl ?_
      refine j_putI (pc := 79) fl_X11_139 fp_X3_5 dX11_learn_79 (a_23 hX) rfl (j_nm (fun σ27 (eσ27 : σ27 = tw_up σ26 23 5 r10) => ?_))
      have hIσ27 : tw_I σ27 := tw_I_up hIσ26 eσ27 (show (-2147483648 : Int) ≤ r10 ∧ r10 ≤ 2147483647 from ⟨by omega, by omega⟩)
      have hFσ27 : tw_F (fun c j => (c = 23 ∧ (j = 4 ∨ j = 5))) σ σ27 := tw_F_up hFσ26 eσ27 (show (23 = 23 ∧ (5 = 4 ∨ 5 = 5)) from ⟨rfl, (Or.inr rfl)⟩)
      refine j_iload_n (pc := 82) dX11_learn_82 rfl rfl ?_
      have y28 : σ27 23 4 = r5 := ((tw_ne1 eσ27 (by (first | decide | omega)))).trans (tw_eq1 eσ26)
      have y29 : σ27 23 5 = r10 := (tw_eq1 eσ27)
      have y30 : σ27 23 4 = r5 := ((tw_ne1 eσ27 (by (first | decide | omega)))).trans (tw_eq1 eσ26)
      have y31 : σ27 23 5 = r10 := (tw_eq1 eσ27)
      exact j_iret (pc := 83) ⟨rfl, rfl⟩ dX11_learn_83 rfl ⟨_, rfl, ⟨by omega, by omega⟩, hIσ27, hFσ27, by omega, by omega, by omega⟩
    · refine j_iconst (pc := 59) dX11_learn_59 ?_
      refine j_goto (pc := 60) (tgt := 64) dX11_learn_60 rfl ?_
      refine j_iadd (pc := 64) dX11_learn_64 ?_
      refine j_topV (show (1 + 1 : Int) = 2 from by decide) ?_
      refine j_istore_n (pc := 65) (i := 3) (ls' := [(0, vR 0), (1, vI r5), (2, vI r10), (3, vI 2)]) [1, 2, 3, 0] dX11_learn_65 rfl (Nat.le_of_ble_eq_true rfl) rfl rfl ?_
      refine j_aload_n (pc := 66) dX11_learn_66 rfl rfl ?_
      refine j_getR (pc := 67) (r := 23) fl_X11_26 dX11_learn_67 (a_0 hX) rfl ?_
      refine j_iload_n (pc := 70) dX11_learn_70 rfl rfl ?_
      refine j_putI (pc := 71) fl_X11_136 fp_X3_4 dX11_learn_71 (a_23 hX) rfl (j_nm (fun σ32 (eσ32 : σ32 = tw_up σ 23 4 r5) => ?_))
      have hIσ32 : tw_I σ32 := tw_I_up hI eσ32 (show (-2147483648 : Int) ≤ r5 ∧ r5 ≤ 2147483647 from ⟨by omega, by omega⟩)
      have hFσ32 : tw_F (fun c j => (c = 23 ∧ (j = 4 ∨ j = 5))) σ σ32 := tw_F_up (tw_F_rf) eσ32 (show (23 = 23 ∧ (4 = 4 ∨ 4 = 5)) from ⟨rfl, (Or.inl rfl)⟩)
      refine j_aload_n (pc := 74) dX11_learn_74 rfl rfl ?_
      refine j_getR (pc := 75) (r := 23) fl_X11_26 dX11_learn_75 (a_0 hX) rfl ?_
      refine j_iload_n (pc := 78) dX11_learn_78 rfl rfl ?_
      refine j_putI (pc := 79) fl_X11_139 fp_X3_5 dX11_learn_79 (a_23 hX) rfl (j_nm (fun σ33 (eσ33 : σ33 = tw_up σ32 23 5 r10) => ?_))
      have hIσ33 : tw_I σ33 := tw_I_up hIσ32 eσ33 (show (-2147483648 : Int) ≤ r10 ∧ r10 ≤ 2147483647 from ⟨by omega, by omega⟩)
      have hFσ33 : tw_F (fun c j => (c = 23 ∧ (j = 4 ∨ j = 5))) σ σ33 := tw_F_up hFσ32 eσ33 (show (23 = 23 ∧ (5 = 4 ∨ 5 = 5)) from ⟨rfl, (Or.inr rfl)⟩)
      refine j_iload_n (pc := 82) dX11_learn_82 rfl rfl ?_
      have y34 : σ33 23 4 = r5 := ((tw_ne1 eσ33 (by (first | decide | omega)))).trans (tw_eq1 eσ32)
      have y35 : σ33 23 5 = r10 := (tw_eq1 eσ33)
      have y36 : σ33 23 4 = r5 := ((tw_ne1 eσ33 (by (first | decide | omega)))).trans (tw_eq1 eσ32)
      have y37 : σ33 23 5 = r10 := (tw_eq1 eσ33)
      exact j_iret (pc := 83) ⟨rfl, rfl⟩ dX11_learn_83 rfl ⟨_, rfl, ⟨by omega, by omega⟩, hIσ33, hFσ33, by omega, by omega, by omega⟩
