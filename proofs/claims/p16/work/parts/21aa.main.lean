/-! 21aa.main -/
theorem dX11_plan_0 : decode cX11_plan 0 = .ok (.aload_n 0, 1) := by decide +kernel
theorem dX11_plan_1 : decode cX11_plan 1 = .ok (.getfield 67, 3) := by decide +kernel
theorem dX11_plan_4 : decode cX11_plan 4 = .ok (.invokevirtual 281, 3) := by decide +kernel
theorem dX11_plan_7 : decode cX11_plan 7 = .ok (.aload_n 0, 1) := by decide +kernel
theorem dX11_plan_8 : decode cX11_plan 8 = .ok (.getfield 67, 3) := by decide +kernel
theorem dX11_plan_11 : decode cX11_plan 11 = .ok (.getfield 284, 3) := by decide +kernel
theorem dX11_plan_14 : decode cX11_plan 14 = .ok (.ifCond .eq 16, 3) := by decide +kernel
theorem dX11_plan_17 : decode cX11_plan 17 = .ok (.aload_n 0, 1) := by decide +kernel
theorem dX11_plan_18 : decode cX11_plan 18 = .ok (.getfield 67, 3) := by decide +kernel
theorem dX11_plan_21 : decode cX11_plan 21 = .ok (.getfield 287, 3) := by decide +kernel
theorem dX11_plan_24 : decode cX11_plan 24 = .ok (.getfield 187, 3) := by decide +kernel
theorem dX11_plan_27 : decode cX11_plan 27 = .ok (.goto 4, 3) := by decide +kernel
theorem dX11_plan_30 : decode cX11_plan 30 = .ok (.iconst 0, 1) := by decide +kernel
theorem dX11_plan_31 : decode cX11_plan 31 = .ok (.istore_n 2, 1) := by decide +kernel
theorem dX11_plan_32 : decode cX11_plan 32 = .ok (.iload_n 1, 1) := by decide +kernel
theorem dX11_plan_33 : decode cX11_plan 33 = .ok (.iconst 2, 1) := by decide +kernel
theorem dX11_plan_34 : decode cX11_plan 34 = .ok (.iload_n 2, 1) := by decide +kernel
theorem dX11_plan_35 : decode cX11_plan 35 = .ok (.invokestatic 290, 3) := by decide +kernel
theorem dX11_plan_38 : decode cX11_plan 38 = .ok (.ifCond .ne 5, 3) := by decide +kernel
theorem dX11_plan_41 : decode cX11_plan 41 = .ok (.iconst (-1), 1) := by decide +kernel
theorem dX11_plan_42 : decode cX11_plan 42 = .ok (.ireturn, 1) := by decide +kernel
theorem dX11_plan_43 : decode cX11_plan 43 = .ok (.aload_n 0, 1) := by decide +kernel
theorem dX11_plan_44 : decode cX11_plan 44 = .ok (.getfield 67, 3) := by decide +kernel
theorem dX11_plan_47 : decode cX11_plan 47 = .ok (.getfield 284, 3) := by decide +kernel
theorem dX11_plan_50 : decode cX11_plan 50 = .ok (.ifCond .ne 6, 3) := by decide +kernel
theorem dX11_plan_53 : decode cX11_plan 53 = .ok (.bipush (-4), 2) := by decide +kernel
theorem dX11_plan_55 : decode cX11_plan 55 = .ok (.ireturn, 1) := by decide +kernel
theorem dX11_plan_56 : decode cX11_plan 56 = .ok (.iload_n 1, 1) := by decide +kernel
theorem dX11_plan_57 : decode cX11_plan 57 = .ok (.ifCond .ne 11, 3) := by decide +kernel
theorem dX11_plan_60 : decode cX11_plan 60 = .ok (.aload_n 0, 1) := by decide +kernel
theorem dX11_plan_61 : decode cX11_plan 61 = .ok (.getfield 67, 3) := by decide +kernel
theorem dX11_plan_64 : decode cX11_plan 64 = .ok (.getfield 294, 3) := by decide +kernel
theorem dX11_plan_67 : decode cX11_plan 67 = .ok (.ireturn, 1) := by decide +kernel
theorem dX11_plan_68 : decode cX11_plan 68 = .ok (.iload_n 1, 1) := by decide +kernel
theorem dX11_plan_69 : decode cX11_plan 69 = .ok (.iconst 1, 1) := by decide +kernel
theorem dX11_plan_70 : decode cX11_plan 70 = .ok (.if_icmp .ne 7, 3) := by decide +kernel
theorem dX11_plan_73 : decode cX11_plan 73 = .ok (.iload_n 2, 1) := by decide +kernel
theorem dX11_plan_74 : decode cX11_plan 74 = .ok (.goto 18, 3) := by decide +kernel
theorem dX11_plan_77 : decode cX11_plan 77 = .ok (.aload_n 0, 1) := by decide +kernel
theorem dX11_plan_78 : decode cX11_plan 78 = .ok (.getfield 67, 3) := by decide +kernel
theorem dX11_plan_81 : decode cX11_plan 81 = .ok (.getfield 287, 3) := by decide +kernel
theorem dX11_plan_84 : decode cX11_plan 84 = .ok (.getfield 190, 3) := by decide +kernel
theorem dX11_plan_87 : decode cX11_plan 87 = .ok (.iload_n 1, 1) := by decide +kernel
theorem dX11_plan_88 : decode cX11_plan 88 = .ok (.bipush 10, 2) := by decide +kernel
theorem dX11_plan_90 : decode cX11_plan 90 = .ok (.isub, 1) := by decide +kernel
theorem dX11_plan_91 : decode cX11_plan 91 = .ok (.iaload, 1) := by decide +kernel
theorem dX11_plan_92 : decode cX11_plan 92 = .ok (.ireturn, 1) := by decide +kernel
abbrev q_X11_plan (w : Int) (σ : tw_M) : Option tw_V → tw_M → Prop := fun z τ => ∃ r : Int, z = some (vI r) ∧ (-2147483648 ≤ r ∧ r ≤ 2147483647) ∧ tw_I τ ∧ tw_F (fun c j => (56 ≤ c ∧ c < 58) ∨ (c = 60 ∧ (j = 5 ∨ j = 6 ∨ j = 8 ∨ j = 10 ∨ j = 11)) ∨ (61 ≤ c ∧ c < 71)) σ τ ∧ (∀ rk : Nat → Int, WOK (wW 1 σ) → (∀ s : Int, 1 ≤ s → s ≤ 10 → σ 3 s.toNat = rk s.toNat) → (¬ σ 60 6 = 0 → PLN (wW 1 σ) rk σ) → ¬ τ 60 6 = 0 → PLN (wW 1 σ) rk τ)
set_option maxHeartbeats 4000000 in
set_option maxRecDepth 100000 in
theorem c_X11_plan {G : tw_G} (hX : tw_isX G) (w : Int) (hw : -2147483648 ≤ w ∧ w ≤ 2147483647) (σ : tw_M) (hI : tw_I σ) : tw_C G yX11_plan cX11_plan 3 (some .int) 45 [vR 0, vI w] σ (q_X11_plan w σ) := by
  refine tw_met [(0, vR 0), (1, vI w)] (by decide +kernel) rfl (Nat.le_of_ble_eq_true rfl) ?_
  refine j_aload_n (pc := 0) dX11_plan_0 rfl rfl ?_
  refine j_getR (pc := 1) (r := 60) fl_X11_67 dX11_plan_1 (a_0 hX) rfl ?_
  refine j_callV (pc := 4) (As := []) (st := []) (c_X5_findPlan hX σ hI) mv_X11_281 rfl rfl rfl (a_60 hX) dX11_plan_4 ⟨Nat.le_of_ble_eq_true rfl, Nat.le_of_ble_eq_true rfl⟩ ⟨Nat.le_refl _, Nat.le_refl _⟩ rfl (Nat.le_of_ble_eq_true rfl) rfl (fun z1 σ2 hz1 => ?_)
  obtain ⟨rfl, hIσ2, hGσ2, q3_0⟩ := hz1
  replace q3_0 : ∀ rk : Nat → Int, WOK (wW 1 σ) → (∀ s : Int, 1 ≤ s → s ≤ 10 → σ 3 s.toNat = rk s.toNat) → (¬ σ 60 6 = 0 → PLN (wW 1 σ) rk σ) → PLN (wW 1 σ) rk σ2 ∧ σ2 60 6 = 1 := q3_0
  have hFσ2 : tw_F (fun c j => (56 ≤ c ∧ c < 58) ∨ (c = 60 ∧ (j = 5 ∨ j = 6 ∨ j = 8 ∨ j = 10 ∨ j = 11)) ∨ (61 ≤ c ∧ c < 71)) σ σ2 := tw_F_tr (tw_F_rf) hGσ2 (fun c j q => (show (56 ≤ c ∧ c < 58) ∨ (c = 60 ∧ (j = 5 ∨ j = 6 ∨ j = 8 ∨ j = 10 ∨ j = 11)) ∨ (61 ≤ c ∧ c < 71) from by replace q : (56 ≤ c ∧ c < 58) ∨ (c = 60 ∧ (j = 5 ∨ j = 6 ∨ j = 8 ∨ j = 10 ∨ j = 11)) ∨ (61 ≤ c ∧ c < 71) := q; exact q))
  refine j_st (st' := []) rfl ?_
  have pA := q3_0
  refine j_aload_n (pc := 7) dX11_plan_7 rfl rfl ?_
  refine j_getR (pc := 8) (r := 60) fl_X11_67 dX11_plan_8 (a_0 hX) rfl ?_
  refine j_getI (pc := 11) fl_X11_284 dX11_plan_11 (a_60 hX) rfl ?_
  have f5 : (0 : Int) ≤ σ2 60 10 ∧ σ2 60 10 ≤ 1 := hIσ2 60 10
  refine j_ifR_eq (pc := 14) (tgt := 30) ⟨by omega, by omega⟩ dX11_plan_14 rfl (fun h6 => ?_) (fun h6 => ?_)
  · refine j_iconst (pc := 30) dX11_plan_30 ?_
    refine j_istore_n (pc := 31) (i := 2) (ls' := [(0, vR 0), (1, vI w), (2, vI 0)]) [1, 2, 0] dX11_plan_31 rfl (Nat.le_of_ble_eq_true rfl) rfl rfl ?_
    refine j_iload_n (pc := 32) dX11_plan_32 rfl rfl ?_
    refine j_iconst (pc := 33) dX11_plan_33 ?_
    refine j_iload_n (pc := 34) dX11_plan_34 rfl rfl ?_
    refine j_callS (pc := 35) (As := [vI w, vI 2, vI 0]) (st := []) (c_X11_isOf w ⟨by omega, by omega⟩ 2 (by (first | decide | exact ⟨by omega, by omega⟩)) 0 (by (first | decide | exact ⟨by omega, by omega⟩)) σ2 hIσ2) ms_X11_290 rfl dX11_plan_35 ⟨Nat.le_of_ble_eq_true rfl, Nat.le_of_ble_eq_true rfl⟩ ⟨Nat.le_refl _, Nat.le_refl _⟩ rfl (Nat.le_of_ble_eq_true rfl) rfl (fun z7 σ8 hz7 => ?_)
    obtain ⟨r10, rfl, hr10, rfl, q9_0⟩ := hz7
    replace q9_0 : (r10 = 1 ∧ ((0 ≤ w ∧ w < (2 : Int)) ∨ (10 ≤ w ∧ w - 10 < (0 : Int)))) ∨ (r10 = 0 ∧ ¬ ((0 ≤ w ∧ w < (2 : Int)) ∨ (10 ≤ w ∧ w - 10 < (0 : Int)))) := q9_0
    refine j_st (st' := [vI r10]) rfl ?_
    refine j_ifR_ne (pc := 38) (tgt := 43) ⟨by omega, by omega⟩ dX11_plan_38 rfl (fun h11 => ?_) (fun h11 => ?_)
    · refine j_aload_n (pc := 43) dX11_plan_43 rfl rfl ?_
      refine j_getR (pc := 44) (r := 60) fl_X11_67 dX11_plan_44 (a_0 hX) rfl ?_
      refine j_getI (pc := 47) fl_X11_284 dX11_plan_47 (a_60 hX) rfl ?_
      refine j_ifR_ne (pc := 50) (tgt := 56) ⟨by omega, by omega⟩ dX11_plan_50 rfl (fun h12 => by exfalso; omega) (fun h12 => ?_)
      refine j_bipush (pc := 53) dX11_plan_53 rfl ?_
      exact j_iret (pc := 55) ⟨rfl, rfl⟩ dX11_plan_55 rfl ⟨_, rfl, ⟨by omega, by omega⟩, hIσ2, hFσ2, (fun rk a b c d => (pA rk a b c).1)⟩
    · refine j_iconst (pc := 41) dX11_plan_41 ?_
      exact j_iret (pc := 42) ⟨rfl, rfl⟩ dX11_plan_42 rfl ⟨_, rfl, ⟨by omega, by omega⟩, hIσ2, hFσ2, (fun rk a b c d => (pA rk a b c).1)⟩
  · refine j_aload_n (pc := 17) dX11_plan_17 rfl rfl ?_
    refine j_getR (pc := 18) (r := 60) fl_X11_67 dX11_plan_18 (a_0 hX) rfl ?_
    refine j_getR (pc := 21) (r := 67) fl_X11_287 dX11_plan_21 (a_60 hX) rfl ?_
    refine j_getI (pc := 24) fl_X11_187 dX11_plan_24 (a_67 hX) rfl ?_
    have f13 : (0 : Int) ≤ σ2 67 0 ∧ σ2 67 0 ≤ 10 := hIσ2 67 0
    refine j_goto (pc := 27) (tgt := 31) dX11_plan_27 rfl ?_
    refine j_istore_n (pc := 31) (i := 2) (ls' := [(0, vR 0), (1, vI w), (2, vI (σ2 67 0))]) [1, 2, 0] dX11_plan_31 rfl (Nat.le_of_ble_eq_true rfl) rfl rfl ?_
    refine j_iload_n (pc := 32) dX11_plan_32 rfl rfl ?_
    refine j_iconst (pc := 33) dX11_plan_33 ?_
    refine j_iload_n (pc := 34) dX11_plan_34 rfl rfl ?_
    refine j_callS (pc := 35) (As := [vI w, vI 2, vI (σ2 67 0)]) (st := []) (c_X11_isOf w ⟨by omega, by omega⟩ 2 (by (first | decide | exact ⟨by omega, by omega⟩)) (σ2 67 0) ⟨by omega, by omega⟩ σ2 hIσ2) ms_X11_290 rfl dX11_plan_35 ⟨Nat.le_of_ble_eq_true rfl, Nat.le_of_ble_eq_true rfl⟩ ⟨Nat.le_refl _, Nat.le_refl _⟩ rfl (Nat.le_of_ble_eq_true rfl) rfl (fun z14 σ15 hz14 => ?_)
    obtain ⟨r17, rfl, hr17, rfl, q16_0⟩ := hz14
    replace q16_0 : (r17 = 1 ∧ ((0 ≤ w ∧ w < (2 : Int)) ∨ (10 ≤ w ∧ w - 10 < (σ2 67 0)))) ∨ (r17 = 0 ∧ ¬ ((0 ≤ w ∧ w < (2 : Int)) ∨ (10 ≤ w ∧ w - 10 < (σ2 67 0)))) := q16_0
    refine j_st (st' := [vI r17]) rfl ?_
    refine j_ifR_ne (pc := 38) (tgt := 43) ⟨by omega, by omega⟩ dX11_plan_38 rfl (fun h18 => ?_) (fun h18 => ?_)
    · refine j_aload_n (pc := 43) dX11_plan_43 rfl rfl ?_
      refine j_getR (pc := 44) (r := 60) fl_X11_67 dX11_plan_44 (a_0 hX) rfl ?_
      refine j_getI (pc := 47) fl_X11_284 dX11_plan_47 (a_60 hX) rfl ?_
      refine j_ifR_ne (pc := 50) (tgt := 56) ⟨by omega, by omega⟩ dX11_plan_50 rfl (fun h19 => ?_) (fun h19 => by exfalso; omega)
      refine j_iload_n (pc := 56) dX11_plan_56 rfl rfl ?_
      refine j_ifR_ne (pc := 57) (tgt := 68) ⟨by omega, by omega⟩ dX11_plan_57 rfl (fun h20 => ?_) (fun h20 => ?_)
      · refine j_iload_n (pc := 68) dX11_plan_68 rfl rfl ?_
        refine j_iconst (pc := 69) dX11_plan_69 ?_
        refine j_icmpR_ne (pc := 70) (tgt := 77) ⟨by omega, by omega⟩ ⟨by omega, by omega⟩ dX11_plan_70 rfl (fun h21 => ?_) (fun h21 => ?_)
        · refine j_aload_n (pc := 77) dX11_plan_77 rfl rfl ?_
          refine j_getR (pc := 78) (r := 60) fl_X11_67 dX11_plan_78 (a_0 hX) rfl ?_
          refine j_getR (pc := 81) (r := 67) fl_X11_287 dX11_plan_81 (a_60 hX) rfl ?_
          refine j_getR (pc := 84) (r := 68) fl_X11_190 dX11_plan_84 (a_67 hX) rfl ?_
          refine j_iload_n (pc := 87) dX11_plan_87 rfl rfl ?_
          refine j_bipush (pc := 88) dX11_plan_88 rfl ?_
          refine j_isub (pc := 90) dX11_plan_90 ?_
          refine j_iald (pc := 91) dX11_plan_91 (a_68 hX) (by omega) (by omega) (by decide) ?_
          have f22 : (0 : Int) ≤ σ2 68 ((w - 10).toNat) ∧ σ2 68 ((w - 10).toNat) ≤ 40 := hIσ2 68 ((w - 10).toNat)
          exact j_iret (pc := 92) ⟨rfl, rfl⟩ dX11_plan_92 rfl ⟨_, rfl, ⟨by omega, by omega⟩, hIσ2, hFσ2, (fun rk a b c d => (pA rk a b c).1)⟩
        · refine j_iload_n (pc := 73) dX11_plan_73 rfl rfl ?_
          refine j_goto (pc := 74) (tgt := 92) dX11_plan_74 rfl ?_
          exact j_iret (pc := 92) ⟨rfl, rfl⟩ dX11_plan_92 rfl ⟨_, rfl, ⟨by omega, by omega⟩, hIσ2, hFσ2, (fun rk a b c d => (pA rk a b c).1)⟩
      · refine j_aload_n (pc := 60) dX11_plan_60 rfl rfl ?_
        refine j_getR (pc := 61) (r := 60) fl_X11_67 dX11_plan_61 (a_0 hX) rfl ?_
        refine j_getI (pc := 64) fl_X11_294 dX11_plan_64 (a_60 hX) rfl ?_
        have f23 : (-2147483648 : Int) ≤ σ2 60 11 ∧ σ2 60 11 ≤ 2147483647 := hIσ2 60 11
        exact j_iret (pc := 67) ⟨rfl, rfl⟩ dX11_plan_67 rfl ⟨_, rfl, ⟨by omega, by omega⟩, hIσ2, hFσ2, (fun rk a b c d => (pA rk a b c).1)⟩
    · refine j_iconst (pc := 41) dX11_plan_41 ?_
      exact j_iret (pc := 42) ⟨rfl, rfl⟩ dX11_plan_42 rfl ⟨_, rfl, ⟨by omega, by omega⟩, hIσ2, hFσ2, (fun rk a b c d => (pA rk a b c).1)⟩
