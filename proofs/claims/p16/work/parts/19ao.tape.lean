/-! 19ao.tape -/
theorem dX9_number_0 : decode cX9_number 0 = .ok (.aload_n 0, 1) := by decide +kernel
theorem dX9_number_1 : decode cX9_number 1 = .ok (.getfield 33, 3) := by decide +kernel
theorem dX9_number_4 : decode cX9_number 4 = .ok (.ifCond .eq 5, 3) := by decide +kernel
theorem dX9_number_7 : decode cX9_number 7 = .ok (.iload_n 1, 1) := by decide +kernel
theorem dX9_number_8 : decode cX9_number 8 = .ok (.ireturn, 1) := by decide +kernel
theorem dX9_number_9 : decode cX9_number 9 = .ok (.aload_n 0, 1) := by decide +kernel
theorem dX9_number_10 : decode cX9_number 10 = .ok (.getfield 48, 3) := by decide +kernel
theorem dX9_number_13 : decode cX9_number 13 = .ok (.iconst 2, 1) := by decide +kernel
theorem dX9_number_14 : decode cX9_number 14 = .ok (.if_icmp .eq 15, 3) := by decide +kernel
theorem dX9_number_17 : decode cX9_number 17 = .ok (.aload_n 0, 1) := by decide +kernel
theorem dX9_number_18 : decode cX9_number 18 = .ok (.iconst 2, 1) := by decide +kernel
theorem dX9_number_19 : decode cX9_number 19 = .ok (.aload_n 0, 1) := by decide +kernel
theorem dX9_number_20 : decode cX9_number 20 = .ok (.getfield 76, 3) := by decide +kernel
theorem dX9_number_23 : decode cX9_number 23 = .ok (.invokevirtual 61, 3) := by decide +kernel
theorem dX9_number_26 : decode cX9_number 26 = .ok (.goto 28, 3) := by decide +kernel
theorem dX9_number_29 : decode cX9_number 29 = .ok (.aload_n 0, 1) := by decide +kernel
theorem dX9_number_30 : decode cX9_number 30 = .ok (.getfield 95, 3) := by decide +kernel
theorem dX9_number_33 : decode cX9_number 33 = .ok (.iload_n 1, 1) := by decide +kernel
theorem dX9_number_34 : decode cX9_number 34 = .ok (.if_icmp .lt 11, 3) := by decide +kernel
theorem dX9_number_37 : decode cX9_number 37 = .ok (.aload_n 0, 1) := by decide +kernel
theorem dX9_number_38 : decode cX9_number 38 = .ok (.getfield 95, 3) := by decide +kernel
theorem dX9_number_41 : decode cX9_number 41 = .ok (.iload_n 2, 1) := by decide +kernel
theorem dX9_number_42 : decode cX9_number 42 = .ok (.if_icmp .le 12, 3) := by decide +kernel
theorem dX9_number_45 : decode cX9_number 45 = .ok (.aload_n 0, 1) := by decide +kernel
theorem dX9_number_46 : decode cX9_number 46 = .ok (.iconst 3, 1) := by decide +kernel
theorem dX9_number_47 : decode cX9_number 47 = .ok (.aload_n 0, 1) := by decide +kernel
theorem dX9_number_48 : decode cX9_number 48 = .ok (.getfield 76, 3) := by decide +kernel
theorem dX9_number_51 : decode cX9_number 51 = .ok (.invokevirtual 61, 3) := by decide +kernel
theorem dX9_number_54 : decode cX9_number 54 = .ok (.aload_n 0, 1) := by decide +kernel
theorem dX9_number_55 : decode cX9_number 55 = .ok (.getfield 33, 3) := by decide +kernel
theorem dX9_number_58 : decode cX9_number 58 = .ok (.ifCond .ne 10, 3) := by decide +kernel
theorem dX9_number_61 : decode cX9_number 61 = .ok (.aload_n 0, 1) := by decide +kernel
theorem dX9_number_62 : decode cX9_number 62 = .ok (.getfield 95, 3) := by decide +kernel
theorem dX9_number_65 : decode cX9_number 65 = .ok (.goto 4, 3) := by decide +kernel
theorem dX9_number_68 : decode cX9_number 68 = .ok (.iload_n 1, 1) := by decide +kernel
theorem dX9_number_69 : decode cX9_number 69 = .ok (.ireturn, 1) := by decide +kernel
abbrev q_X9_number (a : Int) (b : Int) (σ : tw_M) : Option tw_V → tw_M → Prop := fun z τ => ∃ r : Int, z = some (vI r) ∧ (-2147483648 ≤ r ∧ r ≤ 2147483647) ∧ tw_I τ ∧ tw_F (fun c j => (c = 10 ∧ (j = 11 ∨ j = 12))) σ τ ∧ (a ≤ r ∧ r ≤ b) ∧ (aX τ = numS a b (aX σ)) ∧ (¬ τ 10 11 = 0 ∨ r = σ 10 8) ∧ (¬ τ 10 11 = 0 ∨ σ 10 11 = 0) ∧ (True ∨ σ 10 6 = τ 10 12) ∧ (¬ τ 10 11 = 0 ∨ σ 10 6 = 2)
set_option maxHeartbeats 4000000 in
set_option maxRecDepth 100000 in
theorem c_X9_number {G : tw_G} (hX : tw_isX G) (a : Int) (ha : -2147483648 ≤ a ∧ a ≤ 2147483647) (b : Int) (hb : -2147483648 ≤ b ∧ b ≤ 2147483647) (σ : tw_M) (hI : tw_I σ) (hq0 : a ≤ b) : tw_C G yX9_number cX9_number 3 (some .int) 1 [vR 10, vI a, vI b] σ (q_X9_number a b σ) := by
  refine tw_met [(0, vR 10), (1, vI a), (2, vI b)] (by decide +kernel) rfl (Nat.le_of_ble_eq_true rfl) ?_
  refine j_aload_n (pc := 0) dX9_number_0 rfl rfl ?_
  refine j_getI (pc := 1) fl_X9_33 dX9_number_1 (a_10 hX) rfl ?_
  have f1 : (0 : Int) ≤ σ 10 11 ∧ σ 10 11 ≤ 5 := hI 10 11
  refine j_ifR_eq (pc := 4) (tgt := 9) ⟨by omega, by omega⟩ dX9_number_4 rfl (fun h2 => ?_) (fun h2 => ?_)
  · refine j_aload_n (pc := 9) dX9_number_9 rfl rfl ?_
    refine j_getI (pc := 10) fl_X9_48 dX9_number_10 (a_10 hX) rfl ?_
    have f3 : (0 : Int) ≤ σ 10 6 ∧ σ 10 6 ≤ 3 := hI 10 6
    refine j_iconst (pc := 13) dX9_number_13 ?_
    refine j_icmpR_eq (pc := 14) (tgt := 29) ⟨by omega, by omega⟩ ⟨by omega, by omega⟩ dX9_number_14 rfl (fun h4 => ?_) (fun h4 => ?_)
    · refine j_aload_n (pc := 29) dX9_number_29 rfl rfl ?_
      refine j_getI (pc := 30) fl_X9_95 dX9_number_30 (a_10 hX) rfl ?_
      have f5 : (0 : Int) ≤ σ 10 8 ∧ σ 10 8 ≤ 999 := hI 10 8
      refine j_iload_n (pc := 33) dX9_number_33 rfl rfl ?_
      refine j_icmpR_lt (pc := 34) (tgt := 45) ⟨by omega, by omega⟩ ⟨by omega, by omega⟩ dX9_number_34 rfl (fun h6 => ?_) (fun h6 => ?_)
      · refine j_aload_n (pc := 45) dX9_number_45 rfl rfl ?_
        refine j_iconst (pc := 46) dX9_number_46 ?_
        refine j_aload_n (pc := 47) dX9_number_47 rfl rfl ?_
        refine j_getI (pc := 48) fl_X9_76 dX9_number_48 (a_10 hX) rfl ?_
        have f7 : (0 : Int) ≤ σ 10 7 ∧ σ 10 7 ≤ 400 := hI 10 7
        refine j_callV (pc := 51) (As := [vI 3, vI (σ 10 7)]) (st := []) (c_X9_fail hX 3 (by (first | decide | exact ⟨by omega, by omega⟩)) (σ 10 7) ⟨by omega, by omega⟩ σ hI) mv_X9_61 rfl rfl rfl (a_10 hX) dX9_number_51 ⟨Nat.le_of_ble_eq_true rfl, Nat.le_of_ble_eq_true rfl⟩ ⟨Nat.le_refl _, Nat.le_refl _⟩ rfl (Nat.le_of_ble_eq_true rfl) rfl (fun z8 σ9 hz8 => ?_)
        obtain ⟨rfl, hIσ9, hGσ9, q10_0⟩ := hz8
        replace q10_0 : (σ 10 11 = 0 ∧ σ9 10 11 = (3 : Int) ∧ σ9 10 12 = (σ 10 7)) ∨ (¬ σ 10 11 = 0 ∧ σ9 10 11 = σ 10 11 ∧ σ9 10 12 = σ 10 12) := q10_0
        have hFσ9 : tw_F (fun c j => (c = 10 ∧ (j = 11 ∨ j = 12))) σ σ9 := tw_F_tr (tw_F_rf) hGσ9 (fun c j q => (show (c = 10 ∧ (j = 11 ∨ j = 12)) from by replace q : (c = 10 ∧ (j = 11 ∨ j = 12)) := q; exact q))
        refine j_st (st' := []) rfl ?_
        refine j_aload_n (pc := 54) dX9_number_54 rfl rfl ?_
        refine j_getI (pc := 55) fl_X9_33 dX9_number_55 (a_10 hX) rfl ?_
        have f12 : (0 : Int) ≤ σ9 10 11 ∧ σ9 10 11 ≤ 5 := hIσ9 10 11
        refine j_ifR_ne (pc := 58) (tgt := 68) ⟨by omega, by omega⟩ dX9_number_58 rfl (fun h13 => ?_) (fun h13 => ?_)
        · refine j_iload_n (pc := 68) dX9_number_68 rfl rfl ?_
          exact j_iret (pc := 69) ⟨rfl, rfl⟩ dX9_number_69 rfl ⟨_, rfl, ⟨by omega, by omega⟩, hIσ9, hFσ9, by omega, (by first | exact aX_num_no (by omega) | exact aX_num_ok (by omega) (by omega) ⟨by omega, by omega⟩ | exact aX_num_sort (by omega) (by omega) ⟨by omega, by omega⟩ | exact aX_num_out (by omega) (by omega) (by omega) ⟨by omega, by omega⟩), by omega, by omega, Or.inl trivial, by omega⟩
        · refine j_aload_n (pc := 61) dX9_number_61 rfl rfl ?_
          refine j_getI (pc := 62) fl_X9_95 dX9_number_62 (a_10 hX) rfl ?_
          refine j_topV (show σ9 10 8 = σ 10 8 from (hGσ9 10 8 (show ¬ ((10 = 10 ∧ (8 = 11 ∨ 8 = 12))) from by decide))) ?_
          refine j_goto (pc := 65) (tgt := 69) dX9_number_65 rfl ?_
          exact j_iret (pc := 69) ⟨rfl, rfl⟩ dX9_number_69 rfl ⟨_, rfl, ⟨by omega, by omega⟩, hIσ9, hFσ9, by omega, (by first | exact aX_num_no (by omega) | exact aX_num_ok (by omega) (by omega) ⟨by omega, by omega⟩ | exact aX_num_sort (by omega) (by omega) ⟨by omega, by omega⟩ | exact aX_num_out (by omega) (by omega) (by omega) ⟨by omega, by omega⟩), by omega, by omega, Or.inl trivial, by omega⟩
      · refine j_aload_n (pc := 37) dX9_number_37 rfl rfl ?_
        refine j_getI (pc := 38) fl_X9_95 dX9_number_38 (a_10 hX) rfl ?_
        refine j_iload_n (pc := 41) dX9_number_41 rfl rfl ?_
        refine j_icmpR_le (pc := 42) (tgt := 54) ⟨by omega, by omega⟩ ⟨by omega, by omega⟩ dX9_number_42 rfl (fun h14 => ?_) (fun h14 => ?_)
        · refine j_aload_n (pc := 54) dX9_number_54 rfl rfl ?_
          refine j_getI (pc := 55) fl_X9_33 dX9_number_55 (a_10 hX) rfl ?_
          refine j_ifR_ne (pc := 58) (tgt := 68) ⟨by omega, by omega⟩ dX9_number_58 rfl (fun h15 => by exfalso; omega) (fun h15 => ?_)
          refine j_aload_n (pc := 61) dX9_number_61 rfl rfl ?_
          refine j_getI (pc := 62) fl_X9_95 dX9_number_62 (a_10 hX) rfl ?_
          refine j_goto (pc := 65) (tgt := 69) dX9_number_65 rfl ?_
          exact j_iret (pc := 69) ⟨rfl, rfl⟩ dX9_number_69 rfl ⟨_, rfl, ⟨by omega, by omega⟩, hI, (tw_F_rf), by omega, (by first | exact aX_num_no (by omega) | exact aX_num_ok (by omega) (by omega) ⟨by omega, by omega⟩ | exact aX_num_sort (by omega) (by omega) ⟨by omega, by omega⟩ | exact aX_num_out (by omega) (by omega) (by omega) ⟨by omega, by omega⟩), by omega, by omega, Or.inl trivial, by omega⟩
        · refine j_aload_n (pc := 45) dX9_number_45 rfl rfl ?_
          refine j_iconst (pc := 46) dX9_number_46 ?_
          refine j_aload_n (pc := 47) dX9_number_47 rfl rfl ?_
          refine j_getI (pc := 48) fl_X9_76 dX9_number_48 (a_10 hX) rfl ?_
          have f16 : (0 : Int) ≤ σ 10 7 ∧ σ 10 7 ≤ 400 := hI 10 7
          refine j_callV (pc := 51) (As := [vI 3, vI (σ 10 7)]) (st := []) (c_X9_fail hX 3 (by (first | decide | exact ⟨by omega, by omega⟩)) (σ 10 7) ⟨by omega, by omega⟩ σ hI) mv_X9_61 rfl rfl rfl (a_10 hX) dX9_number_51 ⟨Nat.le_of_ble_eq_true rfl, Nat.le_of_ble_eq_true rfl⟩ ⟨Nat.le_refl _, Nat.le_refl _⟩ rfl (Nat.le_of_ble_eq_true rfl) rfl (fun z17 σ18 hz17 => ?_)
          obtain ⟨rfl, hIσ18, hGσ18, q19_0⟩ := hz17
          replace q19_0 : (σ 10 11 = 0 ∧ σ18 10 11 = (3 : Int) ∧ σ18 10 12 = (σ 10 7)) ∨ (¬ σ 10 11 = 0 ∧ σ18 10 11 = σ 10 11 ∧ σ18 10 12 = σ 10 12) := q19_0
          have hFσ18 : tw_F (fun c j => (c = 10 ∧ (j = 11 ∨ j = 12))) σ σ18 := tw_F_tr (tw_F_rf) hGσ18 (fun c j q => (show (c = 10 ∧ (j = 11 ∨ j = 12)) from by replace q : (c = 10 ∧ (j = 11 ∨ j = 12)) := q; exact q))
          refine j_st (st' := []) rfl ?_
          refine j_aload_n (pc := 54) dX9_number_54 rfl rfl ?_
          refine j_getI (pc := 55) fl_X9_33 dX9_number_55 (a_10 hX) rfl ?_
          have f21 : (0 : Int) ≤ σ18 10 11 ∧ σ18 10 11 ≤ 5 := hIσ18 10 11
          refine j_ifR_ne (pc := 58) (tgt := 68) ⟨by omega, by omega⟩ dX9_number_58 rfl (fun h22 => ?_) (fun h22 => ?_)
          · refine j_iload_n (pc := 68) dX9_number_68 rfl rfl ?_
            exact j_iret (pc := 69) ⟨rfl, rfl⟩ dX9_number_69 rfl ⟨_, rfl, ⟨by omega, by omega⟩, hIσ18, hFσ18, by omega, (by first | exact aX_num_no (by omega) | exact aX_num_ok (by omega) (by omega) ⟨by omega, by omega⟩ | exact aX_num_sort (by omega) (by omega) ⟨by omega, by omega⟩ | exact aX_num_out (by omega) (by omega) (by omega) ⟨by omega, by omega⟩), by omega, by omega, Or.inl trivial, by omega⟩
          · refine j_aload_n (pc := 61) dX9_number_61 rfl rfl ?_
            refine j_getI (pc := 62) fl_X9_95 dX9_number_62 (a_10 hX) rfl ?_
            refine j_topV (show σ18 10 8 = σ 10 8 from (hGσ18 10 8 (show ¬ ((10 = 10 ∧ (8 = 11 ∨ 8 = 12))) from by decide))) ?_
            refine j_goto (pc := 65) (tgt := 69) dX9_number_65 rfl ?_
            exact j_iret (pc := 69) ⟨rfl, rfl⟩ dX9_number_69 rfl ⟨_, rfl, ⟨by omega, by omega⟩, hIσ18, hFσ18, by omega, (by first | exact aX_num_no (by omega) | exact aX_num_ok (by omega) (by omega) ⟨by omega, by omega⟩ | exact aX_num_sort (by omega) (by omega) ⟨by omega, by omega⟩ | exact aX_num_out (by omega) (by omega) (by omega) ⟨by omega, by omega⟩), by omega, by omega, Or.inl trivial, by omega⟩
    · refine j_aload_n (pc := 17) dX9_number_17 rfl rfl ?_
      refine j_iconst (pc := 18) dX9_number_18 ?_
      refine j_aload_n (pc := 19) dX9_number_19 rfl rfl ?_
      refine j_getI (pc := 20) fl_X9_76 dX9_number_20 (a_10 hX) rfl ?_
      have f23 : (0 : Int) ≤ σ 10 7 ∧ σ 10 7 ≤ 400 := hI 10 7
      refine j_callV (pc := 23) (As := [vI 2, vI (σ 10 7)]) (st := []) (c_X9_fail hX 2 (by (first | decide | exact ⟨by omega, by omega⟩)) (σ 10 7) ⟨by omega, by omega⟩ σ hI) mv_X9_61 rfl rfl rfl (a_10 hX) dX9_number_23 ⟨Nat.le_of_ble_eq_true rfl, Nat.le_of_ble_eq_true rfl⟩ ⟨Nat.le_refl _, Nat.le_refl _⟩ rfl (Nat.le_of_ble_eq_true rfl) rfl (fun z24 σ25 hz24 => ?_)
      obtain ⟨rfl, hIσ25, hGσ25, q26_0⟩ := hz24
      replace q26_0 : (σ 10 11 = 0 ∧ σ25 10 11 = (2 : Int) ∧ σ25 10 12 = (σ 10 7)) ∨ (¬ σ 10 11 = 0 ∧ σ25 10 11 = σ 10 11 ∧ σ25 10 12 = σ 10 12) := q26_0
      have hFσ25 : tw_F (fun c j => (c = 10 ∧ (j = 11 ∨ j = 12))) σ σ25 := tw_F_tr (tw_F_rf) hGσ25 (fun c j q => (show (c = 10 ∧ (j = 11 ∨ j = 12)) from by replace q : (c = 10 ∧ (j = 11 ∨ j = 12)) := q; exact q))
      refine j_st (st' := []) rfl ?_
      refine j_goto (pc := 26) (tgt := 54) dX9_number_26 rfl ?_
      refine j_aload_n (pc := 54) dX9_number_54 rfl rfl ?_
      refine j_getI (pc := 55) fl_X9_33 dX9_number_55 (a_10 hX) rfl ?_
      have f28 : (0 : Int) ≤ σ25 10 11 ∧ σ25 10 11 ≤ 5 := hIσ25 10 11
      refine j_ifR_ne (pc := 58) (tgt := 68) ⟨by omega, by omega⟩ dX9_number_58 rfl (fun h29 => ?_) (fun h29 => ?_)
      · refine j_iload_n (pc := 68) dX9_number_68 rfl rfl ?_
        exact j_iret (pc := 69) ⟨rfl, rfl⟩ dX9_number_69 rfl ⟨_, rfl, ⟨by omega, by omega⟩, hIσ25, hFσ25, by omega, (by first | exact aX_num_no (by omega) | exact aX_num_ok (by omega) (by omega) ⟨by omega, by omega⟩ | exact aX_num_sort (by omega) (by omega) ⟨by omega, by omega⟩ | exact aX_num_out (by omega) (by omega) (by omega) ⟨by omega, by omega⟩), by omega, by omega, Or.inl trivial, by omega⟩
      · refine j_aload_n (pc := 61) dX9_number_61 rfl rfl ?_
        refine j_getI (pc := 62) fl_X9_95 dX9_number_62 (a_10 hX) rfl ?_
        refine j_topV (show σ25 10 8 = σ 10 8 from (hGσ25 10 8 (show ¬ ((10 = 10 ∧ (8 = 11 ∨ 8 = 12))) from by decide))) ?_
        have f30 : (0 : Int) ≤ σ 10 8 ∧ σ 10 8 ≤ 999 := hI 10 8
        refine j_goto (pc := 65) (tgt := 69) dX9_number_65 rfl ?_
        exact j_iret (pc := 69) ⟨rfl, rfl⟩ dX9_number_69 rfl ⟨_, rfl, ⟨by omega, by omega⟩, hIσ25, hFσ25, by omega, (by first | exact aX_num_no (by omega) | exact aX_num_ok (by omega) (by omega) ⟨by omega, by omega⟩ | exact aX_num_sort (by omega) (by omega) ⟨by omega, by omega⟩ | exact aX_num_out (by omega) (by omega) (by omega) ⟨by omega, by omega⟩), by omega, by omega, Or.inl trivial, by omega⟩
  · refine j_iload_n (pc := 7) dX9_number_7 rfl rfl ?_
    exact j_iret (pc := 8) ⟨rfl, rfl⟩ dX9_number_8 rfl ⟨_, rfl, ⟨by omega, by omega⟩, hI, (tw_F_rf), by omega, (by first | exact aX_num_no (by omega) | exact aX_num_ok (by omega) (by omega) ⟨by omega, by omega⟩ | exact aX_num_sort (by omega) (by omega) ⟨by omega, by omega⟩ | exact aX_num_out (by omega) (by omega) (by omega) ⟨by omega, by omega⟩), by omega, by omega, Or.inl trivial, by omega⟩
