/-! 34ac.model -/
theorem dX12_is_0 : decode cX12_is 0 = .ok (.aload_n 0, 1) := by decide +kernel
theorem dX12_is_1 : decode cX12_is 1 = .ok (.getfield 100, 3) := by decide +kernel
theorem dX12_is_4 : decode cX12_is 4 = .ok (.aload_n 0, 1) := by decide +kernel
theorem dX12_is_5 : decode cX12_is 5 = .ok (.getfield 94, 3) := by decide +kernel
theorem dX12_is_8 : decode cX12_is 8 = .ok (.isub, 1) := by decide +kernel
theorem dX12_is_9 : decode cX12_is 9 = .ok (.iload_n 1, 1) := by decide +kernel
theorem dX12_is_10 : decode cX12_is 10 = .ok (.if_icmp .ne 73, 3) := by decide +kernel
theorem dX12_is_13 : decode cX12_is 13 = .ok (.aload_n 0, 1) := by decide +kernel
theorem dX12_is_14 : decode cX12_is 14 = .ok (.aload_n 0, 1) := by decide +kernel
theorem dX12_is_15 : decode cX12_is 15 = .ok (.getfield 94, 3) := by decide +kernel
theorem dX12_is_18 : decode cX12_is 18 = .ok (.invokevirtual 103, 3) := by decide +kernel
theorem dX12_is_21 : decode cX12_is 21 = .ok (.iload_n 2, 1) := by decide +kernel
theorem dX12_is_22 : decode cX12_is 22 = .ok (.if_icmp .ne 61, 3) := by decide +kernel
theorem dX12_is_25 : decode cX12_is 25 = .ok (.aload_n 0, 1) := by decide +kernel
theorem dX12_is_26 : decode cX12_is 26 = .ok (.aload_n 0, 1) := by decide +kernel
theorem dX12_is_27 : decode cX12_is 27 = .ok (.getfield 94, 3) := by decide +kernel
theorem dX12_is_30 : decode cX12_is 30 = .ok (.iconst 1, 1) := by decide +kernel
theorem dX12_is_31 : decode cX12_is 31 = .ok (.iadd, 1) := by decide +kernel
theorem dX12_is_32 : decode cX12_is 32 = .ok (.invokevirtual 103, 3) := by decide +kernel
theorem dX12_is_35 : decode cX12_is 35 = .ok (.iload_n 3, 1) := by decide +kernel
theorem dX12_is_36 : decode cX12_is 36 = .ok (.if_icmp .ne 47, 3) := by decide +kernel
theorem dX12_is_39 : decode cX12_is 39 = .ok (.iload_n 1, 1) := by decide +kernel
theorem dX12_is_40 : decode cX12_is 40 = .ok (.iconst 3, 1) := by decide +kernel
theorem dX12_is_41 : decode cX12_is 41 = .ok (.if_icmp .lt 18, 3) := by decide +kernel
theorem dX12_is_44 : decode cX12_is 44 = .ok (.aload_n 0, 1) := by decide +kernel
theorem dX12_is_45 : decode cX12_is 45 = .ok (.aload_n 0, 1) := by decide +kernel
theorem dX12_is_46 : decode cX12_is 46 = .ok (.getfield 94, 3) := by decide +kernel
theorem dX12_is_49 : decode cX12_is 49 = .ok (.iconst 2, 1) := by decide +kernel
theorem dX12_is_50 : decode cX12_is 50 = .ok (.iadd, 1) := by decide +kernel
theorem dX12_is_51 : decode cX12_is 51 = .ok (.invokevirtual 103, 3) := by decide +kernel
theorem dX12_is_54 : decode cX12_is 54 = .ok (.iload 4, 2) := by decide +kernel
theorem dX12_is_56 : decode cX12_is 56 = .ok (.if_icmp .ne 27, 3) := by decide +kernel
theorem dX12_is_59 : decode cX12_is 59 = .ok (.iload_n 1, 1) := by decide +kernel
theorem dX12_is_60 : decode cX12_is 60 = .ok (.iconst 4, 1) := by decide +kernel
theorem dX12_is_61 : decode cX12_is 61 = .ok (.if_icmp .lt 18, 3) := by decide +kernel
theorem dX12_is_64 : decode cX12_is 64 = .ok (.aload_n 0, 1) := by decide +kernel
theorem dX12_is_65 : decode cX12_is 65 = .ok (.aload_n 0, 1) := by decide +kernel
theorem dX12_is_66 : decode cX12_is 66 = .ok (.getfield 94, 3) := by decide +kernel
theorem dX12_is_69 : decode cX12_is 69 = .ok (.iconst 3, 1) := by decide +kernel
theorem dX12_is_70 : decode cX12_is 70 = .ok (.iadd, 1) := by decide +kernel
theorem dX12_is_71 : decode cX12_is 71 = .ok (.invokevirtual 103, 3) := by decide +kernel
theorem dX12_is_74 : decode cX12_is 74 = .ok (.iload 5, 2) := by decide +kernel
theorem dX12_is_76 : decode cX12_is 76 = .ok (.if_icmp .ne 7, 3) := by decide +kernel
theorem dX12_is_79 : decode cX12_is 79 = .ok (.iconst 1, 1) := by decide +kernel
theorem dX12_is_80 : decode cX12_is 80 = .ok (.goto 4, 3) := by decide +kernel
theorem dX12_is_83 : decode cX12_is 83 = .ok (.iconst 0, 1) := by decide +kernel
theorem dX12_is_84 : decode cX12_is 84 = .ok (.ireturn, 1) := by decide +kernel
abbrev q_X12_is (n : Int) (a : Int) (b : Int) (c : Int) (d : Int) (σ : tw_M) : Option tw_V → tw_M → Prop := fun z τ => ∃ r : Int, z = some (vI r) ∧ (0 ≤ r ∧ r ≤ 1) ∧ σ = τ ∧ ((r = 1 ∧ σ 88 13 - σ 88 14 = n ∧ fM σ (σ 88 14) = a ∧ fM σ (σ 88 14 + 1) = b ∧ (n < 3 ∨ fM σ (σ 88 14 + 2) = c) ∧ (n < 4 ∨ fM σ (σ 88 14 + 3) = d)) ∨ (r = 0 ∧ ¬ (σ 88 13 - σ 88 14 = n ∧ fM σ (σ 88 14) = a ∧ fM σ (σ 88 14 + 1) = b ∧ (n < 3 ∨ fM σ (σ 88 14 + 2) = c) ∧ (n < 4 ∨ fM σ (σ 88 14 + 3) = d))))
set_option maxHeartbeats 4000000 in
set_option maxRecDepth 100000 in
theorem c_X12_is {G : tw_G} (hM : tw_isM G) (n : Int) (hn : -2147483648 ≤ n ∧ n ≤ 2147483647) (a : Int) (ha : -2147483648 ≤ a ∧ a ≤ 2147483647) (b : Int) (hb : -2147483648 ≤ b ∧ b ≤ 2147483647) (c : Int) (hc : -2147483648 ≤ c ∧ c ≤ 2147483647) (d : Int) (hd : -2147483648 ≤ d ∧ d ≤ 2147483647) (σ : tw_M) (hI : tw_I σ) : tw_C G yX12_is cX12_is 6 (some .boolean) 1 [vR 88, vI n, vI a, vI b, vI c, vI d] σ (q_X12_is n a b c d σ) := by
  refine tw_met [(0, vR 88), (1, vI n), (2, vI a), (3, vI b), (4, vI c), (5, vI d)] (by decide +kernel) rfl (Nat.le_of_ble_eq_true rfl) ?_
  refine j_aload_n (pc := 0) dX12_is_0 rfl rfl ?_
  refine j_getI (pc := 1) fl_X12_100 dX12_is_1 (a_88 hM) rfl ?_
  have f1 : (0 : Int) ≤ σ 88 13 ∧ σ 88 13 ≤ 400 := hI 88 13
  refine j_aload_n (pc := 4) dX12_is_4 rfl rfl ?_
  refine j_getI (pc := 5) fl_X12_94 dX12_is_5 (a_88 hM) rfl ?_
  have f2 : (0 : Int) ≤ σ 88 14 ∧ σ 88 14 ≤ 400 := hI 88 14
  refine j_isub (pc := 8) dX12_is_8 ?_
  refine j_iload_n (pc := 9) dX12_is_9 rfl rfl ?_
  refine j_icmpR_ne (pc := 10) (tgt := 83) ⟨by omega, by omega⟩ ⟨by omega, by omega⟩ dX12_is_10 rfl (fun h3 => ?_) (fun h3 => ?_)
  · refine j_iconst (pc := 83) dX12_is_83 ?_
    exact j_zret (pc := 84) ⟨rfl, rfl⟩ dX12_is_84 rfl (nar_bool (by omega) (by omega)) ⟨_, rfl, ⟨by omega, by omega⟩, rfl, by omega⟩
  · refine j_aload_n (pc := 13) dX12_is_13 rfl rfl ?_
    refine j_aload_n (pc := 14) dX12_is_14 rfl rfl ?_
    refine j_getI (pc := 15) fl_X12_94 dX12_is_15 (a_88 hM) rfl ?_
    refine j_callV (pc := 18) (As := [vI (σ 88 14)]) (st := []) (c_X12_look hM (σ 88 14) ⟨by omega, by omega⟩ σ hI) mv_X12_103 rfl rfl rfl (a_88 hM) dX12_is_18 ⟨Nat.le_of_ble_eq_true rfl, Nat.le_of_ble_eq_true rfl⟩ ⟨Nat.le_refl _, Nat.le_refl _⟩ rfl (Nat.le_of_ble_eq_true rfl) rfl (fun z4 σ5 hz4 => ?_)
    obtain ⟨r7, rfl, hr7, rfl, q6_0, q6_1⟩ := hz4
    replace q6_0 : ((σ 88 14) < σ 88 12 ∧ r7 = σ 98 (σ 88 14).toNat) ∨ (¬ (σ 88 14) < σ 88 12 ∧ r7 = -1) := q6_0
    replace q6_1 : r7 = fM σ (σ 88 14) := q6_1
    refine j_st (st' := [vI r7]) rfl ?_
    refine j_iload_n (pc := 21) dX12_is_21 rfl rfl ?_
    refine j_icmpR_ne (pc := 22) (tgt := 83) ⟨by omega, by omega⟩ ⟨by omega, by omega⟩ dX12_is_22 rfl (fun h8 => ?_) (fun h8 => ?_)
    · refine j_iconst (pc := 83) dX12_is_83 ?_
      exact j_zret (pc := 84) ⟨rfl, rfl⟩ dX12_is_84 rfl (nar_bool (by omega) (by omega)) ⟨_, rfl, ⟨by omega, by omega⟩, rfl, by omega⟩
    · refine j_aload_n (pc := 25) dX12_is_25 rfl rfl ?_
      refine j_aload_n (pc := 26) dX12_is_26 rfl rfl ?_
      refine j_getI (pc := 27) fl_X12_94 dX12_is_27 (a_88 hM) rfl ?_
      refine j_iconst (pc := 30) dX12_is_30 ?_
      refine j_iadd (pc := 31) dX12_is_31 ?_
      refine j_callV (pc := 32) (As := [vI ((σ 88 14) + 1)]) (st := []) (c_X12_look hM ((σ 88 14) + 1) ⟨by omega, by omega⟩ σ hI) mv_X12_103 rfl rfl rfl (a_88 hM) dX12_is_32 ⟨Nat.le_of_ble_eq_true rfl, Nat.le_of_ble_eq_true rfl⟩ ⟨Nat.le_refl _, Nat.le_refl _⟩ rfl (Nat.le_of_ble_eq_true rfl) rfl (fun z9 σ10 hz9 => ?_)
      obtain ⟨r12, rfl, hr12, rfl, q11_0, q11_1⟩ := hz9
      replace q11_0 : (((σ 88 14) + 1) < σ 88 12 ∧ r12 = σ 98 ((σ 88 14) + 1).toNat) ∨ (¬ ((σ 88 14) + 1) < σ 88 12 ∧ r12 = -1) := q11_0
      replace q11_1 : r12 = fM σ ((σ 88 14) + 1) := q11_1
      refine j_st (st' := [vI r12]) rfl ?_
      refine j_iload_n (pc := 35) dX12_is_35 rfl rfl ?_
      refine j_icmpR_ne (pc := 36) (tgt := 83) ⟨by omega, by omega⟩ ⟨by omega, by omega⟩ dX12_is_36 rfl (fun h13 => ?_) (fun h13 => ?_)
      · refine j_iconst (pc := 83) dX12_is_83 ?_
        exact j_zret (pc := 84) ⟨rfl, rfl⟩ dX12_is_84 rfl (nar_bool (by omega) (by omega)) ⟨_, rfl, ⟨by omega, by omega⟩, rfl, by omega⟩
      · refine j_iload_n (pc := 39) dX12_is_39 rfl rfl ?_
        refine j_iconst (pc := 40) dX12_is_40 ?_
        refine j_icmpR_lt (pc := 41) (tgt := 59) ⟨by omega, by omega⟩ ⟨by omega, by omega⟩ dX12_is_41 rfl (fun h14 => ?_) (fun h14 => ?_)
        · refine j_iload_n (pc := 59) dX12_is_59 rfl rfl ?_
          refine j_iconst (pc := 60) dX12_is_60 ?_
          refine j_icmpR_lt (pc := 61) (tgt := 79) ⟨by omega, by omega⟩ ⟨by omega, by omega⟩ dX12_is_61 rfl (fun h15 => ?_) (fun h15 => by exfalso; omega)
          refine j_iconst (pc := 79) dX12_is_79 ?_
          refine j_goto (pc := 80) (tgt := 84) dX12_is_80 rfl ?_
          exact j_zret (pc := 84) ⟨rfl, rfl⟩ dX12_is_84 rfl (nar_bool (by omega) (by omega)) ⟨_, rfl, ⟨by omega, by omega⟩, rfl, by omega⟩
        · refine j_aload_n (pc := 44) dX12_is_44 rfl rfl ?_
          refine j_aload_n (pc := 45) dX12_is_45 rfl rfl ?_
          refine j_getI (pc := 46) fl_X12_94 dX12_is_46 (a_88 hM) rfl ?_
          refine j_iconst (pc := 49) dX12_is_49 ?_
          refine j_iadd (pc := 50) dX12_is_50 ?_
          refine j_callV (pc := 51) (As := [vI ((σ 88 14) + 2)]) (st := []) (c_X12_look hM ((σ 88 14) + 2) ⟨by omega, by omega⟩ σ hI) mv_X12_103 rfl rfl rfl (a_88 hM) dX12_is_51 ⟨Nat.le_of_ble_eq_true rfl, Nat.le_of_ble_eq_true rfl⟩ ⟨Nat.le_refl _, Nat.le_refl _⟩ rfl (Nat.le_of_ble_eq_true rfl) rfl (fun z16 σ17 hz16 => ?_)
          obtain ⟨r19, rfl, hr19, rfl, q18_0, q18_1⟩ := hz16
          replace q18_0 : (((σ 88 14) + 2) < σ 88 12 ∧ r19 = σ 98 ((σ 88 14) + 2).toNat) ∨ (¬ ((σ 88 14) + 2) < σ 88 12 ∧ r19 = -1) := q18_0
          replace q18_1 : r19 = fM σ ((σ 88 14) + 2) := q18_1
          refine j_st (st' := [vI r19]) rfl ?_
          refine j_iload (pc := 54) dX12_is_54 rfl ?_
          refine j_icmpR_ne (pc := 56) (tgt := 83) ⟨by omega, by omega⟩ ⟨by omega, by omega⟩ dX12_is_56 rfl (fun h20 => ?_) (fun h20 => ?_)
          · refine j_iconst (pc := 83) dX12_is_83 ?_
            exact j_zret (pc := 84) ⟨rfl, rfl⟩ dX12_is_84 rfl (nar_bool (by omega) (by omega)) ⟨_, rfl, ⟨by omega, by omega⟩, rfl, by omega⟩
          · refine j_iload_n (pc := 59) dX12_is_59 rfl rfl ?_
            refine j_iconst (pc := 60) dX12_is_60 ?_
            refine j_icmpR_lt (pc := 61) (tgt := 79) ⟨by omega, by omega⟩ ⟨by omega, by omega⟩ dX12_is_61 rfl (fun h21 => ?_) (fun h21 => ?_)
            · refine j_iconst (pc := 79) dX12_is_79 ?_
              refine j_goto (pc := 80) (tgt := 84) dX12_is_80 rfl ?_
              exact j_zret (pc := 84) ⟨rfl, rfl⟩ dX12_is_84 rfl (nar_bool (by omega) (by omega)) ⟨_, rfl, ⟨by omega, by omega⟩, rfl, by omega⟩
            · refine j_aload_n (pc := 64) dX12_is_64 rfl rfl ?_
              refine j_aload_n (pc := 65) dX12_is_65 rfl rfl ?_
              refine j_getI (pc := 66) fl_X12_94 dX12_is_66 (a_88 hM) rfl ?_
              refine j_iconst (pc := 69) dX12_is_69 ?_
              refine j_iadd (pc := 70) dX12_is_70 ?_
              refine j_callV (pc := 71) (As := [vI ((σ 88 14) + 3)]) (st := []) (c_X12_look hM ((σ 88 14) + 3) ⟨by omega, by omega⟩ σ hI) mv_X12_103 rfl rfl rfl (a_88 hM) dX12_is_71 ⟨Nat.le_of_ble_eq_true rfl, Nat.le_of_ble_eq_true rfl⟩ ⟨Nat.le_refl _, Nat.le_refl _⟩ rfl (Nat.le_of_ble_eq_true rfl) rfl (fun z22 σ23 hz22 => ?_)
              obtain ⟨r25, rfl, hr25, rfl, q24_0, q24_1⟩ := hz22
              replace q24_0 : (((σ 88 14) + 3) < σ 88 12 ∧ r25 = σ 98 ((σ 88 14) + 3).toNat) ∨ (¬ ((σ 88 14) + 3) < σ 88 12 ∧ r25 = -1) := q24_0
              replace q24_1 : r25 = fM σ ((σ 88 14) + 3) := q24_1
              refine j_st (st' := [vI r25]) rfl ?_
              refine j_iload (pc := 74) dX12_is_74 rfl ?_
              refine j_icmpR_ne (pc := 76) (tgt := 83) ⟨by omega, by omega⟩ ⟨by omega, by omega⟩ dX12_is_76 rfl (fun h26 => ?_) (fun h26 => ?_)
              · refine j_iconst (pc := 83) dX12_is_83 ?_
                exact j_zret (pc := 84) ⟨rfl, rfl⟩ dX12_is_84 rfl (nar_bool (by omega) (by omega)) ⟨_, rfl, ⟨by omega, by omega⟩, rfl, by omega⟩
              · refine j_iconst (pc := 79) dX12_is_79 ?_
                refine j_goto (pc := 80) (tgt := 84) dX12_is_80 rfl ?_
                exact j_zret (pc := 84) ⟨rfl, rfl⟩ dX12_is_84 rfl (nar_bool (by omega) (by omega)) ⟨_, rfl, ⟨by omega, by omega⟩, rfl, by omega⟩
