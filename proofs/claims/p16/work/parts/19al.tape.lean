/-! 19al.tape -/
theorem dX9_lineName_0 : decode cX9_lineName 0 = .ok (.aload_n 0, 1) := by decide +kernel
theorem dX9_lineName_1 : decode cX9_lineName 1 = .ok (.ldc 106, 2) := by decide +kernel
theorem dX9_lineName_3 : decode cX9_lineName 3 = .ok (.invokevirtual 108, 3) := by decide +kernel
theorem dX9_lineName_6 : decode cX9_lineName 6 = .ok (.ifCond .eq 6, 3) := by decide +kernel
theorem dX9_lineName_9 : decode cX9_lineName 9 = .ok (.bipush 9, 2) := by decide +kernel
theorem dX9_lineName_11 : decode cX9_lineName 11 = .ok (.ireturn, 1) := by decide +kernel
theorem dX9_lineName_12 : decode cX9_lineName 12 = .ok (.aload_n 0, 1) := by decide +kernel
theorem dX9_lineName_13 : decode cX9_lineName 13 = .ok (.ldc 112, 2) := by decide +kernel
theorem dX9_lineName_15 : decode cX9_lineName 15 = .ok (.invokevirtual 108, 3) := by decide +kernel
theorem dX9_lineName_18 : decode cX9_lineName 18 = .ok (.ifCond .eq 6, 3) := by decide +kernel
theorem dX9_lineName_21 : decode cX9_lineName 21 = .ok (.bipush 10, 2) := by decide +kernel
theorem dX9_lineName_23 : decode cX9_lineName 23 = .ok (.ireturn, 1) := by decide +kernel
theorem dX9_lineName_24 : decode cX9_lineName 24 = .ok (.aload_n 0, 1) := by decide +kernel
theorem dX9_lineName_25 : decode cX9_lineName 25 = .ok (.ldc 114, 2) := by decide +kernel
theorem dX9_lineName_27 : decode cX9_lineName 27 = .ok (.invokevirtual 108, 3) := by decide +kernel
theorem dX9_lineName_30 : decode cX9_lineName 30 = .ok (.ifCond .eq 5, 3) := by decide +kernel
theorem dX9_lineName_33 : decode cX9_lineName 33 = .ok (.iconst 0, 1) := by decide +kernel
theorem dX9_lineName_34 : decode cX9_lineName 34 = .ok (.ireturn, 1) := by decide +kernel
theorem dX9_lineName_35 : decode cX9_lineName 35 = .ok (.aload_n 0, 1) := by decide +kernel
theorem dX9_lineName_36 : decode cX9_lineName 36 = .ok (.ldc 115, 2) := by decide +kernel
theorem dX9_lineName_38 : decode cX9_lineName 38 = .ok (.invokevirtual 108, 3) := by decide +kernel
theorem dX9_lineName_41 : decode cX9_lineName 41 = .ok (.ifCond .eq 5, 3) := by decide +kernel
theorem dX9_lineName_44 : decode cX9_lineName 44 = .ok (.iconst 1, 1) := by decide +kernel
theorem dX9_lineName_45 : decode cX9_lineName 45 = .ok (.ireturn, 1) := by decide +kernel
theorem dX9_lineName_46 : decode cX9_lineName 46 = .ok (.aload_n 0, 1) := by decide +kernel
theorem dX9_lineName_47 : decode cX9_lineName 47 = .ok (.ldc 117, 2) := by decide +kernel
theorem dX9_lineName_49 : decode cX9_lineName 49 = .ok (.invokevirtual 108, 3) := by decide +kernel
theorem dX9_lineName_52 : decode cX9_lineName 52 = .ok (.ifCond .eq 5, 3) := by decide +kernel
theorem dX9_lineName_55 : decode cX9_lineName 55 = .ok (.iconst 2, 1) := by decide +kernel
theorem dX9_lineName_56 : decode cX9_lineName 56 = .ok (.ireturn, 1) := by decide +kernel
theorem dX9_lineName_57 : decode cX9_lineName 57 = .ok (.aload_n 0, 1) := by decide +kernel
theorem dX9_lineName_58 : decode cX9_lineName 58 = .ok (.ldc 118, 2) := by decide +kernel
theorem dX9_lineName_60 : decode cX9_lineName 60 = .ok (.invokevirtual 108, 3) := by decide +kernel
theorem dX9_lineName_63 : decode cX9_lineName 63 = .ok (.ifCond .eq 5, 3) := by decide +kernel
theorem dX9_lineName_66 : decode cX9_lineName 66 = .ok (.iconst 3, 1) := by decide +kernel
theorem dX9_lineName_67 : decode cX9_lineName 67 = .ok (.ireturn, 1) := by decide +kernel
theorem dX9_lineName_68 : decode cX9_lineName 68 = .ok (.aload_n 0, 1) := by decide +kernel
theorem dX9_lineName_69 : decode cX9_lineName 69 = .ok (.ldc 120, 2) := by decide +kernel
theorem dX9_lineName_71 : decode cX9_lineName 71 = .ok (.invokevirtual 108, 3) := by decide +kernel
theorem dX9_lineName_74 : decode cX9_lineName 74 = .ok (.ifCond .eq 5, 3) := by decide +kernel
theorem dX9_lineName_77 : decode cX9_lineName 77 = .ok (.iconst 4, 1) := by decide +kernel
theorem dX9_lineName_78 : decode cX9_lineName 78 = .ok (.ireturn, 1) := by decide +kernel
theorem dX9_lineName_79 : decode cX9_lineName 79 = .ok (.aload_n 0, 1) := by decide +kernel
theorem dX9_lineName_80 : decode cX9_lineName 80 = .ok (.ldc 122, 2) := by decide +kernel
theorem dX9_lineName_82 : decode cX9_lineName 82 = .ok (.invokevirtual 108, 3) := by decide +kernel
theorem dX9_lineName_85 : decode cX9_lineName 85 = .ok (.ifCond .eq 5, 3) := by decide +kernel
theorem dX9_lineName_88 : decode cX9_lineName 88 = .ok (.iconst 5, 1) := by decide +kernel
theorem dX9_lineName_89 : decode cX9_lineName 89 = .ok (.ireturn, 1) := by decide +kernel
theorem dX9_lineName_90 : decode cX9_lineName 90 = .ok (.aload_n 0, 1) := by decide +kernel
theorem dX9_lineName_91 : decode cX9_lineName 91 = .ok (.ldc 124, 2) := by decide +kernel
theorem dX9_lineName_93 : decode cX9_lineName 93 = .ok (.invokevirtual 108, 3) := by decide +kernel
theorem dX9_lineName_96 : decode cX9_lineName 96 = .ok (.ifCond .eq 6, 3) := by decide +kernel
theorem dX9_lineName_99 : decode cX9_lineName 99 = .ok (.bipush 7, 2) := by decide +kernel
theorem dX9_lineName_101 : decode cX9_lineName 101 = .ok (.ireturn, 1) := by decide +kernel
theorem dX9_lineName_102 : decode cX9_lineName 102 = .ok (.aload_n 0, 1) := by decide +kernel
theorem dX9_lineName_103 : decode cX9_lineName 103 = .ok (.ldc 126, 2) := by decide +kernel
theorem dX9_lineName_105 : decode cX9_lineName 105 = .ok (.invokevirtual 108, 3) := by decide +kernel
theorem dX9_lineName_108 : decode cX9_lineName 108 = .ok (.ifCond .eq 8, 3) := by decide +kernel
theorem dX9_lineName_111 : decode cX9_lineName 111 = .ok (.bipush 8, 2) := by decide +kernel
theorem dX9_lineName_113 : decode cX9_lineName 113 = .ok (.goto 4, 3) := by decide +kernel
theorem dX9_lineName_116 : decode cX9_lineName 116 = .ok (.iconst (-1), 1) := by decide +kernel
theorem dX9_lineName_117 : decode cX9_lineName 117 = .ok (.ireturn, 1) := by decide +kernel
abbrev q_X9_lineName  (σ : tw_M) : Option tw_V → tw_M → Prop := fun z τ => ∃ r : Int, z = some (vI r) ∧ (-1 ≤ r ∧ r ≤ 10) ∧ σ = τ ∧ (r = lnm (fX σ) (σ 10 6) (σ 10 7) (σ 10 5))
set_option maxHeartbeats 4000000 in
set_option maxRecDepth 100000 in
theorem c_X9_lineName {G : tw_G} (hX : tw_isX G) (σ : tw_M) (hI : tw_I σ) : tw_C G yX9_lineName cX9_lineName 1 (some .int) 5 [vR 10] σ (q_X9_lineName σ) := by
  refine tw_met [(0, vR 10)] (by decide +kernel) rfl (Nat.le_of_ble_eq_true rfl) ?_
  refine j_aload_n (pc := 0) dX9_lineName_0 rfl rfl ?_
  refine j_ldcS (pc := 1) (i := 0) rfl rfl rfl dX9_lineName_1 ?_
  refine j_callV (pc := 3) (As := [vR (200 + 0)]) (st := []) (c_X9_isName hX 0 (show 0 < tw_lit.length from by decide) σ hI) mv_X9_108 rfl rfl rfl (a_10 hX) dX9_lineName_3 ⟨Nat.le_of_ble_eq_true rfl, Nat.le_of_ble_eq_true rfl⟩ ⟨Nat.le_refl _, Nat.le_refl _⟩ rfl (Nat.le_of_ble_eq_true rfl) rfl (fun z1 σ2 hz1 => ?_)
  obtain ⟨r4, rfl, hr4, rfl, q3_0⟩ := hz1
  replace q3_0 : r4 = nmk (fX σ) (σ 10 6) (σ 10 7) (σ 10 5) 0 := q3_0
  refine j_st (st' := [vI r4]) rfl ?_
  refine j_ifR_eq (pc := 6) (tgt := 12) ⟨by omega, by omega⟩ dX9_lineName_6 rfl (fun h5 => ?_) (fun h5 => ?_)
  · refine j_aload_n (pc := 12) dX9_lineName_12 rfl rfl ?_
    refine j_ldcS (pc := 13) (i := 1) rfl rfl rfl dX9_lineName_13 ?_
    refine j_callV (pc := 15) (As := [vR (200 + 1)]) (st := []) (c_X9_isName hX 1 (show 1 < tw_lit.length from by decide) σ hI) mv_X9_108 rfl rfl rfl (a_10 hX) dX9_lineName_15 ⟨Nat.le_of_ble_eq_true rfl, Nat.le_of_ble_eq_true rfl⟩ ⟨Nat.le_refl _, Nat.le_refl _⟩ rfl (Nat.le_of_ble_eq_true rfl) rfl (fun z6 σ7 hz6 => ?_)
    obtain ⟨r9, rfl, hr9, rfl, q8_0⟩ := hz6
    replace q8_0 : r9 = nmk (fX σ) (σ 10 6) (σ 10 7) (σ 10 5) 1 := q8_0
    refine j_st (st' := [vI r9]) rfl ?_
    refine j_ifR_eq (pc := 18) (tgt := 24) ⟨by omega, by omega⟩ dX9_lineName_18 rfl (fun h10 => ?_) (fun h10 => ?_)
    · refine j_aload_n (pc := 24) dX9_lineName_24 rfl rfl ?_
      refine j_ldcS (pc := 25) (i := 2) rfl rfl rfl dX9_lineName_25 ?_
      refine j_callV (pc := 27) (As := [vR (200 + 2)]) (st := []) (c_X9_isName hX 2 (show 2 < tw_lit.length from by decide) σ hI) mv_X9_108 rfl rfl rfl (a_10 hX) dX9_lineName_27 ⟨Nat.le_of_ble_eq_true rfl, Nat.le_of_ble_eq_true rfl⟩ ⟨Nat.le_refl _, Nat.le_refl _⟩ rfl (Nat.le_of_ble_eq_true rfl) rfl (fun z11 σ12 hz11 => ?_)
      obtain ⟨r14, rfl, hr14, rfl, q13_0⟩ := hz11
      replace q13_0 : r14 = nmk (fX σ) (σ 10 6) (σ 10 7) (σ 10 5) 2 := q13_0
      refine j_st (st' := [vI r14]) rfl ?_
      refine j_ifR_eq (pc := 30) (tgt := 35) ⟨by omega, by omega⟩ dX9_lineName_30 rfl (fun h15 => ?_) (fun h15 => ?_)
      · refine j_aload_n (pc := 35) dX9_lineName_35 rfl rfl ?_
        refine j_ldcS (pc := 36) (i := 3) rfl rfl rfl dX9_lineName_36 ?_
        refine j_callV (pc := 38) (As := [vR (200 + 3)]) (st := []) (c_X9_isName hX 3 (show 3 < tw_lit.length from by decide) σ hI) mv_X9_108 rfl rfl rfl (a_10 hX) dX9_lineName_38 ⟨Nat.le_of_ble_eq_true rfl, Nat.le_of_ble_eq_true rfl⟩ ⟨Nat.le_refl _, Nat.le_refl _⟩ rfl (Nat.le_of_ble_eq_true rfl) rfl (fun z16 σ17 hz16 => ?_)
        obtain ⟨r19, rfl, hr19, rfl, q18_0⟩ := hz16
        replace q18_0 : r19 = nmk (fX σ) (σ 10 6) (σ 10 7) (σ 10 5) 3 := q18_0
        refine j_st (st' := [vI r19]) rfl ?_
        refine j_ifR_eq (pc := 41) (tgt := 46) ⟨by omega, by omega⟩ dX9_lineName_41 rfl (fun h20 => ?_) (fun h20 => ?_)
        · refine j_aload_n (pc := 46) dX9_lineName_46 rfl rfl ?_
          refine j_ldcS (pc := 47) (i := 4) rfl rfl rfl dX9_lineName_47 ?_
          refine j_callV (pc := 49) (As := [vR (200 + 4)]) (st := []) (c_X9_isName hX 4 (show 4 < tw_lit.length from by decide) σ hI) mv_X9_108 rfl rfl rfl (a_10 hX) dX9_lineName_49 ⟨Nat.le_of_ble_eq_true rfl, Nat.le_of_ble_eq_true rfl⟩ ⟨Nat.le_refl _, Nat.le_refl _⟩ rfl (Nat.le_of_ble_eq_true rfl) rfl (fun z21 σ22 hz21 => ?_)
          obtain ⟨r24, rfl, hr24, rfl, q23_0⟩ := hz21
          replace q23_0 : r24 = nmk (fX σ) (σ 10 6) (σ 10 7) (σ 10 5) 4 := q23_0
          refine j_st (st' := [vI r24]) rfl ?_
          refine j_ifR_eq (pc := 52) (tgt := 57) ⟨by omega, by omega⟩ dX9_lineName_52 rfl (fun h25 => ?_) (fun h25 => ?_)
          · refine j_aload_n (pc := 57) dX9_lineName_57 rfl rfl ?_
            refine j_ldcS (pc := 58) (i := 5) rfl rfl rfl dX9_lineName_58 ?_
            refine j_callV (pc := 60) (As := [vR (200 + 5)]) (st := []) (c_X9_isName hX 5 (show 5 < tw_lit.length from by decide) σ hI) mv_X9_108 rfl rfl rfl (a_10 hX) dX9_lineName_60 ⟨Nat.le_of_ble_eq_true rfl, Nat.le_of_ble_eq_true rfl⟩ ⟨Nat.le_refl _, Nat.le_refl _⟩ rfl (Nat.le_of_ble_eq_true rfl) rfl (fun z26 σ27 hz26 => ?_)
            obtain ⟨r29, rfl, hr29, rfl, q28_0⟩ := hz26
            replace q28_0 : r29 = nmk (fX σ) (σ 10 6) (σ 10 7) (σ 10 5) 5 := q28_0
            refine j_st (st' := [vI r29]) rfl ?_
            refine j_ifR_eq (pc := 63) (tgt := 68) ⟨by omega, by omega⟩ dX9_lineName_63 rfl (fun h30 => ?_) (fun h30 => ?_)
            · refine j_aload_n (pc := 68) dX9_lineName_68 rfl rfl ?_
              refine j_ldcS (pc := 69) (i := 6) rfl rfl rfl dX9_lineName_69 ?_
              refine j_callV (pc := 71) (As := [vR (200 + 6)]) (st := []) (c_X9_isName hX 6 (show 6 < tw_lit.length from by decide) σ hI) mv_X9_108 rfl rfl rfl (a_10 hX) dX9_lineName_71 ⟨Nat.le_of_ble_eq_true rfl, Nat.le_of_ble_eq_true rfl⟩ ⟨Nat.le_refl _, Nat.le_refl _⟩ rfl (Nat.le_of_ble_eq_true rfl) rfl (fun z31 σ32 hz31 => ?_)
              obtain ⟨r34, rfl, hr34, rfl, q33_0⟩ := hz31
              replace q33_0 : r34 = nmk (fX σ) (σ 10 6) (σ 10 7) (σ 10 5) 6 := q33_0
              refine j_st (st' := [vI r34]) rfl ?_
              refine j_ifR_eq (pc := 74) (tgt := 79) ⟨by omega, by omega⟩ dX9_lineName_74 rfl (fun h35 => ?_) (fun h35 => ?_)
              · refine j_aload_n (pc := 79) dX9_lineName_79 rfl rfl ?_
                refine j_ldcS (pc := 80) (i := 7) rfl rfl rfl dX9_lineName_80 ?_
                refine j_callV (pc := 82) (As := [vR (200 + 7)]) (st := []) (c_X9_isName hX 7 (show 7 < tw_lit.length from by decide) σ hI) mv_X9_108 rfl rfl rfl (a_10 hX) dX9_lineName_82 ⟨Nat.le_of_ble_eq_true rfl, Nat.le_of_ble_eq_true rfl⟩ ⟨Nat.le_refl _, Nat.le_refl _⟩ rfl (Nat.le_of_ble_eq_true rfl) rfl (fun z36 σ37 hz36 => ?_)
                obtain ⟨r39, rfl, hr39, rfl, q38_0⟩ := hz36
                replace q38_0 : r39 = nmk (fX σ) (σ 10 6) (σ 10 7) (σ 10 5) 7 := q38_0
                refine j_st (st' := [vI r39]) rfl ?_
                refine j_ifR_eq (pc := 85) (tgt := 90) ⟨by omega, by omega⟩ dX9_lineName_85 rfl (fun h40 => ?_) (fun h40 => ?_)
                · refine j_aload_n (pc := 90) dX9_lineName_90 rfl rfl ?_
                  refine j_ldcS (pc := 91) (i := 8) rfl rfl rfl dX9_lineName_91 ?_
                  refine j_callV (pc := 93) (As := [vR (200 + 8)]) (st := []) (c_X9_isName hX 8 (show 8 < tw_lit.length from by decide) σ hI) mv_X9_108 rfl rfl rfl (a_10 hX) dX9_lineName_93 ⟨Nat.le_of_ble_eq_true rfl, Nat.le_of_ble_eq_true rfl⟩ ⟨Nat.le_refl _, Nat.le_refl _⟩ rfl (Nat.le_of_ble_eq_true rfl) rfl (fun z41 σ42 hz41 => ?_)
                  obtain ⟨r44, rfl, hr44, rfl, q43_0⟩ := hz41
                  replace q43_0 : r44 = nmk (fX σ) (σ 10 6) (σ 10 7) (σ 10 5) 8 := q43_0
                  refine j_st (st' := [vI r44]) rfl ?_
                  refine j_ifR_eq (pc := 96) (tgt := 102) ⟨by omega, by omega⟩ dX9_lineName_96 rfl (fun h45 => ?_) (fun h45 => ?_)
                  · refine j_aload_n (pc := 102) dX9_lineName_102 rfl rfl ?_
                    refine j_ldcS (pc := 103) (i := 9) rfl rfl rfl dX9_lineName_103 ?_
                    refine j_callV (pc := 105) (As := [vR (200 + 9)]) (st := []) (c_X9_isName hX 9 (show 9 < tw_lit.length from by decide) σ hI) mv_X9_108 rfl rfl rfl (a_10 hX) dX9_lineName_105 ⟨Nat.le_of_ble_eq_true rfl, Nat.le_of_ble_eq_true rfl⟩ ⟨Nat.le_refl _, Nat.le_refl _⟩ rfl (Nat.le_of_ble_eq_true rfl) rfl (fun z46 σ47 hz46 => ?_)
                    obtain ⟨r49, rfl, hr49, rfl, q48_0⟩ := hz46
                    replace q48_0 : r49 = nmk (fX σ) (σ 10 6) (σ 10 7) (σ 10 5) 9 := q48_0
                    refine j_st (st' := [vI r49]) rfl ?_
                    refine j_ifR_eq (pc := 108) (tgt := 116) ⟨by omega, by omega⟩ dX9_lineName_108 rfl (fun h50 => ?_) (fun h50 => ?_)
                    · refine j_iconst (pc := 116) dX9_lineName_116 ?_
                      exact j_iret (pc := 117) ⟨rfl, rfl⟩ dX9_lineName_117 rfl ⟨_, rfl, ⟨by omega, by omega⟩, rfl, (by rw [lnm_z]; repeat (first | rw [if_pos (by omega)] | rw [if_neg (by omega)]))⟩
                    · refine j_bipush (pc := 111) dX9_lineName_111 rfl ?_
                      refine j_goto (pc := 113) (tgt := 117) dX9_lineName_113 rfl ?_
                      exact j_iret (pc := 117) ⟨rfl, rfl⟩ dX9_lineName_117 rfl ⟨_, rfl, ⟨by omega, by omega⟩, rfl, (by rw [lnm_z]; repeat (first | rw [if_pos (by omega)] | rw [if_neg (by omega)]))⟩
                  · refine j_bipush (pc := 99) dX9_lineName_99 rfl ?_
                    exact j_iret (pc := 101) ⟨rfl, rfl⟩ dX9_lineName_101 rfl ⟨_, rfl, ⟨by omega, by omega⟩, rfl, (by rw [lnm_z]; repeat (first | rw [if_pos (by omega)] | rw [if_neg (by omega)]))⟩
                · refine j_iconst (pc := 88) dX9_lineName_88 ?_
                  exact j_iret (pc := 89) ⟨rfl, rfl⟩ dX9_lineName_89 rfl ⟨_, rfl, ⟨by omega, by omega⟩, rfl, (by rw [lnm_z]; repeat (first | rw [if_pos (by omega)] | rw [if_neg (by omega)]))⟩
              · refine j_iconst (pc := 77) dX9_lineName_77 ?_
                exact j_iret (pc := 78) ⟨rfl, rfl⟩ dX9_lineName_78 rfl ⟨_, rfl, ⟨by omega, by omega⟩, rfl, (by rw [lnm_z]; repeat (first | rw [if_pos (by omega)] | rw [if_neg (by omega)]))⟩
            · refine j_iconst (pc := 66) dX9_lineName_66 ?_
              exact j_iret (pc := 67) ⟨rfl, rfl⟩ dX9_lineName_67 rfl ⟨_, rfl, ⟨by omega, by omega⟩, rfl, (by rw [lnm_z]; repeat (first | rw [if_pos (by omega)] | rw [if_neg (by omega)]))⟩
          · refine j_iconst (pc := 55) dX9_lineName_55 ?_
            exact j_iret (pc := 56) ⟨rfl, rfl⟩ dX9_lineName_56 rfl ⟨_, rfl, ⟨by omega, by omega⟩, rfl, (by rw [lnm_z]; repeat (first | rw [if_pos (by omega)] | rw [if_neg (by omega)]))⟩
        · refine j_iconst (pc := 44) dX9_lineName_44 ?_
          exact j_iret (pc := 45) ⟨rfl, rfl⟩ dX9_lineName_45 rfl ⟨_, rfl, ⟨by omega, by omega⟩, rfl, (by rw [lnm_z]; repeat (first | rw [if_pos (by omega)] | rw [if_neg (by omega)]))⟩
      · refine j_iconst (pc := 33) dX9_lineName_33 ?_
        exact j_iret (pc := 34) ⟨rfl, rfl⟩ dX9_lineName_34 rfl ⟨_, rfl, ⟨by omega, by omega⟩, rfl, (by rw [lnm_z]; repeat (first | rw [if_pos (by omega)] | rw [if_neg (by omega)]))⟩
    · refine j_bipush (pc := 21) dX9_lineName_21 rfl ?_
      exact j_iret (pc := 23) ⟨rfl, rfl⟩ dX9_lineName_23 rfl ⟨_, rfl, ⟨by omega, by omega⟩, rfl, (by rw [lnm_z]; repeat (first | rw [if_pos (by omega)] | rw [if_neg (by omega)]))⟩
  · refine j_bipush (pc := 9) dX9_lineName_9 rfl ?_
    exact j_iret (pc := 11) ⟨rfl, rfl⟩ dX9_lineName_11 rfl ⟨_, rfl, ⟨by omega, by omega⟩, rfl, (by rw [lnm_z]; repeat (first | rw [if_pos (by omega)] | rw [if_neg (by omega)]))⟩
