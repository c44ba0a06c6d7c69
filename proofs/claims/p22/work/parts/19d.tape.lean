/-! 19d.tape -/
theorem dX9_isName_0 : decode cX9_isName 0 = .ok (.aload_n 0, 1) := by decide +kernel
theorem dX9_isName_1 : decode cX9_isName 1 = .ok (.getfield 48, 3) := by decide +kernel
theorem dX9_isName_4 : decode cX9_isName 4 = .ok (.iconst 1, 1) := by decide +kernel
theorem dX9_isName_5 : decode cX9_isName 5 = .ok (.if_icmp .ne 19, 3) := by decide +kernel
theorem dX9_isName_8 : decode cX9_isName 8 = .ok (.aload_n 0, 1) := by decide +kernel
theorem dX9_isName_9 : decode cX9_isName 9 = .ok (.getfield 69, 3) := by decide +kernel
theorem dX9_isName_12 : decode cX9_isName 12 = .ok (.aload_n 0, 1) := by decide +kernel
theorem dX9_isName_13 : decode cX9_isName 13 = .ok (.getfield 76, 3) := by decide +kernel
theorem dX9_isName_16 : decode cX9_isName 16 = .ok (.isub, 1) := by decide +kernel
theorem dX9_isName_17 : decode cX9_isName 17 = .ok (.aload_n 1, 1) := by decide +kernel
theorem dX9_isName_18 : decode cX9_isName 18 = .ok (.invokevirtual 98, 3) := by decide +kernel
theorem dX9_isName_21 : decode cX9_isName 21 = .ok (.if_icmp .eq 5, 3) := by decide +kernel
theorem dX9_isName_24 : decode cX9_isName 24 = .ok (.iconst 0, 1) := by decide +kernel
theorem dX9_isName_25 : decode cX9_isName 25 = .ok (.ireturn, 1) := by decide +kernel
theorem dX9_isName_26 : decode cX9_isName 26 = .ok (.iconst 0, 1) := by decide +kernel
theorem dX9_isName_27 : decode cX9_isName 27 = .ok (.istore_n 2, 1) := by decide +kernel
theorem dX9_isName_28 : decode cX9_isName 28 = .ok (.iload_n 2, 1) := by decide +kernel
theorem dX9_isName_29 : decode cX9_isName 29 = .ok (.aload_n 1, 1) := by decide +kernel
theorem dX9_isName_30 : decode cX9_isName 30 = .ok (.invokevirtual 98, 3) := by decide +kernel
theorem dX9_isName_33 : decode cX9_isName 33 = .ok (.if_icmp .ge 29, 3) := by decide +kernel
theorem dX9_isName_36 : decode cX9_isName 36 = .ok (.aload_n 0, 1) := by decide +kernel
theorem dX9_isName_37 : decode cX9_isName 37 = .ok (.aload_n 0, 1) := by decide +kernel
theorem dX9_isName_38 : decode cX9_isName 38 = .ok (.getfield 76, 3) := by decide +kernel
theorem dX9_isName_41 : decode cX9_isName 41 = .ok (.iload_n 2, 1) := by decide +kernel
theorem dX9_isName_42 : decode cX9_isName 42 = .ok (.iadd, 1) := by decide +kernel
theorem dX9_isName_43 : decode cX9_isName 43 = .ok (.invokevirtual 72, 3) := by decide +kernel
theorem dX9_isName_46 : decode cX9_isName 46 = .ok (.aload_n 1, 1) := by decide +kernel
theorem dX9_isName_47 : decode cX9_isName 47 = .ok (.iload_n 2, 1) := by decide +kernel
theorem dX9_isName_48 : decode cX9_isName 48 = .ok (.invokevirtual 102, 3) := by decide +kernel
theorem dX9_isName_51 : decode cX9_isName 51 = .ok (.if_icmp .eq 5, 3) := by decide +kernel
theorem dX9_isName_54 : decode cX9_isName 54 = .ok (.iconst 0, 1) := by decide +kernel
theorem dX9_isName_55 : decode cX9_isName 55 = .ok (.ireturn, 1) := by decide +kernel
theorem dX9_isName_56 : decode cX9_isName 56 = .ok (.iinc 2 1, 3) := by decide +kernel
theorem dX9_isName_59 : decode cX9_isName 59 = .ok (.goto (-31), 3) := by decide +kernel
theorem dX9_isName_62 : decode cX9_isName 62 = .ok (.iconst 1, 1) := by decide +kernel
theorem dX9_isName_63 : decode cX9_isName 63 = .ok (.ireturn, 1) := by decide +kernel
theorem dX9_lineName_0 : decode cX9_lineName 0 = .ok (.aload_n 0, 1) := by decide +kernel
theorem dX9_lineName_1 : decode cX9_lineName 1 = .ok (.ldc 106, 2) := by decide +kernel
theorem dX9_lineName_3 : decode cX9_lineName 3 = .ok (.invokevirtual 108, 3) := by decide +kernel
theorem dX9_lineName_6 : decode cX9_lineName 6 = .ok (.ifCond .eq 6, 3) := by decide +kernel
theorem dX9_lineName_9 : decode cX9_lineName 9 = .ok (.bipush 9, 2) := by decide +kernel
theorem dX9_lineName_11 : decode cX9_lineName 11 = .ok (.ireturn, 1) := by decide +kernel
theorem dX9_lineName_12 : decode cX9_lineName 12 = .ok (.aload_n 0, 1) := by decide +kernel
theorem dX9_lineName_13 : decode cX9_lineName 13 = .ok (.ldc 112, 2) := by decide +kernel
theorem dX9_lineName_15 : decode cX9_lineName 15 = .ok (.invokevirtual 108, 3) := by decide +kernel
theorem dX9_lineName_18 : decode cX9_lineName 18 = .ok (.ifCond .eq 6, 3) := by decide +kernel
theorem dX9_lineName_21 : decode cX9_lineName 21 = .ok (.bipush 10, 2) := by decide +kernel
theorem dX9_lineName_23 : decode cX9_lineName 23 = .ok (.ireturn, 1) := by decide +kernel
theorem dX9_lineName_24 : decode cX9_lineName 24 = .ok (.aload_n 0, 1) := by decide +kernel
theorem dX9_lineName_25 : decode cX9_lineName 25 = .ok (.ldc 114, 2) := by decide +kernel
theorem dX9_lineName_27 : decode cX9_lineName 27 = .ok (.invokevirtual 108, 3) := by decide +kernel
theorem dX9_lineName_30 : decode cX9_lineName 30 = .ok (.ifCond .eq 5, 3) := by decide +kernel
theorem dX9_lineName_33 : decode cX9_lineName 33 = .ok (.iconst 0, 1) := by decide +kernel
theorem dX9_lineName_34 : decode cX9_lineName 34 = .ok (.ireturn, 1) := by decide +kernel
theorem dX9_lineName_35 : decode cX9_lineName 35 = .ok (.aload_n 0, 1) := by decide +kernel
theorem dX9_lineName_36 : decode cX9_lineName 36 = .ok (.ldc 115, 2) := by decide +kernel
theorem dX9_lineName_38 : decode cX9_lineName 38 = .ok (.invokevirtual 108, 3) := by decide +kernel
theorem dX9_lineName_41 : decode cX9_lineName 41 = .ok (.ifCond .eq 5, 3) := by decide +kernel
theorem dX9_lineName_44 : decode cX9_lineName 44 = .ok (.iconst 1, 1) := by decide +kernel
theorem dX9_lineName_45 : decode cX9_lineName 45 = .ok (.ireturn, 1) := by decide +kernel
theorem dX9_lineName_46 : decode cX9_lineName 46 = .ok (.aload_n 0, 1) := by decide +kernel
theorem dX9_lineName_47 : decode cX9_lineName 47 = .ok (.ldc 117, 2) := by decide +kernel
theorem dX9_lineName_49 : decode cX9_lineName 49 = .ok (.invokevirtual 108, 3) := by decide +kernel
theorem dX9_lineName_52 : decode cX9_lineName 52 = .ok (.ifCond .eq 5, 3) := by decide +kernel
theorem dX9_lineName_55 : decode cX9_lineName 55 = .ok (.iconst 2, 1) := by decide +kernel
theorem dX9_lineName_56 : decode cX9_lineName 56 = .ok (.ireturn, 1) := by decide +kernel
theorem dX9_lineName_57 : decode cX9_lineName 57 = .ok (.aload_n 0, 1) := by decide +kernel
theorem dX9_lineName_58 : decode cX9_lineName 58 = .ok (.ldc 118, 2) := by decide +kernel
theorem dX9_lineName_60 : decode cX9_lineName 60 = .ok (.invokevirtual 108, 3) := by decide +kernel
theorem dX9_lineName_63 : decode cX9_lineName 63 = .ok (.ifCond .eq 5, 3) := by decide +kernel
theorem dX9_lineName_66 : decode cX9_lineName 66 = .ok (.iconst 3, 1) := by decide +kernel
theorem dX9_lineName_67 : decode cX9_lineName 67 = .ok (.ireturn, 1) := by decide +kernel
theorem dX9_lineName_68 : decode cX9_lineName 68 = .ok (.aload_n 0, 1) := by decide +kernel
theorem dX9_lineName_69 : decode cX9_lineName 69 = .ok (.ldc 120, 2) := by decide +kernel
theorem dX9_lineName_71 : decode cX9_lineName 71 = .ok (.invokevirtual 108, 3) := by decide +kernel
theorem dX9_lineName_74 : decode cX9_lineName 74 = .ok (.ifCond .eq 5, 3) := by decide +kernel
theorem dX9_lineName_77 : decode cX9_lineName 77 = .ok (.iconst 4, 1) := by decide +kernel
theorem dX9_lineName_78 : decode cX9_lineName 78 = .ok (.ireturn, 1) := by decide +kernel
theorem dX9_lineName_79 : decode cX9_lineName 79 = .ok (.aload_n 0, 1) := by decide +kernel
theorem dX9_lineName_80 : decode cX9_lineName 80 = .ok (.ldc 122, 2) := by decide +kernel
theorem dX9_lineName_82 : decode cX9_lineName 82 = .ok (.invokevirtual 108, 3) := by decide +kernel
theorem dX9_lineName_85 : decode cX9_lineName 85 = .ok (.ifCond .eq 5, 3) := by decide +kernel
theorem dX9_lineName_88 : decode cX9_lineName 88 = .ok (.iconst 5, 1) := by decide +kernel
theorem dX9_lineName_89 : decode cX9_lineName 89 = .ok (.ireturn, 1) := by decide +kernel
theorem dX9_lineName_90 : decode cX9_lineName 90 = .ok (.aload_n 0, 1) := by decide +kernel
theorem dX9_lineName_91 : decode cX9_lineName 91 = .ok (.ldc 124, 2) := by decide +kernel
theorem dX9_lineName_93 : decode cX9_lineName 93 = .ok (.invokevirtual 108, 3) := by decide +kernel
theorem dX9_lineName_96 : decode cX9_lineName 96 = .ok (.ifCond .eq 6, 3) := by decide +kernel
theorem dX9_lineName_99 : decode cX9_lineName 99 = .ok (.bipush 7, 2) := by decide +kernel
theorem dX9_lineName_101 : decode cX9_lineName 101 = .ok (.ireturn, 1) := by decide +kernel
theorem dX9_lineName_102 : decode cX9_lineName 102 = .ok (.aload_n 0, 1) := by decide +kernel
theorem dX9_lineName_103 : decode cX9_lineName 103 = .ok (.ldc 126, 2) := by decide +kernel
theorem dX9_lineName_105 : decode cX9_lineName 105 = .ok (.invokevirtual 108, 3) := by decide +kernel
theorem dX9_lineName_108 : decode cX9_lineName 108 = .ok (.ifCond .eq 8, 3) := by decide +kernel
theorem dX9_lineName_111 : decode cX9_lineName 111 = .ok (.bipush 8, 2) := by decide +kernel
theorem dX9_lineName_113 : decode cX9_lineName 113 = .ok (.goto 4, 3) := by decide +kernel
theorem dX9_lineName_116 : decode cX9_lineName 116 = .ok (.iconst (-1), 1) := by decide +kernel
theorem dX9_lineName_117 : decode cX9_lineName 117 = .ok (.ireturn, 1) := by decide +kernel
theorem dX9_withName_0 : decode cX9_withName 0 = .ok (.aload_n 0, 1) := by decide +kernel
theorem dX9_withName_1 : decode cX9_withName 1 = .ok (.ldc 128, 2) := by decide +kernel
theorem dX9_withName_3 : decode cX9_withName 3 = .ok (.invokevirtual 108, 3) := by decide +kernel
theorem dX9_withName_6 : decode cX9_withName 6 = .ok (.ifCond .eq 5, 3) := by decide +kernel
theorem dX9_withName_9 : decode cX9_withName 9 = .ok (.iconst 0, 1) := by decide +kernel
theorem dX9_withName_10 : decode cX9_withName 10 = .ok (.ireturn, 1) := by decide +kernel
theorem dX9_withName_11 : decode cX9_withName 11 = .ok (.aload_n 0, 1) := by decide +kernel
theorem dX9_withName_12 : decode cX9_withName 12 = .ok (.ldc 130, 2) := by decide +kernel
theorem dX9_withName_14 : decode cX9_withName 14 = .ok (.invokevirtual 108, 3) := by decide +kernel
theorem dX9_withName_17 : decode cX9_withName 17 = .ok (.ifCond .eq 5, 3) := by decide +kernel
theorem dX9_withName_20 : decode cX9_withName 20 = .ok (.iconst 1, 1) := by decide +kernel
theorem dX9_withName_21 : decode cX9_withName 21 = .ok (.ireturn, 1) := by decide +kernel
theorem dX9_withName_22 : decode cX9_withName 22 = .ok (.aload_n 0, 1) := by decide +kernel
theorem dX9_withName_23 : decode cX9_withName 23 = .ok (.ldc 132, 2) := by decide +kernel
theorem dX9_withName_25 : decode cX9_withName 25 = .ok (.invokevirtual 108, 3) := by decide +kernel
theorem dX9_withName_28 : decode cX9_withName 28 = .ok (.ifCond .eq 5, 3) := by decide +kernel
theorem dX9_withName_31 : decode cX9_withName 31 = .ok (.iconst 2, 1) := by decide +kernel
theorem dX9_withName_32 : decode cX9_withName 32 = .ok (.ireturn, 1) := by decide +kernel
theorem dX9_withName_33 : decode cX9_withName 33 = .ok (.aload_n 0, 1) := by decide +kernel
theorem dX9_withName_34 : decode cX9_withName 34 = .ok (.ldc 134, 2) := by decide +kernel
theorem dX9_withName_36 : decode cX9_withName 36 = .ok (.invokevirtual 108, 3) := by decide +kernel
theorem dX9_withName_39 : decode cX9_withName 39 = .ok (.ifCond .eq 7, 3) := by decide +kernel
theorem dX9_withName_42 : decode cX9_withName 42 = .ok (.iconst 3, 1) := by decide +kernel
theorem dX9_withName_43 : decode cX9_withName 43 = .ok (.goto 4, 3) := by decide +kernel
theorem dX9_withName_46 : decode cX9_withName 46 = .ok (.iconst (-1), 1) := by decide +kernel
theorem dX9_withName_47 : decode cX9_withName 47 = .ok (.ireturn, 1) := by decide +kernel
theorem dX9_lineEnd_0 : decode cX9_lineEnd 0 = .ok (.aload_n 0, 1) := by decide +kernel
theorem dX9_lineEnd_1 : decode cX9_lineEnd 1 = .ok (.getfield 48, 3) := by decide +kernel
theorem dX9_lineEnd_4 : decode cX9_lineEnd 4 = .ok (.iconst 3, 1) := by decide +kernel
theorem dX9_lineEnd_5 : decode cX9_lineEnd 5 = .ok (.if_icmp .eq 12, 3) := by decide +kernel
theorem dX9_lineEnd_8 : decode cX9_lineEnd 8 = .ok (.aload_n 0, 1) := by decide +kernel
theorem dX9_lineEnd_9 : decode cX9_lineEnd 9 = .ok (.iconst 2, 1) := by decide +kernel
theorem dX9_lineEnd_10 : decode cX9_lineEnd 10 = .ok (.aload_n 0, 1) := by decide +kernel
theorem dX9_lineEnd_11 : decode cX9_lineEnd 11 = .ok (.getfield 76, 3) := by decide +kernel
theorem dX9_lineEnd_14 : decode cX9_lineEnd 14 = .ok (.invokevirtual 61, 3) := by decide +kernel
theorem dX9_lineEnd_17 : decode cX9_lineEnd 17 = .ok (.aload_n 0, 1) := by decide +kernel
theorem dX9_lineEnd_18 : decode cX9_lineEnd 18 = .ok (.invokevirtual 45, 3) := by decide +kernel
theorem dX9_lineEnd_21 : decode cX9_lineEnd 21 = .ok (.return_, 1) := by decide +kernel
theorem dX9_number_0 : decode cX9_number 0 = .ok (.aload_n 0, 1) := by decide +kernel
theorem dX9_number_1 : decode cX9_number 1 = .ok (.getfield 33, 3) := by decide +kernel
theorem dX9_number_4 : decode cX9_number 4 = .ok (.ifCond .eq 5, 3) := by decide +kernel
theorem dX9_number_7 : decode cX9_number 7 = .ok (.iload_n 1, 1) := by decide +kernel
theorem dX9_number_8 : decode cX9_number 8 = .ok (.ireturn, 1) := by decide +kernel
theorem dX9_number_9 : decode cX9_number 9 = .ok (.aload_n 0, 1) := by decide +kernel
theorem dX9_number_10 : decode cX9_number 10 = .ok (.getfield 48, 3) := by decide +kernel
theorem dX9_number_13 : decode cX9_number 13 = .ok (.iconst 2, 1) := by decide +kernel
theorem dX9_number_14 : decode cX9_number 14 = .ok (.if_icmp .eq 15, 3) := by decide +kernel
theorem dX9_number_17 : decode cX9_number 17 = .ok (.aload_n 0, 1) := by decide +kernel
theorem dX9_number_18 : decode cX9_number 18 = .ok (.iconst 2, 1) := by decide +kernel
theorem dX9_number_19 : decode cX9_number 19 = .ok (.aload_n 0, 1) := by decide +kernel
theorem dX9_number_20 : decode cX9_number 20 = .ok (.getfield 76, 3) := by decide +kernel
theorem dX9_number_23 : decode cX9_number 23 = .ok (.invokevirtual 61, 3) := by decide +kernel
theorem dX9_number_26 : decode cX9_number 26 = .ok (.goto 28, 3) := by decide +kernel
theorem dX9_number_29 : decode cX9_number 29 = .ok (.aload_n 0, 1) := by decide +kernel
theorem dX9_number_30 : decode cX9_number 30 = .ok (.getfield 95, 3) := by decide +kernel
theorem dX9_number_33 : decode cX9_number 33 = .ok (.iload_n 1, 1) := by decide +kernel
theorem dX9_number_34 : decode cX9_number 34 = .ok (.if_icmp .lt 11, 3) := by decide +kernel
theorem dX9_number_37 : decode cX9_number 37 = .ok (.aload_n 0, 1) := by decide +kernel
theorem dX9_number_38 : decode cX9_number 38 = .ok (.getfield 95, 3) := by decide +kernel
theorem dX9_number_41 : decode cX9_number 41 = .ok (.iload_n 2, 1) := by decide +kernel
theorem dX9_number_42 : decode cX9_number 42 = .ok (.if_icmp .le 12, 3) := by decide +kernel
theorem dX9_number_45 : decode cX9_number 45 = .ok (.aload_n 0, 1) := by decide +kernel
theorem dX9_number_46 : decode cX9_number 46 = .ok (.iconst 3, 1) := by decide +kernel
theorem dX9_number_47 : decode cX9_number 47 = .ok (.aload_n 0, 1) := by decide +kernel
theorem dX9_number_48 : decode cX9_number 48 = .ok (.getfield 76, 3) := by decide +kernel
theorem dX9_number_51 : decode cX9_number 51 = .ok (.invokevirtual 61, 3) := by decide +kernel
theorem dX9_number_54 : decode cX9_number 54 = .ok (.aload_n 0, 1) := by decide +kernel
theorem dX9_number_55 : decode cX9_number 55 = .ok (.getfield 33, 3) := by decide +kernel
theorem dX9_number_58 : decode cX9_number 58 = .ok (.ifCond .ne 10, 3) := by decide +kernel
theorem dX9_number_61 : decode cX9_number 61 = .ok (.aload_n 0, 1) := by decide +kernel
theorem dX9_number_62 : decode cX9_number 62 = .ok (.getfield 95, 3) := by decide +kernel
theorem dX9_number_65 : decode cX9_number 65 = .ok (.goto 4, 3) := by decide +kernel
theorem dX9_number_68 : decode cX9_number 68 = .ok (.iload_n 1, 1) := by decide +kernel
theorem dX9_number_69 : decode cX9_number 69 = .ok (.ireturn, 1) := by decide +kernel
abbrev q_X9_isName (i : Nat) (σ : tw_M) : Option tw_V → tw_M → Prop := fun z τ => ∃ r : Int, z = some (vI r) ∧ (0 ≤ r ∧ r ≤ 1) ∧ σ = τ ∧ (r = nmk (fX σ) (σ 10 6) (σ 10 7) (σ 10 5) i)
set_option maxHeartbeats 4000000 in
set_option maxRecDepth 100000 in
theorem l_X9_isName {G : tw_G} (hX : tw_isX G) (i : Nat) (hi : i < tw_lit.length) (σ : tw_M) (hI : tw_I σ) : ∀ N_ : Nat, (∀ (j : Int) (hj : 0 ≤ j ∧ j ≤ 8) (i0 : σ 10 6 = 1) (i1 : σ 10 5 - σ 10 7 = (tw_llen i : Int)) (i2 : ∀ k : Nat, (k : Int) < j → fX σ (σ 10 7 + (k : Int)) = tw_lch i k) (hm : (8 - j).toNat < N_), tw_J G (tw_mt RX9 cX9_isName 3 (some .boolean) 4) (tw_E G (q_X9_isName i σ)) 28 [(0, vR 10), (1, vR (200 + i)), (2, vI j)] [] σ) := by
  intro N_
  induction N_ with
  | zero => exact fun j hj i0 i1 i2 hm => absurd hm (Nat.not_lt_zero _)
  | succ N_ ih =>
    intro j hj i0 i1 i2 hm
    refine j_iload_n (pc := 28) dX9_isName_28 rfl rfl ?_
    refine j_aload_n (pc := 29) dX9_isName_29 rfl rfl ?_
    refine j_callT (pc := 30) (i := i) (As := []) (st := [vI j]) (c_J0_length_8abf5 i hi σ hI) hi mv_X9_98 rfl rfl dX9_isName_30 ⟨Nat.le_of_ble_eq_true rfl, Nat.le_of_ble_eq_true rfl⟩ ⟨Nat.le_refl _, Nat.le_refl _⟩ rfl (Nat.le_of_ble_eq_true rfl) rfl (fun z1 σ2 hz1 => ?_)
    obtain ⟨r4, rfl, hr4, rfl, q3_0⟩ := hz1
    replace q3_0 : r4 = (tw_llen i : Int) := q3_0
    refine j_st (st' := [vI r4, vI j]) rfl ?_
    refine j_icmpR_ge (pc := 33) (tgt := 62) ⟨by omega, by omega⟩ ⟨by omega, by omega⟩ dX9_isName_33 rfl (fun h5 => ?_) (fun h5 => ?_)
    · refine j_iconst (pc := 62) dX9_isName_62 ?_
      exact j_zret (pc := 63) ⟨rfl, rfl⟩ dX9_isName_63 rfl (nar_bool (by omega) (by omega)) ⟨_, rfl, ⟨by omega, by omega⟩, rfl, (by first | exact (nmk_f (by omega)).symm | exact (nm_len (by omega)).symm.trans (nmk_t (by omega)).symm | exact (nm_1 (by omega) (fun k hk => i2 k (by omega))).symm.trans (nmk_t (by omega)).symm | exact (nm_ch (k := j.toNat) (by omega) (by rw [Int.toNat_of_nonneg (by omega)]; omega)).symm.trans (nmk_t (by omega)).symm)⟩
    · refine j_aload_n (pc := 36) dX9_isName_36 rfl rfl ?_
      refine j_aload_n (pc := 37) dX9_isName_37 rfl rfl ?_
      refine j_getI (pc := 38) fl_X9_76 dX9_isName_38 (a_10 hX) rfl ?_
      have f6 : (0 : Int) ≤ σ 10 7 ∧ σ 10 7 ≤ 400 := hI 10 7
      refine j_iload_n (pc := 41) dX9_isName_41 rfl rfl ?_
      refine j_iadd (pc := 42) dX9_isName_42 ?_
      refine j_callV (pc := 43) (As := [vI ((σ 10 7) + j)]) (st := []) (c_X9_byteAt hX ((σ 10 7) + j) ⟨by omega, by omega⟩ σ hI) mv_X9_72 rfl rfl rfl (a_10 hX) dX9_isName_43 ⟨Nat.le_of_ble_eq_true rfl, Nat.le_of_ble_eq_true rfl⟩ ⟨Nat.le_refl _, Nat.le_refl _⟩ rfl (Nat.le_of_ble_eq_true rfl) rfl (fun z7 σ8 hz7 => ?_)
      obtain ⟨r10, rfl, hr10, rfl, q9_0, q9_1⟩ := hz7
      replace q9_0 : (¬ (0 ≤ ((σ 10 7) + j) ∧ ((σ 10 7) + j) < σ 10 10 ∧ ((σ 10 7) + j) < 400) ∧ r10 = -1) ∨ (0 ≤ ((σ 10 7) + j) ∧ ((σ 10 7) + j) < σ 10 10 ∧ ((σ 10 7) + j) < 400 ∧ 0 ≤ r10 ∧ r10 = tw_and (σ 11 ((σ 10 7) + j).toNat) 255) := q9_0
      replace q9_1 : r10 = fX σ ((σ 10 7) + j) := q9_1
      refine j_st (st' := [vI r10]) rfl ?_
      refine j_aload_n (pc := 46) dX9_isName_46 rfl rfl ?_
      refine j_iload_n (pc := 47) dX9_isName_47 rfl rfl ?_
      refine j_callT (pc := 48) (i := i) (As := [vI j]) (st := [vI r10]) (c_J0_charAt_5068e i hi j ⟨by omega, by omega⟩ σ hI (by omega)) hi mv_X9_102 rfl rfl dX9_isName_48 ⟨Nat.le_of_ble_eq_true rfl, Nat.le_of_ble_eq_true rfl⟩ ⟨Nat.le_refl _, Nat.le_refl _⟩ rfl (Nat.le_of_ble_eq_true rfl) rfl (fun z11 σ12 hz11 => ?_)
      obtain ⟨r14, rfl, hr14, rfl, q13_0⟩ := hz11
      replace q13_0 : r14 = tw_lch i j.toNat := q13_0
      refine j_st (st' := [vI r14, vI r10]) rfl ?_
      refine j_icmpR_eq (pc := 51) (tgt := 56) ⟨by omega, by omega⟩ ⟨by omega, by omega⟩ dX9_isName_51 rfl (fun h15 => ?_) (fun h15 => ?_)
      · refine j_iinc (pc := 56) (i := 2) (n := 1) (ls' := [(0, vR 10), (1, vR (200 + i)), (2, vI (j + 1))]) [1, 2, 0] dX9_isName_56 rfl (Nat.le_of_ble_eq_true rfl) rfl rfl ?_
        refine j_goto (pc := 59) (tgt := 28) dX9_isName_59 rfl ?_
        refine j_ls (ls' := [(0, vR 10), (1, vR (200 + i)), (2, vI (j + 1))]) [0, 1, 2] rfl ?_
        exact ih (j + 1) ⟨by omega, by omega⟩ (show σ 10 6 = 1 from by omega) (show σ 10 5 - σ 10 7 = (tw_llen i : Int) from by omega) (show ∀ k : Nat, (k : Int) < (j + 1) → fX σ (σ 10 7 + (k : Int)) = tw_lch i k from (by first | exact (fun k hk => by exfalso; omega) | exact (fun k hk => by rcases (show (k : Int) < j ∨ (k : Int) = j by omega) with z | z; (exact i2 k z); (have e : j.toNat = k := by omega); rw [z, ← e]; omega))) (show (8 - (j + 1)).toNat < N_ from by omega)
      · refine j_iconst (pc := 54) dX9_isName_54 ?_
        exact j_zret (pc := 55) ⟨rfl, rfl⟩ dX9_isName_55 rfl (nar_bool (by omega) (by omega)) ⟨_, rfl, ⟨by omega, by omega⟩, rfl, (by first | exact (nmk_f (by omega)).symm | exact (nm_len (by omega)).symm.trans (nmk_t (by omega)).symm | exact (nm_1 (by omega) (fun k hk => i2 k (by omega))).symm.trans (nmk_t (by omega)).symm | exact (nm_ch (k := j.toNat) (by omega) (by rw [Int.toNat_of_nonneg (by omega)]; omega)).symm.trans (nmk_t (by omega)).symm)⟩
set_option maxHeartbeats 4000000 in
set_option maxRecDepth 100000 in
theorem c_X9_isName {G : tw_G} (hX : tw_isX G) (i : Nat) (hi : i < tw_lit.length) (σ : tw_M) (hI : tw_I σ) : tw_C G yX9_isName cX9_isName 3 (some .boolean) 4 [vR 10, vR (200 + i)] σ (q_X9_isName i σ) := by
  refine tw_met [(0, vR 10), (1, vR (200 + i))] (by decide +kernel) rfl (Nat.le_of_ble_eq_true rfl) ?_
  refine j_aload_n (pc := 0) dX9_isName_0 rfl rfl ?_
  refine j_getI (pc := 1) fl_X9_48 dX9_isName_1 (a_10 hX) rfl ?_
  have f16 : (0 : Int) ≤ σ 10 6 ∧ σ 10 6 ≤ 3 := hI 10 6
  refine j_iconst (pc := 4) dX9_isName_4 ?_
  refine j_icmpR_ne (pc := 5) (tgt := 24) ⟨by omega, by omega⟩ ⟨by omega, by omega⟩ dX9_isName_5 rfl (fun h17 => ?_) (fun h17 => ?_)
  · refine j_iconst (pc := 24) dX9_isName_24 ?_
    exact j_zret (pc := 25) ⟨rfl, rfl⟩ dX9_isName_25 rfl (nar_bool (by omega) (by omega)) ⟨_, rfl, ⟨by omega, by omega⟩, rfl, (by first | exact (nmk_f (by omega)).symm | exact (nm_len (by omega)).symm.trans (nmk_t (by omega)).symm | exact (nm_1 (by omega) (fun k hk => i2 k (by omega))).symm.trans (nmk_t (by omega)).symm | exact (nm_ch (k := j.toNat) (by omega) (by rw [Int.toNat_of_nonneg (by omega)]; omega)).symm.trans (nmk_t (by omega)).symm)⟩
  · refine j_aload_n (pc := 8) dX9_isName_8 rfl rfl ?_
    refine j_getI (pc := 9) fl_X9_69 dX9_isName_9 (a_10 hX) rfl ?_
    have f18 : (0 : Int) ≤ σ 10 5 ∧ σ 10 5 ≤ 400 := hI 10 5
    refine j_aload_n (pc := 12) dX9_isName_12 rfl rfl ?_
    refine j_getI (pc := 13) fl_X9_76 dX9_isName_13 (a_10 hX) rfl ?_
    have f19 : (0 : Int) ≤ σ 10 7 ∧ σ 10 7 ≤ 400 := hI 10 7
    refine j_isub (pc := 16) dX9_isName_16 ?_
    refine j_aload_n (pc := 17) dX9_isName_17 rfl rfl ?_
    refine j_callT (pc := 18) (i := i) (As := []) (st := [vI ((σ 10 5) - (σ 10 7))]) (c_J0_length_8abf5 i hi σ hI) hi mv_X9_98 rfl rfl dX9_isName_18 ⟨Nat.le_of_ble_eq_true rfl, Nat.le_of_ble_eq_true rfl⟩ ⟨Nat.le_refl _, Nat.le_refl _⟩ rfl (Nat.le_of_ble_eq_true rfl) rfl (fun z20 σ21 hz20 => ?_)
    obtain ⟨r23, rfl, hr23, rfl, q22_0⟩ := hz20
    replace q22_0 : r23 = (tw_llen i : Int) := q22_0
    refine j_st (st' := [vI r23, vI ((σ 10 5) - (σ 10 7))]) rfl ?_
    refine j_icmpR_eq (pc := 21) (tgt := 26) ⟨by omega, by omega⟩ ⟨by omega, by omega⟩ dX9_isName_21 rfl (fun h24 => ?_) (fun h24 => ?_)
    · refine j_iconst (pc := 26) dX9_isName_26 ?_
      refine j_istore_n (pc := 27) (i := 2) (ls' := [(0, vR 10), (1, vR (200 + i)), (2, vI 0)]) [1, 2, 0] dX9_isName_27 rfl (Nat.le_of_ble_eq_true rfl) rfl rfl ?_
      refine j_ls (ls' := [(0, vR 10), (1, vR (200 + i)), (2, vI 0)]) [0, 1, 2] rfl ?_
      exact (l_X9_isName hX i hi σ hI (((8 - (0 : Int)).toNat) + 1)) 0 (by (first | decide | exact ⟨by omega, by omega⟩)) (show σ 10 6 = 1 from by omega) (show σ 10 5 - σ 10 7 = (tw_llen i : Int) from by omega) (show ∀ k : Nat, (k : Int) < (0 : Int) → fX σ (σ 10 7 + (k : Int)) = tw_lch i k from (by first | exact (fun k hk => by exfalso; omega) | exact (fun k hk => by rcases (show (k : Int) < j ∨ (k : Int) = j by omega) with z | z; (exact i2 k z); (have e : j.toNat = k := by omega); rw [z, ← e]; omega))) (Nat.lt_succ_self _)
    · refine j_iconst (pc := 24) dX9_isName_24 ?_
      exact j_zret (pc := 25) ⟨rfl, rfl⟩ dX9_isName_25 rfl (nar_bool (by omega) (by omega)) ⟨_, rfl, ⟨by omega, by omega⟩, rfl, (by first | exact (nmk_f (by omega)).symm | exact (nm_len (by omega)).symm.trans (nmk_t (by omega)).symm | exact (nm_1 (by omega) (fun k hk => i2 k (by omega))).symm.trans (nmk_t (by omega)).symm | exact (nm_ch (k := j.toNat) (by omega) (by rw [Int.toNat_of_nonneg (by omega)]; omega)).symm.trans (nmk_t (by omega)).symm)⟩
abbrev q_X9_lineName  (σ : tw_M) : Option tw_V → tw_M → Prop := fun z τ => ∃ r : Int, z = some (vI r) ∧ (-1 ≤ r ∧ r ≤ 10) ∧ σ = τ ∧ (r = lnm (fX σ) (σ 10 6) (σ 10 7) (σ 10 5))
set_option maxHeartbeats 4000000 in
set_option maxRecDepth 100000 in
theorem c_X9_lineName {G : tw_G} (hX : tw_isX G) (σ : tw_M) (hI : tw_I σ) : tw_C G yX9_lineName cX9_lineName 1 (some .int) 5 [vR 10] σ (q_X9_lineName σ) := by
  refine tw_met [(0, vR 10)] (by decide +kernel) rfl (Nat.le_of_ble_eq_true rfl) ?_
  refine j_aload_n (pc := 0) dX9_lineName_0 rfl rfl ?_
  refine j_ldcS (pc := 1) (i := 0) rfl rfl rfl dX9_lineName_1 ?_
  refine j_callV (pc := 3) (As := [vR (200 + 0)]) (st := []) (c_X9_isName hX 0 (show 0 < tw_lit.length from by decide) σ hI) mv_X9_108 rfl rfl rfl (a_10 hX) dX9_lineName_3 ⟨Nat.le_of_ble_eq_true rfl, Nat.le_of_ble_eq_true rfl⟩ ⟨Nat.le_refl _, Nat.le_refl _⟩ rfl (Nat.le_of_ble_eq_true rfl) rfl (fun z1 σ2 hz1 => ?_)
  obtain ⟨r4, rfl, hr4, rfl, q3_0⟩ := hz1
  replace q3_0 : r4 = nmk (fX σ) (σ 10 6) (σ 10 7) (σ 10 5) 0 := q3_0
  refine j_st (st' := [vI r4]) rfl ?_
  refine j_ifR_eq (pc := 6) (tgt := 12) ⟨by omega, by omega⟩ dX9_lineName_6 rfl (fun h5 => ?_) (fun h5 => ?_)
  · refine j_aload_n (pc := 12) dX9_lineName_12 rfl rfl ?_
    refine j_ldcS (pc := 13) (i := 1) rfl rfl rfl dX9_lineName_13 ?_
    refine j_callV (pc := 15) (As := [vR (200 + 1)]) (st := []) (c_X9_isName hX 1 (show 1 < tw_lit.length from by decide) σ hI) mv_X9_108 rfl rfl rfl (a_10 hX) dX9_lineName_15 ⟨Nat.le_of_ble_eq_true rfl, Nat.le_of_ble_eq_true rfl⟩ ⟨Nat.le_refl _, Nat.le_refl _⟩ rfl (Nat.le_of_ble_eq_true rfl) rfl (fun z6 σ7 hz6 => ?_)
    obtain ⟨r9, rfl, hr9, rfl, q8_0⟩ := hz6
    replace q8_0 : r9 = nmk (fX σ) (σ 10 6) (σ 10 7) (σ 10 5) 1 := q8_0
    refine j_st (st' := [vI r9]) rfl ?_
    refine j_ifR_eq (pc := 18) (tgt := 24) ⟨by omega, by omega⟩ dX9_lineName_18 rfl (fun h10 => ?_) (fun h10 => ?_)
    · refine j_aload_n (pc := 24) dX9_lineName_24 rfl rfl ?_
      refine j_ldcS (pc := 25) (i := 2) rfl rfl rfl dX9_lineName_25 ?_
      refine j_callV (pc := 27) (As := [vR (200 + 2)]) (st := []) (c_X9_isName hX 2 (show 2 < tw_lit.length from by decide) σ hI) mv_X9_108 rfl rfl rfl (a_10 hX) dX9_lineName_27 ⟨Nat.le_of_ble_eq_true rfl, Nat.le_of_ble_eq_true rfl⟩ ⟨Nat.le_refl _, Nat.le_refl _⟩ rfl (Nat.le_of_ble_eq_true rfl) rfl (fun z11 σ12 hz11 => ?_)
      obtain ⟨r14, rfl, hr14, rfl, q13_0⟩ := hz11
      replace q13_0 : r14 = nmk (fX σ) (σ 10 6) (σ 10 7) (σ 10 5) 2 := q13_0
      refine j_st (st' := [vI r14]) rfl ?_
      refine j_ifR_eq (pc := 30) (tgt := 35) ⟨by omega, by omega⟩ dX9_lineName_30 rfl (fun h15 => ?_) (fun h15 => ?_)
      · refine j_aload_n (pc := 35) dX9_lineName_35 rfl rfl ?_
        refine j_ldcS (pc := 36) (i := 3) rfl rfl rfl dX9_lineName_36 ?_
        refine j_callV (pc := 38) (As := [vR (200 + 3)]) (st := []) (c_X9_isName hX 3 (show 3 < tw_lit.length from by decide) σ hI) mv_X9_108 rfl rfl rfl (a_10 hX) dX9_lineName_38 ⟨Nat.le_of_ble_eq_true rfl, Nat.le_of_ble_eq_true rfl⟩ ⟨Nat.le_refl _, Nat.le_refl _⟩ rfl (Nat.le_of_ble_eq_true rfl) rfl (fun z16 σ17 hz16 => ?_)
        obtain ⟨r19, rfl, hr19, rfl, q18_0⟩ := hz16
        replace q18_0 : r19 = nmk (fX σ) (σ 10 6) (σ 10 7) (σ 10 5) 3 := q18_0
        refine j_st (st' := [vI r19]) rfl ?_
        refine j_ifR_eq (pc := 41) (tgt := 46) ⟨by omega, by omega⟩ dX9_lineName_41 rfl (fun h20 => ?_) (fun h20 => ?_)
        · refine j_aload_n (pc := 46) dX9_lineName_46 rfl rfl ?_
          refine j_ldcS (pc := 47) (i := 4) rfl rfl rfl dX9_lineName_47 ?_
          refine j_callV (pc := 49) (As := [vR (200 + 4)]) (st := []) (c_X9_isName hX 4 (show 4 < tw_lit.length from by decide) σ hI) mv_X9_108 rfl rfl rfl (a_10 hX) dX9_lineName_49 ⟨Nat.le_of_ble_eq_true rfl, Nat.le_of_ble_eq_true rfl⟩ ⟨Nat.le_refl _, Nat.le_refl _⟩ rfl (Nat.le_of_ble_eq_true rfl) rfl (fun z21 σ22 hz21 => ?_)
          obtain ⟨r24, rfl, hr24, rfl, q23_0⟩ := hz21
          replace q23_0 : r24 = nmk (fX σ) (σ 10 6) (σ 10 7) (σ 10 5) 4 := q23_0
          refine j_st (st' := [vI r24]) rfl ?_
          refine j_ifR_eq (pc := 52) (tgt := 57) ⟨by omega, by omega⟩ dX9_lineName_52 rfl (fun h25 => ?_) (fun h25 => ?_)
          · refine j_aload_n (pc := 57) dX9_lineName_57 rfl rfl ?_
            refine j_ldcS (pc := 58) (i := 5) rfl rfl rfl dX9_lineName_58 ?_
            refine j_callV (pc := 60) (As := [vR (200 + 5)]) (st := []) (c_X9_isName hX 5 (show 5 < tw_lit.length from by decide) σ hI) mv_X9_108 rfl rfl rfl (a_10 hX) dX9_lineName_60 ⟨Nat.le_of_ble_eq_true rfl, Nat.le_of_ble_eq_true rfl⟩ ⟨Nat.le_refl _, Nat.le_refl _⟩ rfl (Nat.le_of_ble_eq_true rfl) rfl (fun z26 σ27 hz26 => ?_)
            obtain ⟨r29, rfl, hr29, rfl, q28_0⟩ := hz26
            replace q28_0 : r29 = nmk (fX σ) (σ 10 6) (σ 10 7) (σ 10 5) 5 := q28_0
            refine j_st (st' := [vI r29]) rfl ?_
            refine j_ifR_eq (pc := 63) (tgt := 68) ⟨by omega, by omega⟩ dX9_lineName_63 rfl (fun h30 => ?_) (fun h30 => ?_)
            · refine j_aload_n (pc := 68) dX9_lineName_68 rfl rfl ?_
              refine j_ldcS (pc := 69) (i := 6) rfl rfl rfl dX9_lineName_69 ?_
              refine j_callV (pc := 71) (As := [vR (200 + 6)]) (st := []) (c_X9_isName hX 6 (show 6 < tw_lit.length from by decide) σ hI) mv_X9_108 rfl rfl rfl (a_10 hX) dX9_lineName_71 ⟨Nat.le_of_ble_eq_true rfl, Nat.le_of_ble_eq_true rfl⟩ ⟨Nat.le_refl _, Nat.le_refl _⟩ rfl (Nat.le_of_ble_eq_true rfl) rfl (fun z31 σ32 hz31 => ?_)
              obtain ⟨r34, rfl, hr34, rfl, q33_0⟩ := hz31
              replace q33_0 : r34 = nmk (fX σ) (σ 10 6) (σ 10 7) (σ 10 5) 6 := q33_0
              refine j_st (st' := [vI r34]) rfl ?_
              refine j_ifR_eq (pc := 74) (tgt := 79) ⟨by omega, by omega⟩ dX9_lineName_74 rfl (fun h35 => ?_) (fun h35 => ?_)
              · refine j_aload_n (pc := 79) dX9_lineName_79 rfl rfl ?_
                refine j_ldcS (pc := 80) (i := 7) rfl rfl rfl dX9_lineName_80 ?_
                refine j_callV (pc := 82) (As := [vR (200 + 7)]) (st := []) (c_X9_isName hX 7 (show 7 < tw_lit.length from by decide) σ hI) mv_X9_108 rfl rfl rfl (a_10 hX) dX9_lineName_82 ⟨Nat.le_of_ble_eq_true rfl, Nat.le_of_ble_eq_true rfl⟩ ⟨Nat.le_refl _, Nat.le_refl _⟩ rfl (Nat.le_of_ble_eq_true rfl) rfl (fun z36 σ37 hz36 => ?_)
                obtain ⟨r39, rfl, hr39, rfl, q38_0⟩ := hz36
                replace q38_0 : r39 = nmk (fX σ) (σ 10 6) (σ 10 7) (σ 10 5) 7 := q38_0
                refine j_st (st' := [vI r39]) rfl ?_
                refine j_ifR_eq (pc := 85) (tgt := 90) ⟨by omega, by omega⟩ dX9_lineName_85 rfl (fun h40 => ?_) (fun h40 => ?_)
                · refine j_aload_n (pc := 90) dX9_lineName_90 rfl rfl ?_
                  refine j_ldcS (pc := 91) (i := 8) rfl rfl rfl dX9_lineName_91 ?_
                  refine j_callV (pc := 93) (As := [vR (200 + 8)]) (st := []) (c_X9_isName hX 8 (show 8 < tw_lit.length from by decide) σ hI) mv_X9_108 rfl rfl rfl (a_10 hX) dX9_lineName_93 ⟨Nat.le_of_ble_eq_true rfl, Nat.le_of_ble_eq_true rfl⟩ ⟨Nat.le_refl _, Nat.le_refl _⟩ rfl (Nat.le_of_ble_eq_true rfl) rfl (fun z41 σ42 hz41 => ?_)
                  obtain ⟨r44, rfl, hr44, rfl, q43_0⟩ := hz41
                  replace q43_0 : r44 = nmk (fX σ) (σ 10 6) (σ 10 7) (σ 10 5) 8 := q43_0
                  refine j_st (st' := [vI r44]) rfl ?_
                  refine j_ifR_eq (pc := 96) (tgt := 102) ⟨by omega, by omega⟩ dX9_lineName_96 rfl (fun h45 => ?_) (fun h45 => ?_)
                  · refine j_aload_n (pc := 102) dX9_lineName_102 rfl rfl ?_
                    refine j_ldcS (pc := 103) (i := 9) rfl rfl rfl dX9_lineName_103 ?_
                    refine j_callV (pc := 105) (As := [vR (200 + 9)]) (st := []) (c_X9_isName hX 9 (show 9 < tw_lit.length from by decide) σ hI) mv_X9_108 rfl rfl rfl (a_10 hX) dX9_lineName_105 ⟨Nat.le_of_ble_eq_true rfl, Nat.le_of_ble_eq_true rfl⟩ ⟨Nat.le_refl _, Nat.le_refl _⟩ rfl (Nat.le_of_ble_eq_true rfl) rfl (fun z46 σ47 hz46 => ?_)
                    obtain ⟨r49, rfl, hr49, rfl, q48_0⟩ := hz46
                    replace q48_0 : r49 = nmk (fX σ) (σ 10 6) (σ 10 7) (σ 10 5) 9 := q48_0
                    refine j_st (st' := [vI r49]) rfl ?_
                    refine j_ifR_eq (pc := 108) (tgt := 116) ⟨by omega, by omega⟩ dX9_lineName_108 rfl (fun h50 => ?_) (fun h50 => ?_)
                    · refine j_iconst (pc := 116) dX9_lineName_116 ?_
                      exact j_iret (pc := 117) ⟨rfl, rfl⟩ dX9_lineName_117 rfl ⟨_, rfl, ⟨by omega, by omega⟩, rfl, (by rw [lnm_z]; repeat (first | rw [if_pos (by omega)] | rw [if_neg (by omega)]))⟩
                    · refine j_bipush (pc := 111) dX9_lineName_111 rfl ?_
                      refine j_goto (pc := 113) (tgt := 117) dX9_lineName_113 rfl ?_
                      exact j_iret (pc := 117) ⟨rfl, rfl⟩ dX9_lineName_117 rfl ⟨_, rfl, ⟨by omega, by omega⟩, rfl, (by rw [lnm_z]; repeat (first | rw [if_pos (by omega)] | rw [if_neg (by omega)]))⟩
                  · refine j_bipush (pc := 99) dX9_lineName_99 rfl ?_
                    exact j_iret (pc := 101) ⟨rfl, rfl⟩ dX9_lineName_101 rfl ⟨_, rfl, ⟨by omega, by omega⟩, rfl, (by rw [lnm_z]; repeat (first | rw [if_pos (by omega)] | rw [if_neg (by omega)]))⟩
                · refine j_iconst (pc := 88) dX9_lineName_88 ?_
                  exact j_iret (pc := 89) ⟨rfl, rfl⟩ dX9_lineName_89 rfl ⟨_, rfl, ⟨by omega, by omega⟩, rfl, (by rw [lnm_z]; repeat (first | rw [if_pos (by omega)] | rw [if_neg (by omega)]))⟩
              · refine j_iconst (pc := 77) dX9_lineName_77 ?_
                exact j_iret (pc := 78) ⟨rfl, rfl⟩ dX9_lineName_78 rfl ⟨_, rfl, ⟨by omega, by omega⟩, rfl, (by rw [lnm_z]; repeat (first | rw [if_pos (by omega)] | rw [if_neg (by omega)]))⟩
            · refine j_iconst (pc := 66) dX9_lineName_66 ?_
              exact j_iret (pc := 67) ⟨rfl, rfl⟩ dX9_lineName_67 rfl ⟨_, rfl, ⟨by omega, by omega⟩, rfl, (by rw [lnm_z]; repeat (first | rw [if_pos (by omega)] | rw [if_neg (by omega)]))⟩
          · refine j_iconst (pc := 55) dX9_lineName_55 ?_
            exact j_iret (pc := 56) ⟨rfl, rfl⟩ dX9_lineName_56 rfl ⟨_, rfl, ⟨by omega, by omega⟩, rfl, (by rw [lnm_z]; repeat (first | rw [if_pos (by omega)] | rw [if_neg (by omega)]))⟩
        · refine j_iconst (pc := 44) dX9_lineName_44 ?_
          exact j_iret (pc := 45) ⟨rfl, rfl⟩ dX9_lineName_45 rfl ⟨_, rfl, ⟨by omega, by omega⟩, rfl, (by rw [lnm_z]; repeat (first | rw [if_pos (by omega)] | rw [if_neg (by omega)]))⟩
      · refine j_iconst (pc := 33) dX9_lineName_33 ?_
        exact j_iret (pc := 34) ⟨rfl, rfl⟩ dX9_lineName_34 rfl ⟨_, rfl, ⟨by omega, by omega⟩, rfl, (by rw [lnm_z]; repeat (first | rw [if_pos (by omega)] | rw [if_neg (by omega)]))⟩
    · refine j_bipush (pc := 21) dX9_lineName_21 rfl ?_
      exact j_iret (pc := 23) ⟨rfl, rfl⟩ dX9_lineName_23 rfl ⟨_, rfl, ⟨by omega, by omega⟩, rfl, (by rw [lnm_z]; repeat (first | rw [if_pos (by omega)] | rw [if_neg (by omega)]))⟩
  · refine j_bipush (pc := 9) dX9_lineName_9 rfl ?_
    exact j_iret (pc := 11) ⟨rfl, rfl⟩ dX9_lineName_11 rfl ⟨_, rfl, ⟨by omega, by omega⟩, rfl, (by rw [lnm_z]; repeat (first | rw [if_pos (by omega)] | rw [if_neg (by omega)]))⟩
abbrev q_X9_withName  (σ : tw_M) : Option tw_V → tw_M → Prop := fun z τ => ∃ r : Int, z = some (vI r) ∧ (-1 ≤ r ∧ r ≤ 3) ∧ σ = τ ∧ (r = wnm (fX σ) (σ 10 6) (σ 10 7) (σ 10 5))
set_option maxHeartbeats 4000000 in
set_option maxRecDepth 100000 in
theorem c_X9_withName {G : tw_G} (hX : tw_isX G) (σ : tw_M) (hI : tw_I σ) : tw_C G yX9_withName cX9_withName 1 (some .int) 5 [vR 10] σ (q_X9_withName σ) := by
  refine tw_met [(0, vR 10)] (by decide +kernel) rfl (Nat.le_of_ble_eq_true rfl) ?_
  refine j_aload_n (pc := 0) dX9_withName_0 rfl rfl ?_
  refine j_ldcS (pc := 1) (i := 10) rfl rfl rfl dX9_withName_1 ?_
  refine j_callV (pc := 3) (As := [vR (200 + 10)]) (st := []) (c_X9_isName hX 10 (show 10 < tw_lit.length from by decide) σ hI) mv_X9_108 rfl rfl rfl (a_10 hX) dX9_withName_3 ⟨Nat.le_of_ble_eq_true rfl, Nat.le_of_ble_eq_true rfl⟩ ⟨Nat.le_refl _, Nat.le_refl _⟩ rfl (Nat.le_of_ble_eq_true rfl) rfl (fun z1 σ2 hz1 => ?_)
  obtain ⟨r4, rfl, hr4, rfl, q3_0⟩ := hz1
  replace q3_0 : r4 = nmk (fX σ) (σ 10 6) (σ 10 7) (σ 10 5) 10 := q3_0
  refine j_st (st' := [vI r4]) rfl ?_
  refine j_ifR_eq (pc := 6) (tgt := 11) ⟨by omega, by omega⟩ dX9_withName_6 rfl (fun h5 => ?_) (fun h5 => ?_)
  · refine j_aload_n (pc := 11) dX9_withName_11 rfl rfl ?_
    refine j_ldcS (pc := 12) (i := 11) rfl rfl rfl dX9_withName_12 ?_
    refine j_callV (pc := 14) (As := [vR (200 + 11)]) (st := []) (c_X9_isName hX 11 (show 11 < tw_lit.length from by decide) σ hI) mv_X9_108 rfl rfl rfl (a_10 hX) dX9_withName_14 ⟨Nat.le_of_ble_eq_true rfl, Nat.le_of_ble_eq_true rfl⟩ ⟨Nat.le_refl _, Nat.le_refl _⟩ rfl (Nat.le_of_ble_eq_true rfl) rfl (fun z6 σ7 hz6 => ?_)
    obtain ⟨r9, rfl, hr9, rfl, q8_0⟩ := hz6
    replace q8_0 : r9 = nmk (fX σ) (σ 10 6) (σ 10 7) (σ 10 5) 11 := q8_0
    refine j_st (st' := [vI r9]) rfl ?_
    refine j_ifR_eq (pc := 17) (tgt := 22) ⟨by omega, by omega⟩ dX9_withName_17 rfl (fun h10 => ?_) (fun h10 => ?_)
    · refine j_aload_n (pc := 22) dX9_withName_22 rfl rfl ?_
      refine j_ldcS (pc := 23) (i := 12) rfl rfl rfl dX9_withName_23 ?_
      refine j_callV (pc := 25) (As := [vR (200 + 12)]) (st := []) (c_X9_isName hX 12 (show 12 < tw_lit.length from by decide) σ hI) mv_X9_108 rfl rfl rfl (a_10 hX) dX9_withName_25 ⟨Nat.le_of_ble_eq_true rfl, Nat.le_of_ble_eq_true rfl⟩ ⟨Nat.le_refl _, Nat.le_refl _⟩ rfl (Nat.le_of_ble_eq_true rfl) rfl (fun z11 σ12 hz11 => ?_)
      obtain ⟨r14, rfl, hr14, rfl, q13_0⟩ := hz11
      replace q13_0 : r14 = nmk (fX σ) (σ 10 6) (σ 10 7) (σ 10 5) 12 := q13_0
      refine j_st (st' := [vI r14]) rfl ?_
      refine j_ifR_eq (pc := 28) (tgt := 33) ⟨by omega, by omega⟩ dX9_withName_28 rfl (fun h15 => ?_) (fun h15 => ?_)
      · refine j_aload_n (pc := 33) dX9_withName_33 rfl rfl ?_
        refine j_ldcS (pc := 34) (i := 13) rfl rfl rfl dX9_withName_34 ?_
        refine j_callV (pc := 36) (As := [vR (200 + 13)]) (st := []) (c_X9_isName hX 13 (show 13 < tw_lit.length from by decide) σ hI) mv_X9_108 rfl rfl rfl (a_10 hX) dX9_withName_36 ⟨Nat.le_of_ble_eq_true rfl, Nat.le_of_ble_eq_true rfl⟩ ⟨Nat.le_refl _, Nat.le_refl _⟩ rfl (Nat.le_of_ble_eq_true rfl) rfl (fun z16 σ17 hz16 => ?_)
        obtain ⟨r19, rfl, hr19, rfl, q18_0⟩ := hz16
        replace q18_0 : r19 = nmk (fX σ) (σ 10 6) (σ 10 7) (σ 10 5) 13 := q18_0
        refine j_st (st' := [vI r19]) rfl ?_
        refine j_ifR_eq (pc := 39) (tgt := 46) ⟨by omega, by omega⟩ dX9_withName_39 rfl (fun h20 => ?_) (fun h20 => ?_)
        · refine j_iconst (pc := 46) dX9_withName_46 ?_
          exact j_iret (pc := 47) ⟨rfl, rfl⟩ dX9_withName_47 rfl ⟨_, rfl, ⟨by omega, by omega⟩, rfl, (by rw [wnm_z]; repeat (first | rw [if_pos (by omega)] | rw [if_neg (by omega)]))⟩
        · refine j_iconst (pc := 42) dX9_withName_42 ?_
          refine j_goto (pc := 43) (tgt := 47) dX9_withName_43 rfl ?_
          exact j_iret (pc := 47) ⟨rfl, rfl⟩ dX9_withName_47 rfl ⟨_, rfl, ⟨by omega, by omega⟩, rfl, (by rw [wnm_z]; repeat (first | rw [if_pos (by omega)] | rw [if_neg (by omega)]))⟩
      · refine j_iconst (pc := 31) dX9_withName_31 ?_
        exact j_iret (pc := 32) ⟨rfl, rfl⟩ dX9_withName_32 rfl ⟨_, rfl, ⟨by omega, by omega⟩, rfl, (by rw [wnm_z]; repeat (first | rw [if_pos (by omega)] | rw [if_neg (by omega)]))⟩
    · refine j_iconst (pc := 20) dX9_withName_20 ?_
      exact j_iret (pc := 21) ⟨rfl, rfl⟩ dX9_withName_21 rfl ⟨_, rfl, ⟨by omega, by omega⟩, rfl, (by rw [wnm_z]; repeat (first | rw [if_pos (by omega)] | rw [if_neg (by omega)]))⟩
  · refine j_iconst (pc := 9) dX9_withName_9 ?_
    exact j_iret (pc := 10) ⟨rfl, rfl⟩ dX9_withName_10 rfl ⟨_, rfl, ⟨by omega, by omega⟩, rfl, (by rw [wnm_z]; repeat (first | rw [if_pos (by omega)] | rw [if_neg (by omega)]))⟩
abbrev q_X9_lineEnd  (σ : tw_M) : Option tw_V → tw_M → Prop := fun z τ => z = none ∧ tw_I τ ∧ tw_F (fun c j => (c = 10 ∧ (j = 5 ∨ j = 6 ∨ j = 7 ∨ j = 8 ∨ j = 11 ∨ j = 12))) σ τ ∧ (aX τ = tok (fX σ) (need (decide ((aX σ) 2 = 3)) 2 (aX σ))) ∧ (¬ σ 10 5 ≤ σ 10 10 ∨ τ 10 5 ≤ σ 10 10) ∧ (¬ σ 10 5 ≤ σ 10 10 ∨ ¬ τ 10 11 = 0 ∨ ¬ τ 10 6 = 0 ∨ τ 10 7 = σ 10 10) ∧ (¬ τ 10 11 = 0 ∨ (σ 10 11 = 0 ∧ σ 10 5 ≤ τ 10 5 ∧ (τ 10 6 = 0 ∨ σ 10 5 < τ 10 5)))
set_option maxHeartbeats 4000000 in
set_option maxRecDepth 100000 in
theorem c_X9_lineEnd {G : tw_G} (hX : tw_isX G) (σ : tw_M) (hI : tw_I σ) : tw_C G yX9_lineEnd cX9_lineEnd 1 none 3 [vR 10] σ (q_X9_lineEnd σ) := by
  refine tw_met [(0, vR 10)] (by decide +kernel) rfl (Nat.le_of_ble_eq_true rfl) ?_
  refine j_aload_n (pc := 0) dX9_lineEnd_0 rfl rfl ?_
  refine j_getI (pc := 1) fl_X9_48 dX9_lineEnd_1 (a_10 hX) rfl ?_
  have f1 : (0 : Int) ≤ σ 10 6 ∧ σ 10 6 ≤ 3 := hI 10 6
  refine j_iconst (pc := 4) dX9_lineEnd_4 ?_
  refine j_icmpR_eq (pc := 5) (tgt := 17) ⟨by omega, by omega⟩ ⟨by omega, by omega⟩ dX9_lineEnd_5 rfl (fun h2 => ?_) (fun h2 => ?_)
  · have c1 := stop_t (σ := σ) (by omega)
    have fz : fX σ = fX σ := by first | rfl | exact fX_F ((tw_F_rf) 10 10 (show ¬ ((10 = 10 ∧ (10 = 5 ∨ 10 = 6 ∨ 10 = 7 ∨ 10 = 8 ∨ 10 = 11 ∨ 10 = 12))) from by decide)) (fun j => (tw_F_rf) 11 j (show ¬ ((11 = 10 ∧ (j = 5 ∨ j = 6 ∨ j = 7 ∨ j = 8 ∨ j = 11 ∨ j = 12))) from fun h => absurd h.1 (by decide)))
    refine j_aload_n (pc := 17) dX9_lineEnd_17 rfl rfl ?_
    refine j_callV (pc := 18) (As := []) (st := []) (c_X9_advance hX σ hI) mv_X9_45 rfl rfl rfl (a_10 hX) dX9_lineEnd_18 ⟨Nat.le_of_ble_eq_true rfl, Nat.le_of_ble_eq_true rfl⟩ ⟨Nat.le_refl _, Nat.le_refl _⟩ rfl (Nat.le_of_ble_eq_true rfl) rfl (fun z3 σ4 hz3 => ?_)
    obtain ⟨rfl, hIσ4, hGσ4, q5_0, q5_1, q5_2, q5_3⟩ := hz3
    replace q5_0 : aX σ4 = tok (fX σ) (aX σ) := q5_0
    replace q5_1 : ¬ σ 10 5 ≤ σ 10 10 ∨ σ4 10 5 ≤ σ 10 10 := q5_1
    replace q5_2 : ¬ σ 10 5 ≤ σ 10 10 ∨ ¬ σ4 10 11 = 0 ∨ ¬ σ4 10 6 = 0 ∨ σ4 10 7 = σ 10 10 := q5_2
    replace q5_3 : ¬ σ4 10 11 = 0 ∨ (σ 10 11 = 0 ∧ σ 10 5 ≤ σ4 10 5 ∧ (σ4 10 6 = 0 ∨ σ 10 5 < σ4 10 5)) := q5_3
    have hFσ4 : tw_F (fun c j => (c = 10 ∧ (j = 5 ∨ j = 6 ∨ j = 7 ∨ j = 8 ∨ j = 11 ∨ j = 12))) σ σ4 := tw_F_tr (tw_F_rf) hGσ4 (fun c j q => (show (c = 10 ∧ (j = 5 ∨ j = 6 ∨ j = 7 ∨ j = 8 ∨ j = 11 ∨ j = 12)) from by replace q : (c = 10 ∧ (j = 5 ∨ j = 6 ∨ j = 7 ∨ j = 8 ∨ j = 11 ∨ j = 12)) := q; exact q))
    refine j_st (st' := []) rfl ?_
    have c2 := q5_0; rw [fz, c1] at c2
    exact j_vret (pc := 21) ⟨rfl, rfl⟩ dX9_lineEnd_21 rfl ⟨rfl, hIσ4, hFσ4, c2, by omega, by omega, by omega⟩
  · refine j_aload_n (pc := 8) dX9_lineEnd_8 rfl rfl ?_
    refine j_iconst (pc := 9) dX9_lineEnd_9 ?_
    refine j_aload_n (pc := 10) dX9_lineEnd_10 rfl rfl ?_
    refine j_getI (pc := 11) fl_X9_76 dX9_lineEnd_11 (a_10 hX) rfl ?_
    have f7 : (0 : Int) ≤ σ 10 7 ∧ σ 10 7 ≤ 400 := hI 10 7
    refine j_callV (pc := 14) (As := [vI 2, vI (σ 10 7)]) (st := []) (c_X9_fail hX 2 (by (first | decide | exact ⟨by omega, by omega⟩)) (σ 10 7) ⟨by omega, by omega⟩ σ hI) mv_X9_61 rfl rfl rfl (a_10 hX) dX9_lineEnd_14 ⟨Nat.le_of_ble_eq_true rfl, Nat.le_of_ble_eq_true rfl⟩ ⟨Nat.le_refl _, Nat.le_refl _⟩ rfl (Nat.le_of_ble_eq_true rfl) rfl (fun z8 σ9 hz8 => ?_)
    obtain ⟨rfl, hIσ9, hGσ9, q10_0⟩ := hz8
    replace q10_0 : (σ 10 11 = 0 ∧ σ9 10 11 = (2 : Int) ∧ σ9 10 12 = (σ 10 7)) ∨ (¬ σ 10 11 = 0 ∧ σ9 10 11 = σ 10 11 ∧ σ9 10 12 = σ 10 12) := q10_0
    have hFσ9 : tw_F (fun c j => (c = 10 ∧ (j = 5 ∨ j = 6 ∨ j = 7 ∨ j = 8 ∨ j = 11 ∨ j = 12))) σ σ9 := tw_F_tr (tw_F_rf) hGσ9 (fun c j q => (show (c = 10 ∧ (j = 5 ∨ j = 6 ∨ j = 7 ∨ j = 8 ∨ j = 11 ∨ j = 12)) from by replace q : (c = 10 ∧ (j = 11 ∨ j = 12)) := q; exact ⟨q.1, (q.2.elim (fun z => (Or.inr (Or.inr (Or.inr (Or.inr (Or.inl z)))))) (fun z => (Or.inr (Or.inr (Or.inr (Or.inr (Or.inr z)))))))⟩))
    refine j_st (st' := []) rfl ?_
    have c1 := stop_f (τ := σ9) (σ := σ) (by omega) (by omega)
    have fz : fX σ9 = fX σ := by first | rfl | exact fX_F (hFσ9 10 10 (show ¬ ((10 = 10 ∧ (10 = 5 ∨ 10 = 6 ∨ 10 = 7 ∨ 10 = 8 ∨ 10 = 11 ∨ 10 = 12))) from by decide)) (fun j => hFσ9 11 j (show ¬ ((11 = 10 ∧ (j = 5 ∨ j = 6 ∨ j = 7 ∨ j = 8 ∨ j = 11 ∨ j = 12))) from fun h => absurd h.1 (by decide)))
    refine j_aload_n (pc := 17) dX9_lineEnd_17 rfl rfl ?_
    refine j_callV (pc := 18) (As := []) (st := []) (c_X9_advance hX σ9 hIσ9) mv_X9_45 rfl rfl rfl (a_10 hX) dX9_lineEnd_18 ⟨Nat.le_of_ble_eq_true rfl, Nat.le_of_ble_eq_true rfl⟩ ⟨Nat.le_refl _, Nat.le_refl _⟩ rfl (Nat.le_of_ble_eq_true rfl) rfl (fun z12 σ13 hz12 => ?_)
    obtain ⟨rfl, hIσ13, hGσ13, q14_0, q14_1, q14_2, q14_3⟩ := hz12
    replace q14_0 : aX σ13 = tok (fX σ9) (aX σ9) := q14_0
    replace q14_1 : ¬ σ9 10 5 ≤ σ9 10 10 ∨ σ13 10 5 ≤ σ9 10 10 := q14_1
    have y16 : σ9 10 5 = σ 10 5 := (hGσ9 10 5 (show ¬ ((10 = 10 ∧ (5 = 11 ∨ 5 = 12))) from by decide))
    have f17 : (0 : Int) ≤ σ 10 5 ∧ σ 10 5 ≤ 400 := hI 10 5
    have y18 : σ9 10 10 = σ 10 10 := (hGσ9 10 10 (show ¬ ((10 = 10 ∧ (10 = 11 ∨ 10 = 12))) from by decide))
    have f19 : (0 : Int) ≤ σ 10 10 ∧ σ 10 10 ≤ 400 := hI 10 10
    replace q14_2 : ¬ σ9 10 5 ≤ σ9 10 10 ∨ ¬ σ13 10 11 = 0 ∨ ¬ σ13 10 6 = 0 ∨ σ13 10 7 = σ9 10 10 := q14_2
    have y20 : σ9 10 5 = σ 10 5 := (hGσ9 10 5 (show ¬ ((10 = 10 ∧ (5 = 11 ∨ 5 = 12))) from by decide))
    have y21 : σ9 10 10 = σ 10 10 := (hGσ9 10 10 (show ¬ ((10 = 10 ∧ (10 = 11 ∨ 10 = 12))) from by decide))
    replace q14_3 : ¬ σ13 10 11 = 0 ∨ (σ9 10 11 = 0 ∧ σ9 10 5 ≤ σ13 10 5 ∧ (σ13 10 6 = 0 ∨ σ9 10 5 < σ13 10 5)) := q14_3
    have y22 : σ9 10 5 = σ 10 5 := (hGσ9 10 5 (show ¬ ((10 = 10 ∧ (5 = 11 ∨ 5 = 12))) from by decide))
    have hFσ13 : tw_F (fun c j => (c = 10 ∧ (j = 5 ∨ j = 6 ∨ j = 7 ∨ j = 8 ∨ j = 11 ∨ j = 12))) σ σ13 := tw_F_tr hFσ9 hGσ13 (fun c j q => (show (c = 10 ∧ (j = 5 ∨ j = 6 ∨ j = 7 ∨ j = 8 ∨ j = 11 ∨ j = 12)) from by replace q : (c = 10 ∧ (j = 5 ∨ j = 6 ∨ j = 7 ∨ j = 8 ∨ j = 11 ∨ j = 12)) := q; exact q))
    refine j_st (st' := []) rfl ?_
    have c2 := q14_0; rw [fz, c1] at c2
    exact j_vret (pc := 21) ⟨rfl, rfl⟩ dX9_lineEnd_21 rfl ⟨rfl, hIσ13, hFσ13, c2, by omega, by omega, by omega⟩
abbrev q_X9_number (a : Int) (b : Int) (σ : tw_M) : Option tw_V → tw_M → Prop := fun z τ => ∃ r : Int, z = some (vI r) ∧ (-2147483648 ≤ r ∧ r ≤ 2147483647) ∧ tw_I τ ∧ tw_F (fun c j => (c = 10 ∧ (j = 11 ∨ j = 12))) σ τ ∧ (a ≤ r ∧ r ≤ b) ∧ (aX τ = numS a b (aX σ)) ∧ (¬ τ 10 11 = 0 ∨ r = σ 10 8) ∧ (¬ τ 10 11 = 0 ∨ σ 10 11 = 0) ∧ (True ∨ σ 10 6 = τ 10 12) ∧ (¬ τ 10 11 = 0 ∨ σ 10 6 = 2)
set_option maxHeartbeats 4000000 in
set_option maxRecDepth 100000 in
theorem c_X9_number {G : tw_G} (hX : tw_isX G) (a : Int) (ha : -2147483648 ≤ a ∧ a ≤ 2147483647) (b : Int) (hb : -2147483648 ≤ b ∧ b ≤ 2147483647) (σ : tw_M) (hI : tw_I σ) (hq0 : a ≤ b) : tw_C G yX9_number cX9_number 3 (some .int) 1 [vR 10, vI a, vI b] σ (q_X9_number a b σ) := by
  refine tw_met [(0, vR 10), (1, vI a), (2, vI b)] (by decide +kernel) rfl (Nat.le_of_ble_eq_true rfl) ?_
  refine j_aload_n (pc := 0) dX9_number_0 rfl rfl ?_
  refine j_getI (pc := 1) fl_X9_33 dX9_number_1 (a_10 hX) rfl ?_
  have f1 : (0 : Int) ≤ σ 10 11 ∧ σ 10 11 ≤ 5 := hI 10 11
  refine j_ifR_eq (pc := 4) (tgt := 9) ⟨by omega, by omega⟩ dX9_number_4 rfl (fun h2 => ?_) (fun h2 => ?_)
  · refine j_aload_n (pc := 9) dX9_number_9 rfl rfl ?_
    refine j_getI (pc := 10) fl_X9_48 dX9_number_10 (a_10 hX) rfl ?_
    have f3 : (0 : Int) ≤ σ 10 6 ∧ σ 10 6 ≤ 3 := hI 10 6
    refine j_iconst (pc := 13) dX9_number_13 ?_
    refine j_icmpR_eq (pc := 14) (tgt := 29) ⟨by omega, by omega⟩ ⟨by omega, by omega⟩ dX9_number_14 rfl (fun h4 => ?_) (fun h4 => ?_)
    · refine j_aload_n (pc := 29) dX9_number_29 rfl rfl ?_
      refine j_getI (pc := 30) fl_X9_95 dX9_number_30 (a_10 hX) rfl ?_
      have f5 : (0 : Int) ≤ σ 10 8 ∧ σ 10 8 ≤ 999 := hI 10 8
      refine j_iload_n (pc := 33) dX9_number_33 rfl rfl ?_
      refine j_icmpR_lt (pc := 34) (tgt := 45) ⟨by omega, by omega⟩ ⟨by omega, by omega⟩ dX9_number_34 rfl (fun h6 => ?_) (fun h6 => ?_)
      · refine j_aload_n (pc := 45) dX9_number_45 rfl rfl ?_
        refine j_iconst (pc := 46) dX9_number_46 ?_
        refine j_aload_n (pc := 47) dX9_number_47 rfl rfl ?_
        refine j_getI (pc := 48) fl_X9_76 dX9_number_48 (a_10 hX) rfl ?_
        have f7 : (0 : Int) ≤ σ 10 7 ∧ σ 10 7 ≤ 400 := hI 10 7
        refine j_callV (pc := 51) (As := [vI 3, vI (σ 10 7)]) (st := []) (c_X9_fail hX 3 (by (first | decide | exact ⟨by omega, by omega⟩)) (σ 10 7) ⟨by omega, by omega⟩ σ hI) mv_X9_61 rfl rfl rfl (a_10 hX) dX9_number_51 ⟨Nat.le_of_ble_eq_true rfl, Nat.le_of_ble_eq_true rfl⟩ ⟨Nat.le_refl _, Nat.le_refl _⟩ rfl (Nat.le_of_ble_eq_true rfl) rfl (fun z8 σ9 hz8 => ?_)
        obtain ⟨rfl, hIσ9, hGσ9, q10_0⟩ := hz8
        replace q10_0 : (σ 10 11 = 0 ∧ σ9 10 11 = (3 : Int) ∧ σ9 10 12 = (σ 10 7)) ∨ (¬ σ 10 11 = 0 ∧ σ9 10 11 = σ 10 11 ∧ σ9 10 12 = σ 10 12) := q10_0
        have hFσ9 : tw_F (fun c j => (c = 10 ∧ (j = 11 ∨ j = 12))) σ σ9 := tw_F_tr (tw_F_rf) hGσ9 (fun c j q => (show (c = 10 ∧ (j = 11 ∨ j = 12)) from by replace q : (c = 10 ∧ (j = 11 ∨ j = 12)) := q; exact q))
        refine j_st (st' := []) rfl ?_
        refine j_aload_n (pc := 54) dX9_number_54 rfl rfl ?_
        refine j_getI (pc := 55) fl_X9_33 dX9_number_55 (a_10 hX) rfl ?_
        have f12 : (0 : Int) ≤ σ9 10 11 ∧ σ9 10 11 ≤ 5 := hIσ9 10 11
        refine j_ifR_ne (pc := 58) (tgt := 68) ⟨by omega, by omega⟩ dX9_number_58 rfl (fun h13 => ?_) (fun h13 => ?_)
        · refine j_iload_n (pc := 68) dX9_number_68 rfl rfl ?_
          exact j_iret (pc := 69) ⟨rfl, rfl⟩ dX9_number_69 rfl ⟨_, rfl, ⟨by omega, by omega⟩, hIσ9, hFσ9, by omega, (by first | exact aX_num_no (by omega) | exact aX_num_ok (by omega) (by omega) ⟨by omega, by omega⟩ | exact aX_num_sort (by omega) (by omega) ⟨by omega, by omega⟩ | exact aX_num_out (by omega) (by omega) (by omega) ⟨by omega, by omega⟩), by omega, by omega, Or.inl trivial, by omega⟩
        · refine j_aload_n (pc := 61) dX9_number_61 rfl rfl ?_
          refine j_getI (pc := 62) fl_X9_95 dX9_number_62 (a_10 hX) rfl ?_
          refine j_topV (show σ9 10 8 = σ 10 8 from (hGσ9 10 8 (show ¬ ((10 = 10 ∧ (8 = 11 ∨ 8 = 12))) from by decide))) ?_
          refine j_goto (pc := 65) (tgt := 69) dX9_number_65 rfl ?_
          exact j_iret (pc := 69) ⟨rfl, rfl⟩ dX9_number_69 rfl ⟨_, rfl, ⟨by omega, by omega⟩, hIσ9, hFσ9, by omega, (by first | exact aX_num_no (by omega) | exact aX_num_ok (by omega) (by omega) ⟨by omega, by omega⟩ | exact aX_num_sort (by omega) (by omega) ⟨by omega, by omega⟩ | exact aX_num_out (by omega) (by omega) (by omega) ⟨by omega, by omega⟩), by omega, by omega, Or.inl trivial, by omega⟩
      · refine j_aload_n (pc := 37) dX9_number_37 rfl rfl ?_
        refine j_getI (pc := 38) fl_X9_95 dX9_number_38 (a_10 hX) rfl ?_
        refine j_iload_n (pc := 41) dX9_number_41 rfl rfl ?_
        refine j_icmpR_le (pc := 42) (tgt := 54) ⟨by omega, by omega⟩ ⟨by omega, by omega⟩ dX9_number_42 rfl (fun h14 => ?_) (fun h14 => ?_)
        · refine j_aload_n (pc := 54) dX9_number_54 rfl rfl ?_
          refine j_getI (pc := 55) fl_X9_33 dX9_number_55 (a_10 hX) rfl ?_
          refine j_ifR_ne (pc := 58) (tgt := 68) ⟨by omega, by omega⟩ dX9_number_58 rfl (fun h15 => by exfalso; omega) (fun h15 => ?_)
          refine j_aload_n (pc := 61) dX9_number_61 rfl rfl ?_
          refine j_getI (pc := 62) fl_X9_95 dX9_number_62 (a_10 hX) rfl ?_
          refine j_goto (pc := 65) (tgt := 69) dX9_number_65 rfl ?_
          exact j_iret (pc := 69) ⟨rfl, rfl⟩ dX9_number_69 rfl ⟨_, rfl, ⟨by omega, by omega⟩, hI, (tw_F_rf), by omega, (by first | exact aX_num_no (by omega) | exact aX_num_ok (by omega) (by omega) ⟨by omega, by omega⟩ | exact aX_num_sort (by omega) (by omega) ⟨by omega, by omega⟩ | exact aX_num_out (by omega) (by omega) (by omega) ⟨by omega, by omega⟩), by omega, by omega, Or.inl trivial, by omega⟩
        · refine j_aload_n (pc := 45) dX9_number_45 rfl rfl ?_
          refine j_iconst (pc := 46) dX9_number_46 ?_
          refine j_aload_n (pc := 47) dX9_number_47 rfl rfl ?_
          refine j_getI (pc := 48) fl_X9_76 dX9_number_48 (a_10 hX) rfl ?_
          have f16 : (0 : Int) ≤ σ 10 7 ∧ σ 10 7 ≤ 400 := hI 10 7
          refine j_callV (pc := 51) (As := [vI 3, vI (σ 10 7)]) (st := []) (c_X9_fail hX 3 (by (first | decide | exact ⟨by omega, by omega⟩)) (σ 10 7) ⟨by omega, by omega⟩ σ hI) mv_X9_61 rfl rfl rfl (a_10 hX) dX9_number_51 ⟨Nat.le_of_ble_eq_true rfl, Nat.le_of_ble_eq_true rfl⟩ ⟨Nat.le_refl _, Nat.le_refl _⟩ rfl (Nat.le_of_ble_eq_true rfl) rfl (fun z17 σ18 hz17 => ?_)
          obtain ⟨rfl, hIσ18, hGσ18, q19_0⟩ := hz17
          replace q19_0 : (σ 10 11 = 0 ∧ σ18 10 11 = (3 : Int) ∧ σ18 10 12 = (σ 10 7)) ∨ (¬ σ 10 11 = 0 ∧ σ18 10 11 = σ 10 11 ∧ σ18 10 12 = σ 10 12) := q19_0
          have hFσ18 : tw_F (fun c j => (c = 10 ∧ (j = 11 ∨ j = 12))) σ σ18 := tw_F_tr (tw_F_rf) hGσ18 (fun c j q => (show (c = 10 ∧ (j = 11 ∨ j = 12)) from by replace q : (c = 10 ∧ (j = 11 ∨ j = 12)) := q; exact q))
          refine j_st (st' := []) rfl ?_
          refine j_aload_n (pc := 54) dX9_number_54 rfl rfl ?_
          refine j_getI (pc := 55) fl_X9_33 dX9_number_55 (a_10 hX) rfl ?_
          have f21 : (0 : Int) ≤ σ18 10 11 ∧ σ18 10 11 ≤ 5 := hIσ18 10 11
          refine j_ifR_ne (pc := 58) (tgt := 68) ⟨by omega, by omega⟩ dX9_number_58 rfl (fun h22 => ?_) (fun h22 => ?_)
          · refine j_iload_n (pc := 68) dX9_number_68 rfl rfl ?_
            exact j_iret (pc := 69) ⟨rfl, rfl⟩ dX9_number_69 rfl ⟨_, rfl, ⟨by omega, by omega⟩, hIσ18, hFσ18, by omega, (by first | exact aX_num_no (by omega) | exact aX_num_ok (by omega) (by omega) ⟨by omega, by omega⟩ | exact aX_num_sort (by omega) (by omega) ⟨by omega, by omega⟩ | exact aX_num_out (by omega) (by omega) (by omega) ⟨by omega, by omega⟩), by omega, by omega, Or.inl trivial, by omega⟩
          · refine j_aload_n (pc := 61) dX9_number_61 rfl rfl ?_
            refine j_getI (pc := 62) fl_X9_95 dX9_number_62 (a_10 hX) rfl ?_
            refine j_topV (show σ18 10 8 = σ 10 8 from (hGσ18 10 8 (show ¬ ((10 = 10 ∧ (8 = 11 ∨ 8 = 12))) from by decide))) ?_
            refine j_goto (pc := 65) (tgt := 69) dX9_number_65 rfl ?_
            exact j_iret (pc := 69) ⟨rfl, rfl⟩ dX9_number_69 rfl ⟨_, rfl, ⟨by omega, by omega⟩, hIσ18, hFσ18, by omega, (by first | exact aX_num_no (by omega) | exact aX_num_ok (by omega) (by omega) ⟨by omega, by omega⟩ | exact aX_num_sort (by omega) (by omega) ⟨by omega, by omega⟩ | exact aX_num_out (by omega) (by omega) (by omega) ⟨by omega, by omega⟩), by omega, by omega, Or.inl trivial, by omega⟩
    · refine j_aload_n (pc := 17) dX9_number_17 rfl rfl ?_
      refine j_iconst (pc := 18) dX9_number_18 ?_
      refine j_aload_n (pc := 19) dX9_number_19 rfl rfl ?_
      refine j_getI (pc := 20) fl_X9_76 dX9_number_20 (a_10 hX) rfl ?_
      have f23 : (0 : Int) ≤ σ 10 7 ∧ σ 10 7 ≤ 400 := hI 10 7
      refine j_callV (pc := 23) (As := [vI 2, vI (σ 10 7)]) (st := []) (c_X9_fail hX 2 (by (first | decide | exact ⟨by omega, by omega⟩)) (σ 10 7) ⟨by omega, by omega⟩ σ hI) mv_X9_61 rfl rfl rfl (a_10 hX) dX9_number_23 ⟨Nat.le_of_ble_eq_true rfl, Nat.le_of_ble_eq_true rfl⟩ ⟨Nat.le_refl _, Nat.le_refl _⟩ rfl (Nat.le_of_ble_eq_true rfl) rfl (fun z24 σ25 hz24 => ?_)
      obtain ⟨rfl, hIσ25, hGσ25, q26_0⟩ := hz24
      replace q26_0 : (σ 10 11 = 0 ∧ σ25 10 11 = (2 : Int) ∧ σ25 10 12 = (σ 10 7)) ∨ (¬ σ 10 11 = 0 ∧ σ25 10 11 = σ 10 11 ∧ σ25 10 12 = σ 10 12) := q26_0
      have hFσ25 : tw_F (fun c j => (c = 10 ∧ (j = 11 ∨ j = 12))) σ σ25 := tw_F_tr (tw_F_rf) hGσ25 (fun c j q => (show (c = 10 ∧ (j = 11 ∨ j = 12)) from by replace q : (c = 10 ∧ (j = 11 ∨ j = 12)) := q; exact q))
      refine j_st (st' := []) rfl ?_
      refine j_goto (pc := 26) (tgt := 54) dX9_number_26 rfl ?_
      refine j_aload_n (pc := 54) dX9_number_54 rfl rfl ?_
      refine j_getI (pc := 55) fl_X9_33 dX9_number_55 (a_10 hX) rfl ?_
      have f28 : (0 : Int) ≤ σ25 10 11 ∧ σ25 10 11 ≤ 5 := hIσ25 10 11
      refine j_ifR_ne (pc := 58) (tgt := 68) ⟨by omega, by omega⟩ dX9_number_58 rfl (fun h29 => ?_) (fun h29 => ?_)
      · refine j_iload_n (pc := 68) dX9_number_68 rfl rfl ?_
        exact j_iret (pc := 69) ⟨rfl, rfl⟩ dX9_number_69 rfl ⟨_, rfl, ⟨by omega, by omega⟩, hIσ25, hFσ25, by omega, (by first | exact aX_num_no (by omega) | exact aX_num_ok (by omega) (by omega) ⟨by omega, by omega⟩ | exact aX_num_sort (by omega) (by omega) ⟨by omega, by omega⟩ | exact aX_num_out (by omega) (by omega) (by omega) ⟨by omega, by omega⟩), by omega, by omega, Or.inl trivial, by omega⟩
      · refine j_aload_n (pc := 61) dX9_number_61 rfl rfl ?_
        refine j_getI (pc := 62) fl_X9_95 dX9_number_62 (a_10 hX) rfl ?_
        refine j_topV (show σ25 10 8 = σ 10 8 from (hGσ25 10 8 (show ¬ ((10 = 10 ∧ (8 = 11 ∨ 8 = 12))) from by decide))) ?_
        have f30 : (0 : Int) ≤ σ 10 8 ∧ σ 10 8 ≤ 999 := hI 10 8
        refine j_goto (pc := 65) (tgt := 69) dX9_number_65 rfl ?_
        exact j_iret (pc := 69) ⟨rfl, rfl⟩ dX9_number_69 rfl ⟨_, rfl, ⟨by omega, by omega⟩, hIσ25, hFσ25, by omega, (by first | exact aX_num_no (by omega) | exact aX_num_ok (by omega) (by omega) ⟨by omega, by omega⟩ | exact aX_num_sort (by omega) (by omega) ⟨by omega, by omega⟩ | exact aX_num_out (by omega) (by omega) (by omega) ⟨by omega, by omega⟩), by omega, by omega, Or.inl trivial, by omega⟩
  · refine j_iload_n (pc := 7) dX9_number_7 rfl rfl ?_
    exact j_iret (pc := 8) ⟨rfl, rfl⟩ dX9_number_8 rfl ⟨_, rfl, ⟨by omega, by omega⟩, hI, (tw_F_rf), by omega, (by first | exact aX_num_no (by omega) | exact aX_num_ok (by omega) (by omega) ⟨by omega, by omega⟩ | exact aX_num_sort (by omega) (by omega) ⟨by omega, by omega⟩ | exact aX_num_out (by omega) (by omega) (by omega) ⟨by omega, by omega⟩), by omega, by omega, Or.inl trivial, by omega⟩
