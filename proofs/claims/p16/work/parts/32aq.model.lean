/-! 32aq.model -/
theorem dX12_count_0 : decode cX12_count 0 = .ok (.iload_n 1, 1) := by decide +kernel
theorem dX12_count_1 : decode cX12_count 1 = .ok (.tableswitch 132 0 8 #[51, 57, 62, 68, 74, 79, 84, 104, 109], 51) := by decide +kernel
theorem dX12_count_52 : decode cX12_count 52 = .ok (.aload_n 0, 1) := by decide +kernel
theorem dX12_count_53 : decode cX12_count 53 = .ok (.iconst 0, 1) := by decide +kernel
theorem dX12_count_54 : decode cX12_count 54 = .ok (.invokevirtual 192, 3) := by decide +kernel
theorem dX12_count_57 : decode cX12_count 57 = .ok (.ireturn, 1) := by decide +kernel
theorem dX12_count_58 : decode cX12_count 58 = .ok (.aload_n 0, 1) := by decide +kernel
theorem dX12_count_59 : decode cX12_count 59 = .ok (.invokevirtual 298, 3) := by decide +kernel
theorem dX12_count_62 : decode cX12_count 62 = .ok (.ireturn, 1) := by decide +kernel
theorem dX12_count_63 : decode cX12_count 63 = .ok (.aload_n 0, 1) := by decide +kernel
theorem dX12_count_64 : decode cX12_count 64 = .ok (.iconst 2, 1) := by decide +kernel
theorem dX12_count_65 : decode cX12_count 65 = .ok (.invokevirtual 386, 3) := by decide +kernel
theorem dX12_count_68 : decode cX12_count 68 = .ok (.ireturn, 1) := by decide +kernel
theorem dX12_count_69 : decode cX12_count 69 = .ok (.aload_n 0, 1) := by decide +kernel
theorem dX12_count_70 : decode cX12_count 70 = .ok (.iconst 3, 1) := by decide +kernel
theorem dX12_count_71 : decode cX12_count 71 = .ok (.invokevirtual 386, 3) := by decide +kernel
theorem dX12_count_74 : decode cX12_count 74 = .ok (.ireturn, 1) := by decide +kernel
theorem dX12_count_75 : decode cX12_count 75 = .ok (.aload_n 0, 1) := by decide +kernel
theorem dX12_count_76 : decode cX12_count 76 = .ok (.invokevirtual 389, 3) := by decide +kernel
theorem dX12_count_79 : decode cX12_count 79 = .ok (.ireturn, 1) := by decide +kernel
theorem dX12_count_80 : decode cX12_count 80 = .ok (.aload_n 0, 1) := by decide +kernel
theorem dX12_count_81 : decode cX12_count 81 = .ok (.invokevirtual 343, 3) := by decide +kernel
theorem dX12_count_84 : decode cX12_count 84 = .ok (.ireturn, 1) := by decide +kernel
theorem dX12_count_85 : decode cX12_count 85 = .ok (.aload_n 0, 1) := by decide +kernel
theorem dX12_count_86 : decode cX12_count 86 = .ok (.getfield 13, 3) := by decide +kernel
theorem dX12_count_89 : decode cX12_count 89 = .ok (.iconst 0, 1) := by decide +kernel
theorem dX12_count_90 : decode cX12_count 90 = .ok (.baload, 1) := by decide +kernel
theorem dX12_count_91 : decode cX12_count 91 = .ok (.invokestatic 168, 3) := by decide +kernel
theorem dX12_count_94 : decode cX12_count 94 = .ok (.aload_n 0, 1) := by decide +kernel
theorem dX12_count_95 : decode cX12_count 95 = .ok (.getfield 13, 3) := by decide +kernel
theorem dX12_count_98 : decode cX12_count 98 = .ok (.iconst 1, 1) := by decide +kernel
theorem dX12_count_99 : decode cX12_count 99 = .ok (.baload, 1) := by decide +kernel
theorem dX12_count_100 : decode cX12_count 100 = .ok (.invokestatic 168, 3) := by decide +kernel
theorem dX12_count_103 : decode cX12_count 103 = .ok (.iadd, 1) := by decide +kernel
theorem dX12_count_104 : decode cX12_count 104 = .ok (.ireturn, 1) := by decide +kernel
theorem dX12_count_105 : decode cX12_count 105 = .ok (.aload_n 0, 1) := by decide +kernel
theorem dX12_count_106 : decode cX12_count 106 = .ok (.getfield 86, 3) := by decide +kernel
theorem dX12_count_109 : decode cX12_count 109 = .ok (.ireturn, 1) := by decide +kernel
theorem dX12_count_110 : decode cX12_count 110 = .ok (.aload_n 0, 1) := by decide +kernel
theorem dX12_count_111 : decode cX12_count 111 = .ok (.getfield 56, 3) := by decide +kernel
theorem dX12_count_114 : decode cX12_count 114 = .ok (.iconst 0, 1) := by decide +kernel
theorem dX12_count_115 : decode cX12_count 115 = .ok (.iaload, 1) := by decide +kernel
theorem dX12_count_116 : decode cX12_count 116 = .ok (.bipush (-4), 2) := by decide +kernel
theorem dX12_count_118 : decode cX12_count 118 = .ok (.if_icmp .ne 8, 3) := by decide +kernel
theorem dX12_count_121 : decode cX12_count 121 = .ok (.bipush (-4), 2) := by decide +kernel
theorem dX12_count_123 : decode cX12_count 123 = .ok (.goto 9, 3) := by decide +kernel
theorem dX12_count_126 : decode cX12_count 126 = .ok (.aload_n 0, 1) := by decide +kernel
theorem dX12_count_127 : decode cX12_count 127 = .ok (.getfield 59, 3) := by decide +kernel
theorem dX12_count_130 : decode cX12_count 130 = .ok (.iconst 0, 1) := by decide +kernel
theorem dX12_count_131 : decode cX12_count 131 = .ok (.iaload, 1) := by decide +kernel
theorem dX12_count_132 : decode cX12_count 132 = .ok (.ireturn, 1) := by decide +kernel
theorem dX12_count_133 : decode cX12_count 133 = .ok (.iconst (-1), 1) := by decide +kernel
theorem dX12_count_134 : decode cX12_count 134 = .ok (.ireturn, 1) := by decide +kernel
abbrev q_X12_count (w : Int) (σ : tw_M) : Option tw_V → tw_M → Prop := fun z τ => ∃ r : Int, z = some (vI r) ∧ (-2147483648 ≤ r ∧ r ≤ 2147483647) ∧ σ = τ ∧ True
set_option maxHeartbeats 4000000 in
set_option maxRecDepth 100000 in
theorem c_X12_count {G : tw_G} (hM : tw_isM G) (w : Int) (hw : -2147483648 ≤ w ∧ w ≤ 2147483647) (σ : tw_M) (hI : tw_I σ) : tw_C G yX12_count cX12_count 2 (some .int) 3 [vR 88, vI w] σ (q_X12_count w σ) := by
  refine tw_met [(0, vR 88), (1, vI w)] (by decide +kernel) rfl (Nat.le_of_ble_eq_true rfl) ?_
  refine j_iload_n (pc := 0) dX12_count_0 rfl rfl ?_
  rcases (show w < 0 ∨ w = 0 ∨ w = 1 ∨ w = 2 ∨ w = 3 ∨ w = 4 ∨ w = 5 ∨ w = 6 ∨ w = 7 ∨ w = 8 ∨ 8 < w from by omega) with h1 | h1 | h1 | h1 | h1 | h1 | h1 | h1 | h1 | h1 | h1
  · refine j_tsOut (pc := 1) (tgt := 133) dX12_count_1 ⟨by omega, by omega⟩ (Or.inl h1) rfl ?_
    refine j_iconst (pc := 133) dX12_count_133 ?_
    exact j_iret (pc := 134) ⟨rfl, rfl⟩ dX12_count_134 rfl ⟨_, rfl, ⟨by omega, by omega⟩, rfl, trivial⟩
  · refine j_tsIn (pc := 1) (tgt := 52) 0 dX12_count_1 h1 (by decide) ⟨by decide, by decide⟩ rfl rfl ?_
    refine j_aload_n (pc := 52) dX12_count_52 rfl rfl ?_
    refine j_iconst (pc := 53) dX12_count_53 ?_
    refine j_callV (pc := 54) (As := [vI 0]) (st := []) (c_X12_all hM 0 (by (first | decide | exact ⟨by omega, by omega⟩)) σ hI) mv_X12_192 rfl rfl rfl (a_88 hM) dX12_count_54 ⟨Nat.le_of_ble_eq_true rfl, Nat.le_of_ble_eq_true rfl⟩ ⟨Nat.le_refl _, Nat.le_refl _⟩ rfl (Nat.le_of_ble_eq_true rfl) rfl (fun z2 σ3 hz2 => ?_)
    obtain ⟨r5, rfl, hr5, rfl, q4_0⟩ := hz2
    replace q4_0 : r5 = mc σ (0 : Int) (σ 91 0).toNat := q4_0
    refine j_st (st' := [vI r5]) rfl ?_
    exact j_iret (pc := 57) ⟨rfl, rfl⟩ dX12_count_57 rfl ⟨_, rfl, ⟨by omega, by omega⟩, rfl, trivial⟩
  · refine j_tsIn (pc := 1) (tgt := 58) 1 dX12_count_1 h1 (by decide) ⟨by decide, by decide⟩ rfl rfl ?_
    refine j_aload_n (pc := 58) dX12_count_58 rfl rfl ?_
    refine j_callV (pc := 59) (As := []) (st := []) (c_X12_cracks hM σ hI) mv_X12_298 rfl rfl rfl (a_88 hM) dX12_count_59 ⟨Nat.le_of_ble_eq_true rfl, Nat.le_of_ble_eq_true rfl⟩ ⟨Nat.le_refl _, Nat.le_refl _⟩ rfl (Nat.le_of_ble_eq_true rfl) rfl (fun z6 σ7 hz6 => ?_)
    obtain ⟨r9, rfl, hr9, rfl, q8_0⟩ := hz6
    replace q8_0 : r9 = nc σ (σ 91 0).toNat := q8_0
    refine j_st (st' := [vI r9]) rfl ?_
    exact j_iret (pc := 62) ⟨rfl, rfl⟩ dX12_count_62 rfl ⟨_, rfl, ⟨by omega, by omega⟩, rfl, trivial⟩
  · refine j_tsIn (pc := 1) (tgt := 63) 2 dX12_count_1 h1 (by decide) ⟨by decide, by decide⟩ rfl rfl ?_
    refine j_aload_n (pc := 63) dX12_count_63 rfl rfl ?_
    refine j_iconst (pc := 64) dX12_count_64 ?_
    refine j_callV (pc := 65) (As := [vI 2]) (st := []) (c_X12_feetWith hM 2 (by (first | decide | exact ⟨by omega, by omega⟩)) σ hI) mv_X12_386 rfl rfl rfl (a_88 hM) dX12_count_65 ⟨Nat.le_of_ble_eq_true rfl, Nat.le_of_ble_eq_true rfl⟩ ⟨Nat.le_refl _, Nat.le_refl _⟩ rfl (Nat.le_of_ble_eq_true rfl) rfl (fun z10 σ11 hz10 => ?_)
    obtain ⟨r13, rfl, hr13, rfl, -⟩ := hz10
    refine j_st (st' := [vI r13]) rfl ?_
    exact j_iret (pc := 68) ⟨rfl, rfl⟩ dX12_count_68 rfl ⟨_, rfl, ⟨by omega, by omega⟩, rfl, trivial⟩
  · refine j_tsIn (pc := 1) (tgt := 69) 3 dX12_count_1 h1 (by decide) ⟨by decide, by decide⟩ rfl rfl ?_
    refine j_aload_n (pc := 69) dX12_count_69 rfl rfl ?_
    refine j_iconst (pc := 70) dX12_count_70 ?_
    refine j_callV (pc := 71) (As := [vI 3]) (st := []) (c_X12_feetWith hM 3 (by (first | decide | exact ⟨by omega, by omega⟩)) σ hI) mv_X12_386 rfl rfl rfl (a_88 hM) dX12_count_71 ⟨Nat.le_of_ble_eq_true rfl, Nat.le_of_ble_eq_true rfl⟩ ⟨Nat.le_refl _, Nat.le_refl _⟩ rfl (Nat.le_of_ble_eq_true rfl) rfl (fun z14 σ15 hz14 => ?_)
    obtain ⟨r17, rfl, hr17, rfl, -⟩ := hz14
    refine j_st (st' := [vI r17]) rfl ?_
    exact j_iret (pc := 74) ⟨rfl, rfl⟩ dX12_count_74 rfl ⟨_, rfl, ⟨by omega, by omega⟩, rfl, trivial⟩
  · refine j_tsIn (pc := 1) (tgt := 75) 4 dX12_count_1 h1 (by decide) ⟨by decide, by decide⟩ rfl rfl ?_
    refine j_aload_n (pc := 75) dX12_count_75 rfl rfl ?_
    refine j_callV (pc := 76) (As := []) (st := []) (c_X12_racked hM σ hI) mv_X12_389 rfl rfl rfl (a_88 hM) dX12_count_76 ⟨Nat.le_of_ble_eq_true rfl, Nat.le_of_ble_eq_true rfl⟩ ⟨Nat.le_refl _, Nat.le_refl _⟩ rfl (Nat.le_of_ble_eq_true rfl) rfl (fun z18 σ19 hz18 => ?_)
    obtain ⟨r21, rfl, hr21, rfl, -⟩ := hz18
    refine j_st (st' := [vI r21]) rfl ?_
    exact j_iret (pc := 79) ⟨rfl, rfl⟩ dX12_count_79 rfl ⟨_, rfl, ⟨by omega, by omega⟩, rfl, trivial⟩
  · refine j_tsIn (pc := 1) (tgt := 80) 5 dX12_count_1 h1 (by decide) ⟨by decide, by decide⟩ rfl rfl ?_
    refine j_aload_n (pc := 80) dX12_count_80 rfl rfl ?_
    refine j_callV (pc := 81) (As := []) (st := []) (c_X12_triesAll hM σ hI) mv_X12_343 rfl rfl rfl (a_88 hM) dX12_count_81 ⟨Nat.le_of_ble_eq_true rfl, Nat.le_of_ble_eq_true rfl⟩ ⟨Nat.le_refl _, Nat.le_refl _⟩ rfl (Nat.le_of_ble_eq_true rfl) rfl (fun z22 σ23 hz22 => ?_)
    obtain ⟨r25, rfl, hr25, rfl, q24_0⟩ := hz22
    replace q24_0 : r25 = σ 89 93 + σ 89 95 := q24_0
    refine j_st (st' := [vI r25]) rfl ?_
    exact j_iret (pc := 84) ⟨rfl, rfl⟩ dX12_count_84 rfl ⟨_, rfl, ⟨by omega, by omega⟩, rfl, trivial⟩
  · refine j_tsIn (pc := 1) (tgt := 85) 6 dX12_count_1 h1 (by decide) ⟨by decide, by decide⟩ rfl rfl ?_
    refine j_aload_n (pc := 85) dX12_count_85 rfl rfl ?_
    refine j_getR (pc := 86) (r := 90) fl_X12_13 dX12_count_86 (a_88 hM) rfl ?_
    refine j_iconst (pc := 89) dX12_count_89 ?_
    refine j_zald (pc := 90) dX12_count_90 (a_90 hM) (by omega) (by omega) (by decide) ?_
    refine j_topV (show σ 90 (Int.toNat 0) = σ 90 0 from rfl) ?_
    have f26 : (0 : Int) ≤ σ 90 0 ∧ σ 90 0 ≤ 1 := hI 90 0
    refine j_callS (pc := 91) (As := [vI (σ 90 0)]) (st := []) (c_X12_flag (σ 90 0) ⟨by omega, by omega⟩ σ hI) ms_X12_168 rfl dX12_count_91 ⟨Nat.le_of_ble_eq_true rfl, Nat.le_of_ble_eq_true rfl⟩ ⟨Nat.le_refl _, Nat.le_refl _⟩ rfl (Nat.le_of_ble_eq_true rfl) rfl (fun z27 σ28 hz27 => ?_)
    obtain ⟨r30, rfl, hr30, rfl, q29_0⟩ := hz27
    replace q29_0 : r30 = (σ 90 0) := q29_0
    refine j_st (st' := [vI r30]) rfl ?_
    refine j_aload_n (pc := 94) dX12_count_94 rfl rfl ?_
    refine j_getR (pc := 95) (r := 90) fl_X12_13 dX12_count_95 (a_88 hM) rfl ?_
    refine j_iconst (pc := 98) dX12_count_98 ?_
    refine j_zald (pc := 99) dX12_count_99 (a_90 hM) (by omega) (by omega) (by decide) ?_
    refine j_topV (show σ 90 (Int.toNat 1) = σ 90 1 from rfl) ?_
    have f31 : (0 : Int) ≤ σ 90 1 ∧ σ 90 1 ≤ 1 := hI 90 1
    refine j_callS (pc := 100) (As := [vI (σ 90 1)]) (st := [vI r30]) (c_X12_flag (σ 90 1) ⟨by omega, by omega⟩ σ hI) ms_X12_168 rfl dX12_count_100 ⟨Nat.le_of_ble_eq_true rfl, Nat.le_of_ble_eq_true rfl⟩ ⟨Nat.le_refl _, Nat.le_refl _⟩ rfl (Nat.le_of_ble_eq_true rfl) rfl (fun z32 σ33 hz32 => ?_)
    obtain ⟨r35, rfl, hr35, rfl, q34_0⟩ := hz32
    replace q34_0 : r35 = (σ 90 1) := q34_0
    refine j_st (st' := [vI r35, vI r30]) rfl ?_
    refine j_iadd (pc := 103) dX12_count_103 ?_
    exact j_iret (pc := 104) ⟨rfl, rfl⟩ dX12_count_104 rfl ⟨_, rfl, ⟨by omega, by omega⟩, rfl, trivial⟩
  · refine j_tsIn (pc := 1) (tgt := 105) 7 dX12_count_1 h1 (by decide) ⟨by decide, by decide⟩ rfl rfl ?_
    refine j_aload_n (pc := 105) dX12_count_105 rfl rfl ?_
    refine j_getI (pc := 106) fl_X12_86 dX12_count_106 (a_88 hM) rfl ?_
    have f36 : (0 : Int) ≤ σ 88 12 ∧ σ 88 12 ≤ 400 := hI 88 12
    exact j_iret (pc := 109) ⟨rfl, rfl⟩ dX12_count_109 rfl ⟨_, rfl, ⟨by omega, by omega⟩, rfl, trivial⟩
  · refine j_tsIn (pc := 1) (tgt := 110) 8 dX12_count_1 h1 (by decide) ⟨by decide, by decide⟩ rfl rfl ?_
    refine j_aload_n (pc := 110) dX12_count_110 rfl rfl ?_
    refine j_getR (pc := 111) (r := 104) fl_X12_56 dX12_count_111 (a_88 hM) rfl ?_
    refine j_iconst (pc := 114) dX12_count_114 ?_
    refine j_iald (pc := 115) dX12_count_115 (a_104 hM) (by omega) (by omega) (by decide) ?_
    refine j_topV (show σ 104 (Int.toNat 0) = σ 104 0 from rfl) ?_
    have f37 : (-4 : Int) ≤ σ 104 0 ∧ σ 104 0 ≤ 2 := hI 104 0
    refine j_bipush (pc := 116) dX12_count_116 rfl ?_
    refine j_icmpR_ne (pc := 118) (tgt := 126) ⟨by omega, by omega⟩ ⟨by omega, by omega⟩ dX12_count_118 rfl (fun h38 => ?_) (fun h38 => ?_)
    · refine j_aload_n (pc := 126) dX12_count_126 rfl rfl ?_
      refine j_getR (pc := 127) (r := 105) fl_X12_59 dX12_count_127 (a_88 hM) rfl ?_
      refine j_iconst (pc := 130) dX12_count_130 ?_
      refine j_iald (pc := 131) dX12_count_131 (a_105 hM) (by omega) (by omega) (by decide) ?_
      refine j_topV (show σ 105 (Int.toNat 0) = σ 105 0 from rfl) ?_
      have f39 : (0 : Int) ≤ σ 105 0 ∧ σ 105 0 ≤ 40 := hI 105 0
      exact j_iret (pc := 132) ⟨rfl, rfl⟩ dX12_count_132 rfl ⟨_, rfl, ⟨by omega, by omega⟩, rfl, trivial⟩
    · refine j_bipush (pc := 121) dX12_count_121 rfl ?_
      refine j_goto (pc := 123) (tgt := 132) dX12_count_123 rfl ?_
      exact j_iret (pc := 132) ⟨rfl, rfl⟩ dX12_count_132 rfl ⟨_, rfl, ⟨by omega, by omega⟩, rfl, trivial⟩
  · refine j_tsOut (pc := 1) (tgt := 133) dX12_count_1 ⟨by omega, by omega⟩ (Or.inr h1) rfl ?_
    refine j_iconst (pc := 133) dX12_count_133 ?_
    exact j_iret (pc := 134) ⟨rfl, rfl⟩ dX12_count_134 rfl ⟨_, rfl, ⟨by omega, by omega⟩, rfl, trivial⟩
