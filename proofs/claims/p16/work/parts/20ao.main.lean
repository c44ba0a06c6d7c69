/-! 20ao.main -/
theorem dX11_piece_0 : decode cX11_piece 0 = .ok (.aload_n 0, 1) := by decide +kernel
theorem dX11_piece_1 : decode cX11_piece 1 = .ok (.getfield 26, 3) := by decide +kernel
theorem dX11_piece_4 : decode cX11_piece 4 = .ok (.getfield 168, 3) := by decide +kernel
theorem dX11_piece_7 : decode cX11_piece 7 = .ok (.astore_n 3, 1) := by decide +kernel
theorem dX11_piece_8 : decode cX11_piece 8 = .ok (.iload_n 1, 1) := by decide +kernel
theorem dX11_piece_9 : decode cX11_piece 9 = .ok (.ifCond .lt 11, 3) := by decide +kernel
theorem dX11_piece_12 : decode cX11_piece 12 = .ok (.iload_n 1, 1) := by decide +kernel
theorem dX11_piece_13 : decode cX11_piece 13 = .ok (.aload_n 3, 1) := by decide +kernel
theorem dX11_piece_14 : decode cX11_piece 14 = .ok (.getfield 187, 3) := by decide +kernel
theorem dX11_piece_17 : decode cX11_piece 17 = .ok (.if_icmp .lt 5, 3) := by decide +kernel
theorem dX11_piece_20 : decode cX11_piece 20 = .ok (.iconst (-1), 1) := by decide +kernel
theorem dX11_piece_21 : decode cX11_piece 21 = .ok (.ireturn, 1) := by decide +kernel
theorem dX11_piece_22 : decode cX11_piece 22 = .ok (.iload_n 2, 1) := by decide +kernel
theorem dX11_piece_23 : decode cX11_piece 23 = .ok (.tableswitch 121 0 6 #[41, 48, 55, 68, 86, 93, 111], 41) := by decide +kernel
theorem dX11_piece_64 : decode cX11_piece 64 = .ok (.aload_n 3, 1) := by decide +kernel
theorem dX11_piece_65 : decode cX11_piece 65 = .ok (.getfield 190, 3) := by decide +kernel
theorem dX11_piece_68 : decode cX11_piece 68 = .ok (.iload_n 1, 1) := by decide +kernel
theorem dX11_piece_69 : decode cX11_piece 69 = .ok (.iaload, 1) := by decide +kernel
theorem dX11_piece_70 : decode cX11_piece 70 = .ok (.ireturn, 1) := by decide +kernel
theorem dX11_piece_71 : decode cX11_piece 71 = .ok (.aload_n 3, 1) := by decide +kernel
theorem dX11_piece_72 : decode cX11_piece 72 = .ok (.getfield 193, 3) := by decide +kernel
theorem dX11_piece_75 : decode cX11_piece 75 = .ok (.iload_n 1, 1) := by decide +kernel
theorem dX11_piece_76 : decode cX11_piece 76 = .ok (.iaload, 1) := by decide +kernel
theorem dX11_piece_77 : decode cX11_piece 77 = .ok (.ireturn, 1) := by decide +kernel
theorem dX11_piece_78 : decode cX11_piece 78 = .ok (.aload_n 0, 1) := by decide +kernel
theorem dX11_piece_79 : decode cX11_piece 79 = .ok (.getfield 26, 3) := by decide +kernel
theorem dX11_piece_82 : decode cX11_piece 82 = .ok (.aload_n 0, 1) := by decide +kernel
theorem dX11_piece_83 : decode cX11_piece 83 = .ok (.getfield 10, 3) := by decide +kernel
theorem dX11_piece_86 : decode cX11_piece 86 = .ok (.iload_n 1, 1) := by decide +kernel
theorem dX11_piece_87 : decode cX11_piece 87 = .ok (.invokevirtual 196, 3) := by decide +kernel
theorem dX11_piece_90 : decode cX11_piece 90 = .ok (.ireturn, 1) := by decide +kernel
theorem dX11_piece_91 : decode cX11_piece 91 = .ok (.aload_n 3, 1) := by decide +kernel
theorem dX11_piece_92 : decode cX11_piece 92 = .ok (.getfield 193, 3) := by decide +kernel
theorem dX11_piece_95 : decode cX11_piece 95 = .ok (.iload_n 1, 1) := by decide +kernel
theorem dX11_piece_96 : decode cX11_piece 96 = .ok (.iaload, 1) := by decide +kernel
theorem dX11_piece_97 : decode cX11_piece 97 = .ok (.aload_n 0, 1) := by decide +kernel
theorem dX11_piece_98 : decode cX11_piece 98 = .ok (.getfield 10, 3) := by decide +kernel
theorem dX11_piece_101 : decode cX11_piece 101 = .ok (.getfield 142, 3) := by decide +kernel
theorem dX11_piece_104 : decode cX11_piece 104 = .ok (.bipush 7, 2) := by decide +kernel
theorem dX11_piece_106 : decode cX11_piece 106 = .ok (.iaload, 1) := by decide +kernel
theorem dX11_piece_107 : decode cX11_piece 107 = .ok (.iadd, 1) := by decide +kernel
theorem dX11_piece_108 : decode cX11_piece 108 = .ok (.ireturn, 1) := by decide +kernel
theorem dX11_piece_109 : decode cX11_piece 109 = .ok (.aload_n 3, 1) := by decide +kernel
theorem dX11_piece_110 : decode cX11_piece 110 = .ok (.getfield 184, 3) := by decide +kernel
theorem dX11_piece_113 : decode cX11_piece 113 = .ok (.iload_n 1, 1) := by decide +kernel
theorem dX11_piece_114 : decode cX11_piece 114 = .ok (.iaload, 1) := by decide +kernel
theorem dX11_piece_115 : decode cX11_piece 115 = .ok (.ireturn, 1) := by decide +kernel
theorem dX11_piece_116 : decode cX11_piece 116 = .ok (.aload_n 3, 1) := by decide +kernel
theorem dX11_piece_117 : decode cX11_piece 117 = .ok (.aload_n 0, 1) := by decide +kernel
theorem dX11_piece_118 : decode cX11_piece 118 = .ok (.getfield 10, 3) := by decide +kernel
theorem dX11_piece_121 : decode cX11_piece 121 = .ok (.iload_n 1, 1) := by decide +kernel
theorem dX11_piece_122 : decode cX11_piece 122 = .ok (.invokevirtual 200, 3) := by decide +kernel
theorem dX11_piece_125 : decode cX11_piece 125 = .ok (.ifCond .eq 7, 3) := by decide +kernel
theorem dX11_piece_128 : decode cX11_piece 128 = .ok (.iconst 1, 1) := by decide +kernel
theorem dX11_piece_129 : decode cX11_piece 129 = .ok (.goto 4, 3) := by decide +kernel
theorem dX11_piece_132 : decode cX11_piece 132 = .ok (.iconst 0, 1) := by decide +kernel
theorem dX11_piece_133 : decode cX11_piece 133 = .ok (.ireturn, 1) := by decide +kernel
theorem dX11_piece_134 : decode cX11_piece 134 = .ok (.aload_n 3, 1) := by decide +kernel
theorem dX11_piece_135 : decode cX11_piece 135 = .ok (.aload_n 0, 1) := by decide +kernel
theorem dX11_piece_136 : decode cX11_piece 136 = .ok (.getfield 10, 3) := by decide +kernel
theorem dX11_piece_139 : decode cX11_piece 139 = .ok (.iload_n 1, 1) := by decide +kernel
theorem dX11_piece_140 : decode cX11_piece 140 = .ok (.invokevirtual 204, 3) := by decide +kernel
theorem dX11_piece_143 : decode cX11_piece 143 = .ok (.ireturn, 1) := by decide +kernel
theorem dX11_piece_144 : decode cX11_piece 144 = .ok (.iconst (-1), 1) := by decide +kernel
theorem dX11_piece_145 : decode cX11_piece 145 = .ok (.ireturn, 1) := by decide +kernel
abbrev q_X11_piece (k : Int) (w : Int) (σ : tw_M) : Option tw_V → tw_M → Prop := fun z τ => ∃ r : Int, z = some (vI r) ∧ (-2147483648 ≤ r ∧ r ≤ 2147483647) ∧ σ = τ ∧ True
set_option maxHeartbeats 4000000 in
set_option maxRecDepth 100000 in
theorem c_X11_piece {G : tw_G} (hX : tw_isX G) (k : Int) (hk : -2147483648 ≤ k ∧ k ≤ 2147483647) (w : Int) (hw : -2147483648 ≤ w ∧ w ≤ 2147483647) (σ : tw_M) (hI : tw_I σ) : tw_C G yX11_piece cX11_piece 4 (some .int) 4 [vR 0, vI k, vI w] σ (q_X11_piece k w σ) := by
  refine tw_met [(0, vR 0), (1, vI k), (2, vI w)] (by decide +kernel) rfl (Nat.le_of_ble_eq_true rfl) ?_
  refine j_aload_n (pc := 0) dX11_piece_0 rfl rfl ?_
  refine j_getR (pc := 1) (r := 23) fl_X11_26 dX11_piece_1 (a_0 hX) rfl ?_
  refine j_getR (pc := 4) (r := 24) fl_X11_168 dX11_piece_4 (a_23 hX) rfl ?_
  refine j_astore_n (pc := 7) (i := 3) (ls' := [(0, vR 0), (1, vI k), (2, vI w), (3, vR 24)]) [1, 2, 3, 0] dX11_piece_7 rfl (Nat.le_of_ble_eq_true rfl) rfl rfl ?_
  refine j_iload_n (pc := 8) dX11_piece_8 rfl rfl ?_
  refine j_ifR_lt (pc := 9) (tgt := 20) ⟨by omega, by omega⟩ dX11_piece_9 rfl (fun h1 => ?_) (fun h1 => ?_)
  · refine j_iconst (pc := 20) dX11_piece_20 ?_
    exact j_iret (pc := 21) ⟨rfl, rfl⟩ dX11_piece_21 rfl ⟨_, rfl, ⟨by omega, by omega⟩, rfl, trivial⟩
  · refine j_iload_n (pc := 12) dX11_piece_12 rfl rfl ?_
    refine j_aload_n (pc := 13) dX11_piece_13 rfl rfl ?_
    refine j_getI (pc := 14) fl_X11_187 dX11_piece_14 (a_24 hX) rfl ?_
    have f2 : (0 : Int) ≤ σ 24 0 ∧ σ 24 0 ≤ 10 := hI 24 0
    refine j_icmpR_lt (pc := 17) (tgt := 22) ⟨by omega, by omega⟩ ⟨by omega, by omega⟩ dX11_piece_17 rfl (fun h3 => ?_) (fun h3 => ?_)
    · refine j_iload_n (pc := 22) dX11_piece_22 rfl rfl ?_
      rcases (show w < 0 ∨ w = 0 ∨ w = 1 ∨ w = 2 ∨ w = 3 ∨ w = 4 ∨ w = 5 ∨ w = 6 ∨ 6 < w from by omega) with h4 | h4 | h4 | h4 | h4 | h4 | h4 | h4 | h4
      · refine j_tsOut (pc := 23) (tgt := 144) dX11_piece_23 ⟨by omega, by omega⟩ (Or.inl h4) rfl ?_
        refine j_iconst (pc := 144) dX11_piece_144 ?_
        exact j_iret (pc := 145) ⟨rfl, rfl⟩ dX11_piece_145 rfl ⟨_, rfl, ⟨by omega, by omega⟩, rfl, trivial⟩
      · refine j_tsIn (pc := 23) (tgt := 64) 0 dX11_piece_23 h4 (by decide) ⟨by decide, by decide⟩ rfl rfl ?_
        refine j_aload_n (pc := 64) dX11_piece_64 rfl rfl ?_
        refine j_getR (pc := 65) (r := 25) fl_X11_190 dX11_piece_65 (a_24 hX) rfl ?_
        refine j_iload_n (pc := 68) dX11_piece_68 rfl rfl ?_
        refine j_iald (pc := 69) dX11_piece_69 (a_25 hX) (by omega) (by omega) (by decide) ?_
        have f5 : (0 : Int) ≤ σ 25 (k.toNat) ∧ σ 25 (k.toNat) ≤ 40 := hI 25 (k.toNat)
        exact j_iret (pc := 70) ⟨rfl, rfl⟩ dX11_piece_70 rfl ⟨_, rfl, ⟨by omega, by omega⟩, rfl, trivial⟩
      · refine j_tsIn (pc := 23) (tgt := 71) 1 dX11_piece_23 h4 (by decide) ⟨by decide, by decide⟩ rfl rfl ?_
        refine j_aload_n (pc := 71) dX11_piece_71 rfl rfl ?_
        refine j_getR (pc := 72) (r := 26) fl_X11_193 dX11_piece_72 (a_24 hX) rfl ?_
        refine j_iload_n (pc := 75) dX11_piece_75 rfl rfl ?_
        refine j_iald (pc := 76) dX11_piece_76 (a_26 hX) (by omega) (by omega) (by decide) ?_
        have f6 : (0 : Int) ≤ σ 26 (k.toNat) ∧ σ 26 (k.toNat) ≤ 10 := hI 26 (k.toNat)
        exact j_iret (pc := 77) ⟨rfl, rfl⟩ dX11_piece_77 rfl ⟨_, rfl, ⟨by omega, by omega⟩, rfl, trivial⟩
      · refine j_tsIn (pc := 23) (tgt := 78) 2 dX11_piece_23 h4 (by decide) ⟨by decide, by decide⟩ rfl rfl ?_
        refine j_aload_n (pc := 78) dX11_piece_78 rfl rfl ?_
        refine j_getR (pc := 79) (r := 23) fl_X11_26 dX11_piece_79 (a_0 hX) rfl ?_
        refine j_aload_n (pc := 82) dX11_piece_82 rfl rfl ?_
        refine j_getR (pc := 83) (r := 1) fl_X11_10 dX11_piece_83 (a_0 hX) rfl ?_
        refine j_iload_n (pc := 86) dX11_piece_86 rfl rfl ?_
        refine j_callV (pc := 87) (As := [vR 1, vI k]) (st := []) (c_X3_chance 23 (s_Hand_23 hX) 1 (s_Wall_1 hX) k ⟨by omega, by omega⟩ σ hI) mv_X11_196 rfl rfl rfl (a_23 hX) dX11_piece_87 ⟨Nat.le_of_ble_eq_true rfl, Nat.le_of_ble_eq_true rfl⟩ ⟨Nat.le_refl _, Nat.le_refl _⟩ rfl (Nat.le_of_ble_eq_true rfl) rfl (fun z7 σ8 hz7 => ?_)
        obtain ⟨r10, rfl, hr10, rfl, -⟩ := hz7
        refine j_st (st' := [vI r10]) rfl ?_
        exact j_iret (pc := 90) ⟨rfl, rfl⟩ dX11_piece_90 rfl ⟨_, rfl, ⟨by omega, by omega⟩, rfl, trivial⟩
      · refine j_tsIn (pc := 23) (tgt := 91) 3 dX11_piece_23 h4 (by decide) ⟨by decide, by decide⟩ rfl rfl ?_
        refine j_aload_n (pc := 91) dX11_piece_91 rfl rfl ?_
        refine j_getR (pc := 92) (r := 26) fl_X11_193 dX11_piece_92 (a_24 hX) rfl ?_
        refine j_iload_n (pc := 95) dX11_piece_95 rfl rfl ?_
        refine j_iald (pc := 96) dX11_piece_96 (a_26 hX) (by omega) (by omega) (by decide) ?_
        have f11 : (0 : Int) ≤ σ 26 (k.toNat) ∧ σ 26 (k.toNat) ≤ 10 := hI 26 (k.toNat)
        refine j_aload_n (pc := 97) dX11_piece_97 rfl rfl ?_
        refine j_getR (pc := 98) (r := 1) fl_X11_10 dX11_piece_98 (a_0 hX) rfl ?_
        refine j_getR (pc := 101) (r := 2) fl_X11_142 dX11_piece_101 (a_1 hX) rfl ?_
        refine j_bipush (pc := 104) dX11_piece_104 rfl ?_
        refine j_iald (pc := 106) dX11_piece_106 (a_2 hX) (by omega) (by omega) (by decide) ?_
        refine j_topV (show σ 2 (Int.toNat 7) = σ 2 7 from rfl) ?_
        have f12 : (0 : Int) ≤ σ 2 7 ∧ σ 2 7 ≤ 60 := hI 2 7
        refine j_iadd (pc := 107) dX11_piece_107 ?_
        exact j_iret (pc := 108) ⟨rfl, rfl⟩ dX11_piece_108 rfl ⟨_, rfl, ⟨by omega, by omega⟩, rfl, trivial⟩
      · refine j_tsIn (pc := 23) (tgt := 109) 4 dX11_piece_23 h4 (by decide) ⟨by decide, by decide⟩ rfl rfl ?_
        refine j_aload_n (pc := 109) dX11_piece_109 rfl rfl ?_
        refine j_getR (pc := 110) (r := 27) fl_X11_184 dX11_piece_110 (a_24 hX) rfl ?_
        refine j_iload_n (pc := 113) dX11_piece_113 rfl rfl ?_
        refine j_iald (pc := 114) dX11_piece_114 (a_27 hX) (by omega) (by omega) (by decide) ?_
        have f13 : (0 : Int) ≤ σ 27 (k.toNat) ∧ σ 27 (k.toNat) ≤ 1 := hI 27 (k.toNat)
        exact j_iret (pc := 115) ⟨rfl, rfl⟩ dX11_piece_115 rfl ⟨_, rfl, ⟨by omega, by omega⟩, rfl, trivial⟩
      · refine j_tsIn (pc := 23) (tgt := 116) 5 dX11_piece_23 h4 (by decide) ⟨by decide, by decide⟩ rfl rfl ?_
        refine j_aload_n (pc := 116) dX11_piece_116 rfl rfl ?_
        refine j_aload_n (pc := 117) dX11_piece_117 rfl rfl ?_
        refine j_getR (pc := 118) (r := 1) fl_X11_10 dX11_piece_118 (a_0 hX) rfl ?_
        refine j_iload_n (pc := 121) dX11_piece_121 rfl rfl ?_
        refine j_callV (pc := 122) (As := [vR 1, vI k]) (st := []) (c_X7_isLifted 24 (s_Row_24 hX) 1 (s_Wall_1 hX) k ⟨by omega, by omega⟩ σ hI) mv_X11_200 rfl rfl rfl (a_24 hX) dX11_piece_122 ⟨Nat.le_of_ble_eq_true rfl, Nat.le_of_ble_eq_true rfl⟩ ⟨Nat.le_refl _, Nat.le_refl _⟩ rfl (Nat.le_of_ble_eq_true rfl) rfl (fun z14 σ15 hz14 => ?_)
        obtain ⟨r17, rfl, hr17, rfl, -⟩ := hz14
        refine j_st (st' := [vI r17]) rfl ?_
        refine j_ifR_eq (pc := 125) (tgt := 132) ⟨by omega, by omega⟩ dX11_piece_125 rfl (fun h18 => ?_) (fun h18 => ?_)
        · refine j_iconst (pc := 132) dX11_piece_132 ?_
          exact j_iret (pc := 133) ⟨rfl, rfl⟩ dX11_piece_133 rfl ⟨_, rfl, ⟨by omega, by omega⟩, rfl, trivial⟩
        · refine j_iconst (pc := 128) dX11_piece_128 ?_
          refine j_goto (pc := 129) (tgt := 133) dX11_piece_129 rfl ?_
          exact j_iret (pc := 133) ⟨rfl, rfl⟩ dX11_piece_133 rfl ⟨_, rfl, ⟨by omega, by omega⟩, rfl, trivial⟩
      · refine j_tsIn (pc := 23) (tgt := 134) 6 dX11_piece_23 h4 (by decide) ⟨by decide, by decide⟩ rfl rfl ?_
        refine j_aload_n (pc := 134) dX11_piece_134 rfl rfl ?_
        refine j_aload_n (pc := 135) dX11_piece_135 rfl rfl ?_
        refine j_getR (pc := 136) (r := 1) fl_X11_10 dX11_piece_136 (a_0 hX) rfl ?_
        refine j_iload_n (pc := 139) dX11_piece_139 rfl rfl ?_
        refine j_callV (pc := 140) (As := [vR 1, vI k]) (st := []) (c_X7_counted 24 (s_Row_24 hX) 1 (s_Wall_1 hX) k ⟨by omega, by omega⟩ σ hI) mv_X11_204 rfl rfl rfl (a_24 hX) dX11_piece_140 ⟨Nat.le_of_ble_eq_true rfl, Nat.le_of_ble_eq_true rfl⟩ ⟨Nat.le_refl _, Nat.le_refl _⟩ rfl (Nat.le_of_ble_eq_true rfl) rfl (fun z19 σ20 hz19 => ?_)
        obtain ⟨r22, rfl, hr22, rfl, -⟩ := hz19
        refine j_st (st' := [vI r22]) rfl ?_
        exact j_iret (pc := 143) ⟨rfl, rfl⟩ dX11_piece_143 rfl ⟨_, rfl, ⟨by omega, by omega⟩, rfl, trivial⟩
      · refine j_tsOut (pc := 23) (tgt := 144) dX11_piece_23 ⟨by omega, by omega⟩ (Or.inr h4) rfl ?_
        refine j_iconst (pc := 144) dX11_piece_144 ?_
        exact j_iret (pc := 145) ⟨rfl, rfl⟩ dX11_piece_145 rfl ⟨_, rfl, ⟨by omega, by omega⟩, rfl, trivial⟩
    · refine j_iconst (pc := 20) dX11_piece_20 ?_
      exact j_iret (pc := 21) ⟨rfl, rfl⟩ dX11_piece_21 rfl ⟨_, rfl, ⟨by omega, by omega⟩, rfl, trivial⟩
