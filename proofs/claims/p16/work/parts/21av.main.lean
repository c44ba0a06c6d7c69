/-! 21av.main -/
theorem dX11_count_0 : decode cX11_count 0 = .ok (.iload_n 1, 1) := by decide +kernel
theorem dX11_count_1 : decode cX11_count 1 = .ok (.tableswitch 190 0 8 #[51, 62, 77, 92, 107, 115, 123, 155, 163], 51) := by decide +kernel
theorem dX11_count_52 : decode cX11_count 52 = .ok (.aload_n 0, 1) := by decide +kernel
theorem dX11_count_53 : decode cX11_count 53 = .ok (.getfield 26, 3) := by decide +kernel
theorem dX11_count_56 : decode cX11_count 56 = .ok (.getfield 168, 3) := by decide +kernel
theorem dX11_count_59 : decode cX11_count 59 = .ok (.getfield 187, 3) := by decide +kernel
theorem dX11_count_62 : decode cX11_count 62 = .ok (.ireturn, 1) := by decide +kernel
theorem dX11_count_63 : decode cX11_count 63 = .ok (.aload_n 0, 1) := by decide +kernel
theorem dX11_count_64 : decode cX11_count 64 = .ok (.getfield 10, 3) := by decide +kernel
theorem dX11_count_67 : decode cX11_count 67 = .ok (.aload_n 0, 1) := by decide +kernel
theorem dX11_count_68 : decode cX11_count 68 = .ok (.getfield 10, 3) := by decide +kernel
theorem dX11_count_71 : decode cX11_count 71 = .ok (.getfield 156, 3) := by decide +kernel
theorem dX11_count_74 : decode cX11_count 74 = .ok (.invokevirtual 422, 3) := by decide +kernel
theorem dX11_count_77 : decode cX11_count 77 = .ok (.ireturn, 1) := by decide +kernel
theorem dX11_count_78 : decode cX11_count 78 = .ok (.aload_n 0, 1) := by decide +kernel
theorem dX11_count_79 : decode cX11_count 79 = .ok (.getfield 10, 3) := by decide +kernel
theorem dX11_count_82 : decode cX11_count 82 = .ok (.aload_n 0, 1) := by decide +kernel
theorem dX11_count_83 : decode cX11_count 83 = .ok (.getfield 10, 3) := by decide +kernel
theorem dX11_count_86 : decode cX11_count 86 = .ok (.getfield 159, 3) := by decide +kernel
theorem dX11_count_89 : decode cX11_count 89 = .ok (.invokevirtual 422, 3) := by decide +kernel
theorem dX11_count_92 : decode cX11_count 92 = .ok (.ireturn, 1) := by decide +kernel
theorem dX11_count_93 : decode cX11_count 93 = .ok (.aload_n 0, 1) := by decide +kernel
theorem dX11_count_94 : decode cX11_count 94 = .ok (.getfield 10, 3) := by decide +kernel
theorem dX11_count_97 : decode cX11_count 97 = .ok (.aload_n 0, 1) := by decide +kernel
theorem dX11_count_98 : decode cX11_count 98 = .ok (.getfield 10, 3) := by decide +kernel
theorem dX11_count_101 : decode cX11_count 101 = .ok (.getfield 162, 3) := by decide +kernel
theorem dX11_count_104 : decode cX11_count 104 = .ok (.invokevirtual 422, 3) := by decide +kernel
theorem dX11_count_107 : decode cX11_count 107 = .ok (.ireturn, 1) := by decide +kernel
theorem dX11_count_108 : decode cX11_count 108 = .ok (.aload_n 0, 1) := by decide +kernel
theorem dX11_count_109 : decode cX11_count 109 = .ok (.getfield 26, 3) := by decide +kernel
theorem dX11_count_112 : decode cX11_count 112 = .ok (.invokevirtual 426, 3) := by decide +kernel
theorem dX11_count_115 : decode cX11_count 115 = .ok (.ireturn, 1) := by decide +kernel
theorem dX11_count_116 : decode cX11_count 116 = .ok (.aload_n 0, 1) := by decide +kernel
theorem dX11_count_117 : decode cX11_count 117 = .ok (.getfield 26, 3) := by decide +kernel
theorem dX11_count_120 : decode cX11_count 120 = .ok (.invokevirtual 359, 3) := by decide +kernel
theorem dX11_count_123 : decode cX11_count 123 = .ok (.ireturn, 1) := by decide +kernel
theorem dX11_count_124 : decode cX11_count 124 = .ok (.aload_n 0, 1) := by decide +kernel
theorem dX11_count_125 : decode cX11_count 125 = .ok (.getfield 30, 3) := by decide +kernel
theorem dX11_count_128 : decode cX11_count 128 = .ok (.getfield 124, 3) := by decide +kernel
theorem dX11_count_131 : decode cX11_count 131 = .ok (.ifCond .eq 7, 3) := by decide +kernel
theorem dX11_count_134 : decode cX11_count 134 = .ok (.iconst 1, 1) := by decide +kernel
theorem dX11_count_135 : decode cX11_count 135 = .ok (.goto 4, 3) := by decide +kernel
theorem dX11_count_138 : decode cX11_count 138 = .ok (.iconst 0, 1) := by decide +kernel
theorem dX11_count_139 : decode cX11_count 139 = .ok (.aload_n 0, 1) := by decide +kernel
theorem dX11_count_140 : decode cX11_count 140 = .ok (.getfield 33, 3) := by decide +kernel
theorem dX11_count_143 : decode cX11_count 143 = .ok (.getfield 124, 3) := by decide +kernel
theorem dX11_count_146 : decode cX11_count 146 = .ok (.ifCond .eq 7, 3) := by decide +kernel
theorem dX11_count_149 : decode cX11_count 149 = .ok (.iconst 1, 1) := by decide +kernel
theorem dX11_count_150 : decode cX11_count 150 = .ok (.goto 4, 3) := by decide +kernel
theorem dX11_count_153 : decode cX11_count 153 = .ok (.iconst 0, 1) := by decide +kernel
theorem dX11_count_154 : decode cX11_count 154 = .ok (.iadd, 1) := by decide +kernel
theorem dX11_count_155 : decode cX11_count 155 = .ok (.ireturn, 1) := by decide +kernel
theorem dX11_count_156 : decode cX11_count 156 = .ok (.aload_n 0, 1) := by decide +kernel
theorem dX11_count_157 : decode cX11_count 157 = .ok (.getfield 19, 3) := by decide +kernel
theorem dX11_count_160 : decode cX11_count 160 = .ok (.getfield 106, 3) := by decide +kernel
theorem dX11_count_163 : decode cX11_count 163 = .ok (.ireturn, 1) := by decide +kernel
theorem dX11_count_164 : decode cX11_count 164 = .ok (.aload_n 0, 1) := by decide +kernel
theorem dX11_count_165 : decode cX11_count 165 = .ok (.getfield 87, 3) := by decide +kernel
theorem dX11_count_168 : decode cX11_count 168 = .ok (.iconst 0, 1) := by decide +kernel
theorem dX11_count_169 : decode cX11_count 169 = .ok (.aaload, 1) := by decide +kernel
theorem dX11_count_170 : decode cX11_count 170 = .ok (.getfield 409, 3) := by decide +kernel
theorem dX11_count_173 : decode cX11_count 173 = .ok (.ifCond .eq 15, 3) := by decide +kernel
theorem dX11_count_176 : decode cX11_count 176 = .ok (.aload_n 0, 1) := by decide +kernel
theorem dX11_count_177 : decode cX11_count 177 = .ok (.getfield 87, 3) := by decide +kernel
theorem dX11_count_180 : decode cX11_count 180 = .ok (.iconst 0, 1) := by decide +kernel
theorem dX11_count_181 : decode cX11_count 181 = .ok (.aaload, 1) := by decide +kernel
theorem dX11_count_182 : decode cX11_count 182 = .ok (.getfield 429, 3) := by decide +kernel
theorem dX11_count_185 : decode cX11_count 185 = .ok (.goto 5, 3) := by decide +kernel
theorem dX11_count_188 : decode cX11_count 188 = .ok (.bipush (-4), 2) := by decide +kernel
theorem dX11_count_190 : decode cX11_count 190 = .ok (.ireturn, 1) := by decide +kernel
theorem dX11_count_191 : decode cX11_count 191 = .ok (.iconst (-1), 1) := by decide +kernel
theorem dX11_count_192 : decode cX11_count 192 = .ok (.ireturn, 1) := by decide +kernel
abbrev q_X11_count (w : Int) (σ : tw_M) : Option tw_V → tw_M → Prop := fun z τ => ∃ r : Int, z = some (vI r) ∧ (-2147483648 ≤ r ∧ r ≤ 2147483647) ∧ σ = τ ∧ True
set_option maxHeartbeats 4000000 in
set_option maxRecDepth 100000 in
theorem c_X11_count {G : tw_G} (hX : tw_isX G) (w : Int) (hw : -2147483648 ≤ w ∧ w ≤ 2147483647) (σ : tw_M) (hI : tw_I σ) : tw_C G yX11_count cX11_count 2 (some .int) 1 [vR 0, vI w] σ (q_X11_count w σ) := by
  refine tw_met [(0, vR 0), (1, vI w)] (by decide +kernel) rfl (Nat.le_of_ble_eq_true rfl) ?_
  refine j_iload_n (pc := 0) dX11_count_0 rfl rfl ?_
  rcases (show w < 0 ∨ w = 0 ∨ w = 1 ∨ w = 2 ∨ w = 3 ∨ w = 4 ∨ w = 5 ∨ w = 6 ∨ w = 7 ∨ w = 8 ∨ 8 < w from by omega) with h1 | h1 | h1 | h1 | h1 | h1 | h1 | h1 | h1 | h1 | h1
  · refine j_tsOut (pc := 1) (tgt := 191) dX11_count_1 ⟨by omega, by omega⟩ (Or.inl h1) rfl ?_
    refine j_iconst (pc := 191) dX11_count_191 ?_
    exact j_iret (pc := 192) ⟨rfl, rfl⟩ dX11_count_192 rfl ⟨_, rfl, ⟨by omega, by omega⟩, rfl, trivial⟩
  · refine j_tsIn (pc := 1) (tgt := 52) 0 dX11_count_1 h1 (by decide) ⟨by decide, by decide⟩ rfl rfl ?_
    refine j_aload_n (pc := 52) dX11_count_52 rfl rfl ?_
    refine j_getR (pc := 53) (r := 23) fl_X11_26 dX11_count_53 (a_0 hX) rfl ?_
    refine j_getR (pc := 56) (r := 24) fl_X11_168 dX11_count_56 (a_23 hX) rfl ?_
    refine j_getI (pc := 59) fl_X11_187 dX11_count_59 (a_24 hX) rfl ?_
    have f2 : (0 : Int) ≤ σ 24 0 ∧ σ 24 0 ≤ 10 := hI 24 0
    exact j_iret (pc := 62) ⟨rfl, rfl⟩ dX11_count_62 rfl ⟨_, rfl, ⟨by omega, by omega⟩, rfl, trivial⟩
  · refine j_tsIn (pc := 1) (tgt := 63) 1 dX11_count_1 h1 (by decide) ⟨by decide, by decide⟩ rfl rfl ?_
    refine j_aload_n (pc := 63) dX11_count_63 rfl rfl ?_
    refine j_getR (pc := 64) (r := 1) fl_X11_10 dX11_count_64 (a_0 hX) rfl ?_
    refine j_aload_n (pc := 67) dX11_count_67 rfl rfl ?_
    refine j_getR (pc := 68) (r := 1) fl_X11_10 dX11_count_68 (a_0 hX) rfl ?_
    refine j_getR (pc := 71) (r := 5) fl_X11_156 dX11_count_71 (a_1 hX) rfl ?_
    refine j_callV (pc := 74) (As := [vR 5]) (st := []) (c_X10_countOf 1 (s_Wall_1 hX) 5 (a_5 hX) σ hI (fun j => by have h : (0 : Int) ≤ σ 5 j ∧ σ 5 j ≤ 10 := hI 5 j; omega)) mv_X11_422 rfl rfl rfl (a_1 hX) dX11_count_74 ⟨Nat.le_of_ble_eq_true rfl, Nat.le_of_ble_eq_true rfl⟩ ⟨Nat.le_refl _, Nat.le_refl _⟩ rfl (Nat.le_of_ble_eq_true rfl) rfl (fun z3 σ4 hz3 => ?_)
    obtain ⟨r6, rfl, hr6, rfl, -⟩ := hz3
    refine j_st (st' := [vI r6]) rfl ?_
    exact j_iret (pc := 77) ⟨rfl, rfl⟩ dX11_count_77 rfl ⟨_, rfl, ⟨by omega, by omega⟩, rfl, trivial⟩
  · refine j_tsIn (pc := 1) (tgt := 78) 2 dX11_count_1 h1 (by decide) ⟨by decide, by decide⟩ rfl rfl ?_
    refine j_aload_n (pc := 78) dX11_count_78 rfl rfl ?_
    refine j_getR (pc := 79) (r := 1) fl_X11_10 dX11_count_79 (a_0 hX) rfl ?_
    refine j_aload_n (pc := 82) dX11_count_82 rfl rfl ?_
    refine j_getR (pc := 83) (r := 1) fl_X11_10 dX11_count_83 (a_0 hX) rfl ?_
    refine j_getR (pc := 86) (r := 6) fl_X11_159 dX11_count_86 (a_1 hX) rfl ?_
    refine j_callV (pc := 89) (As := [vR 6]) (st := []) (c_X10_countOf 1 (s_Wall_1 hX) 6 (a_6 hX) σ hI (fun j => by have h : (0 : Int) ≤ σ 6 j ∧ σ 6 j ≤ 1 := hI 6 j; omega)) mv_X11_422 rfl rfl rfl (a_1 hX) dX11_count_89 ⟨Nat.le_of_ble_eq_true rfl, Nat.le_of_ble_eq_true rfl⟩ ⟨Nat.le_refl _, Nat.le_refl _⟩ rfl (Nat.le_of_ble_eq_true rfl) rfl (fun z7 σ8 hz7 => ?_)
    obtain ⟨r10, rfl, hr10, rfl, -⟩ := hz7
    refine j_st (st' := [vI r10]) rfl ?_
    exact j_iret (pc := 92) ⟨rfl, rfl⟩ dX11_count_92 rfl ⟨_, rfl, ⟨by omega, by omega⟩, rfl, trivial⟩
  · refine j_tsIn (pc := 1) (tgt := 93) 3 dX11_count_1 h1 (by decide) ⟨by decide, by decide⟩ rfl rfl ?_
    refine j_aload_n (pc := 93) dX11_count_93 rfl rfl ?_
    refine j_getR (pc := 94) (r := 1) fl_X11_10 dX11_count_94 (a_0 hX) rfl ?_
    refine j_aload_n (pc := 97) dX11_count_97 rfl rfl ?_
    refine j_getR (pc := 98) (r := 1) fl_X11_10 dX11_count_98 (a_0 hX) rfl ?_
    refine j_getR (pc := 101) (r := 7) fl_X11_162 dX11_count_101 (a_1 hX) rfl ?_
    refine j_callV (pc := 104) (As := [vR 7]) (st := []) (c_X10_countOf 1 (s_Wall_1 hX) 7 (a_7 hX) σ hI (fun j => by have h : (0 : Int) ≤ σ 7 j ∧ σ 7 j ≤ 1 := hI 7 j; omega)) mv_X11_422 rfl rfl rfl (a_1 hX) dX11_count_104 ⟨Nat.le_of_ble_eq_true rfl, Nat.le_of_ble_eq_true rfl⟩ ⟨Nat.le_refl _, Nat.le_refl _⟩ rfl (Nat.le_of_ble_eq_true rfl) rfl (fun z11 σ12 hz11 => ?_)
    obtain ⟨r14, rfl, hr14, rfl, -⟩ := hz11
    refine j_st (st' := [vI r14]) rfl ?_
    exact j_iret (pc := 107) ⟨rfl, rfl⟩ dX11_count_107 rfl ⟨_, rfl, ⟨by omega, by omega⟩, rfl, trivial⟩
  · refine j_tsIn (pc := 1) (tgt := 108) 4 dX11_count_1 h1 (by decide) ⟨by decide, by decide⟩ rfl rfl ?_
    refine j_aload_n (pc := 108) dX11_count_108 rfl rfl ?_
    refine j_getR (pc := 109) (r := 23) fl_X11_26 dX11_count_109 (a_0 hX) rfl ?_
    refine j_callV (pc := 112) (As := []) (st := []) (c_X3_inRack 23 (s_Hand_23 hX) σ hI) mv_X11_426 rfl rfl rfl (a_23 hX) dX11_count_112 ⟨Nat.le_of_ble_eq_true rfl, Nat.le_of_ble_eq_true rfl⟩ ⟨Nat.le_refl _, Nat.le_refl _⟩ rfl (Nat.le_of_ble_eq_true rfl) rfl (fun z15 σ16 hz15 => ?_)
    obtain ⟨r18, rfl, hr18, rfl, -⟩ := hz15
    refine j_st (st' := [vI r18]) rfl ?_
    exact j_iret (pc := 115) ⟨rfl, rfl⟩ dX11_count_115 rfl ⟨_, rfl, ⟨by omega, by omega⟩, rfl, trivial⟩
  · refine j_tsIn (pc := 1) (tgt := 116) 5 dX11_count_1 h1 (by decide) ⟨by decide, by decide⟩ rfl rfl ?_
    refine j_aload_n (pc := 116) dX11_count_116 rfl rfl ?_
    refine j_getR (pc := 117) (r := 23) fl_X11_26 dX11_count_117 (a_0 hX) rfl ?_
    refine j_callV (pc := 120) (As := []) (st := []) (c_X3_tries 23 (s_Hand_23 hX) σ hI) mv_X11_359 rfl rfl rfl (a_23 hX) dX11_count_120 ⟨Nat.le_of_ble_eq_true rfl, Nat.le_of_ble_eq_true rfl⟩ ⟨Nat.le_refl _, Nat.le_refl _⟩ rfl (Nat.le_of_ble_eq_true rfl) rfl (fun z19 σ20 hz19 => ?_)
    obtain ⟨r22, rfl, hr22, rfl, q21_0⟩ := hz19
    replace q21_0 : r22 = σ 29 0 + σ 29 1 := q21_0
    refine j_st (st' := [vI r22]) rfl ?_
    exact j_iret (pc := 123) ⟨rfl, rfl⟩ dX11_count_123 rfl ⟨_, rfl, ⟨by omega, by omega⟩, rfl, trivial⟩
  · refine j_tsIn (pc := 1) (tgt := 124) 6 dX11_count_1 h1 (by decide) ⟨by decide, by decide⟩ rfl rfl ?_
    refine j_aload_n (pc := 124) dX11_count_124 rfl rfl ?_
    refine j_getR (pc := 125) (r := 31) fl_X11_30 dX11_count_125 (a_0 hX) rfl ?_
    refine j_getI (pc := 128) fl_X11_124 dX11_count_128 (a_31 hX) rfl ?_
    have f23 : (0 : Int) ≤ σ 31 6 ∧ σ 31 6 ≤ 1 := hI 31 6
    refine j_ifR_eq (pc := 131) (tgt := 138) ⟨by omega, by omega⟩ dX11_count_131 rfl (fun h24 => ?_) (fun h24 => ?_)
    · refine j_iconst (pc := 138) dX11_count_138 ?_
      refine j_aload_n (pc := 139) dX11_count_139 rfl rfl ?_
      refine j_getR (pc := 140) (r := 39) fl_X11_33 dX11_count_140 (a_0 hX) rfl ?_
      refine j_getI (pc := 143) fl_X11_124 dX11_count_143 (a_39 hX) rfl ?_
      have f25 : (0 : Int) ≤ σ 39 6 ∧ σ 39 6 ≤ 1 := hI 39 6
      refine j_ifR_eq (pc := 146) (tgt := 153) ⟨by omega, by omega⟩ dX11_count_146 rfl (fun h26 => ?_) (fun h26 => ?_)
      · refine j_iconst (pc := 153) dX11_count_153 ?_
        refine j_iadd (pc := 154) dX11_count_154 ?_
        refine j_topV (show (0 + 0 : Int) = 0 from by decide) ?_
        exact j_iret (pc := 155) ⟨rfl, rfl⟩ dX11_count_155 rfl ⟨_, rfl, ⟨by omega, by omega⟩, rfl, trivial⟩
      · refine j_iconst (pc := 149) dX11_count_149 ?_
        refine j_goto (pc := 150) (tgt := 154) dX11_count_150 rfl ?_
        refine j_iadd (pc := 154) dX11_count_154 ?_
        refine j_topV (show (0 + 1 : Int) = 1 from by decide) ?_
        exact j_iret (pc := 155) ⟨rfl, rfl⟩ dX11_count_155 rfl ⟨_, rfl, ⟨by omega, by omega⟩, rfl, trivial⟩
    · refine j_iconst (pc := 134) dX11_count_134 ?_
      refine j_goto (pc := 135) (tgt := 139) dX11_count_135 rfl ?_
      refine j_aload_n (pc := 139) dX11_count_139 rfl rfl ?_
      refine j_getR (pc := 140) (r := 39) fl_X11_33 dX11_count_140 (a_0 hX) rfl ?_
      refine j_getI (pc := 143) fl_X11_124 dX11_count_143 (a_39 hX) rfl ?_
      have f27 : (0 : Int) ≤ σ 39 6 ∧ σ 39 6 ≤ 1 := hI 39 6
      refine j_ifR_eq (pc := 146) (tgt := 153) ⟨by omega, by omega⟩ dX11_count_146 rfl (fun h28 => ?_) (fun h28 => ?_)
      · refine j_iconst (pc := 153) dX11_count_153 ?_
        refine j_iadd (pc := 154) dX11_count_154 ?_
        refine j_topV (show (1 + 0 : Int) = 1 from by decide) ?_
        exact j_iret (pc := 155) ⟨rfl, rfl⟩ dX11_count_155 rfl ⟨_, rfl, ⟨by omega, by omega⟩, rfl, trivial⟩
      · refine j_iconst (pc := 149) dX11_count_149 ?_
        refine j_goto (pc := 150) (tgt := 154) dX11_count_150 rfl ?_
        refine j_iadd (pc := 154) dX11_count_154 ?_
        refine j_topV (show (1 + 1 : Int) = 2 from by decide) ?_
        exact j_iret (pc := 155) ⟨rfl, rfl⟩ dX11_count_155 rfl ⟨_, rfl, ⟨by omega, by omega⟩, rfl, trivial⟩
  · refine j_tsIn (pc := 1) (tgt := 156) 7 dX11_count_1 h1 (by decide) ⟨by decide, by decide⟩ rfl rfl ?_
    refine j_aload_n (pc := 156) dX11_count_156 rfl rfl ?_
    refine j_getR (pc := 157) (r := 10) fl_X11_19 dX11_count_157 (a_0 hX) rfl ?_
    refine j_getI (pc := 160) fl_X11_106 dX11_count_160 (a_10 hX) rfl ?_
    have f29 : (0 : Int) ≤ σ 10 10 ∧ σ 10 10 ≤ 400 := hI 10 10
    exact j_iret (pc := 163) ⟨rfl, rfl⟩ dX11_count_163 rfl ⟨_, rfl, ⟨by omega, by omega⟩, rfl, trivial⟩
  · refine j_tsIn (pc := 1) (tgt := 164) 8 dX11_count_1 h1 (by decide) ⟨by decide, by decide⟩ rfl rfl ?_
    refine j_aload_n (pc := 164) dX11_count_164 rfl rfl ?_
    refine j_getR (pc := 165) (r := 79) fl_X11_87 dX11_count_165 (a_0 hX) rfl ?_
    refine j_iconst (pc := 168) dX11_count_168 ?_
    refine j_aald (pc := 169) (r := 80) dX11_count_169 (a_79 hX) (by decide) (by decide) rfl (by decide) ?_
    refine j_getI (pc := 170) fl_X11_409 dX11_count_170 (a_80 hX) rfl ?_
    have f30 : (0 : Int) ≤ σ 80 1 ∧ σ 80 1 ≤ 1 := hI 80 1
    refine j_ifR_eq (pc := 173) (tgt := 188) ⟨by omega, by omega⟩ dX11_count_173 rfl (fun h31 => ?_) (fun h31 => ?_)
    · refine j_bipush (pc := 188) dX11_count_188 rfl ?_
      exact j_iret (pc := 190) ⟨rfl, rfl⟩ dX11_count_190 rfl ⟨_, rfl, ⟨by omega, by omega⟩, rfl, trivial⟩
    · refine j_aload_n (pc := 176) dX11_count_176 rfl rfl ?_
      refine j_getR (pc := 177) (r := 79) fl_X11_87 dX11_count_177 (a_0 hX) rfl ?_
      refine j_iconst (pc := 180) dX11_count_180 ?_
      refine j_aald (pc := 181) (r := 80) dX11_count_181 (a_79 hX) (by decide) (by decide) rfl (by decide) ?_
      refine j_getI (pc := 182) fl_X11_429 dX11_count_182 (a_80 hX) rfl ?_
      have f32 : (0 : Int) ≤ σ 80 3 ∧ σ 80 3 ≤ 40 := hI 80 3
      refine j_goto (pc := 185) (tgt := 190) dX11_count_185 rfl ?_
      exact j_iret (pc := 190) ⟨rfl, rfl⟩ dX11_count_190 rfl ⟨_, rfl, ⟨by omega, by omega⟩, rfl, trivial⟩
  · refine j_tsOut (pc := 1) (tgt := 191) dX11_count_1 ⟨by omega, by omega⟩ (Or.inr h1) rfl ?_
    refine j_iconst (pc := 191) dX11_count_191 ?_
    exact j_iret (pc := 192) ⟨rfl, rfl⟩ dX11_count_192 rfl ⟨_, rfl, ⟨by omega, by omega⟩, rfl, trivial⟩
