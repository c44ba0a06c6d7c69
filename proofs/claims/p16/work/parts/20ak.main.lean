/-! 20ak.main -/
theorem dX11_foot_0 : decode cX11_foot 0 = .ok (.aload_n 0, 1) := by decide +kernel
theorem dX11_foot_1 : decode cX11_foot 1 = .ok (.getfield 10, 3) := by decide +kernel
theorem dX11_foot_4 : decode cX11_foot 4 = .ok (.iload_n 1, 1) := by decide +kernel
theorem dX11_foot_5 : decode cX11_foot 5 = .ok (.invokevirtual 149, 3) := by decide +kernel
theorem dX11_foot_8 : decode cX11_foot 8 = .ok (.ifCond .ne 5, 3) := by decide +kernel
theorem dX11_foot_11 : decode cX11_foot 11 = .ok (.iconst (-1), 1) := by decide +kernel
theorem dX11_foot_12 : decode cX11_foot 12 = .ok (.ireturn, 1) := by decide +kernel
theorem dX11_foot_13 : decode cX11_foot 13 = .ok (.iload_n 2, 1) := by decide +kernel
theorem dX11_foot_14 : decode cX11_foot 14 = .ok (.tableswitch 100 0 5 #[38, 48, 58, 68, 78, 88], 38) := by decide +kernel
theorem dX11_foot_52 : decode cX11_foot 52 = .ok (.aload_n 0, 1) := by decide +kernel
theorem dX11_foot_53 : decode cX11_foot 53 = .ok (.getfield 10, 3) := by decide +kernel
theorem dX11_foot_56 : decode cX11_foot 56 = .ok (.getfield 153, 3) := by decide +kernel
theorem dX11_foot_59 : decode cX11_foot 59 = .ok (.iload_n 1, 1) := by decide +kernel
theorem dX11_foot_60 : decode cX11_foot 60 = .ok (.iaload, 1) := by decide +kernel
theorem dX11_foot_61 : decode cX11_foot 61 = .ok (.ireturn, 1) := by decide +kernel
theorem dX11_foot_62 : decode cX11_foot 62 = .ok (.aload_n 0, 1) := by decide +kernel
theorem dX11_foot_63 : decode cX11_foot 63 = .ok (.getfield 10, 3) := by decide +kernel
theorem dX11_foot_66 : decode cX11_foot 66 = .ok (.getfield 156, 3) := by decide +kernel
theorem dX11_foot_69 : decode cX11_foot 69 = .ok (.iload_n 1, 1) := by decide +kernel
theorem dX11_foot_70 : decode cX11_foot 70 = .ok (.iaload, 1) := by decide +kernel
theorem dX11_foot_71 : decode cX11_foot 71 = .ok (.ireturn, 1) := by decide +kernel
theorem dX11_foot_72 : decode cX11_foot 72 = .ok (.aload_n 0, 1) := by decide +kernel
theorem dX11_foot_73 : decode cX11_foot 73 = .ok (.getfield 10, 3) := by decide +kernel
theorem dX11_foot_76 : decode cX11_foot 76 = .ok (.getfield 159, 3) := by decide +kernel
theorem dX11_foot_79 : decode cX11_foot 79 = .ok (.iload_n 1, 1) := by decide +kernel
theorem dX11_foot_80 : decode cX11_foot 80 = .ok (.iaload, 1) := by decide +kernel
theorem dX11_foot_81 : decode cX11_foot 81 = .ok (.ireturn, 1) := by decide +kernel
theorem dX11_foot_82 : decode cX11_foot 82 = .ok (.aload_n 0, 1) := by decide +kernel
theorem dX11_foot_83 : decode cX11_foot 83 = .ok (.getfield 10, 3) := by decide +kernel
theorem dX11_foot_86 : decode cX11_foot 86 = .ok (.getfield 162, 3) := by decide +kernel
theorem dX11_foot_89 : decode cX11_foot 89 = .ok (.iload_n 1, 1) := by decide +kernel
theorem dX11_foot_90 : decode cX11_foot 90 = .ok (.iaload, 1) := by decide +kernel
theorem dX11_foot_91 : decode cX11_foot 91 = .ok (.ireturn, 1) := by decide +kernel
theorem dX11_foot_92 : decode cX11_foot 92 = .ok (.aload_n 0, 1) := by decide +kernel
theorem dX11_foot_93 : decode cX11_foot 93 = .ok (.getfield 10, 3) := by decide +kernel
theorem dX11_foot_96 : decode cX11_foot 96 = .ok (.getfield 165, 3) := by decide +kernel
theorem dX11_foot_99 : decode cX11_foot 99 = .ok (.iload_n 1, 1) := by decide +kernel
theorem dX11_foot_100 : decode cX11_foot 100 = .ok (.iaload, 1) := by decide +kernel
theorem dX11_foot_101 : decode cX11_foot 101 = .ok (.ireturn, 1) := by decide +kernel
theorem dX11_foot_102 : decode cX11_foot 102 = .ok (.aload_n 0, 1) := by decide +kernel
theorem dX11_foot_103 : decode cX11_foot 103 = .ok (.getfield 26, 3) := by decide +kernel
theorem dX11_foot_106 : decode cX11_foot 106 = .ok (.getfield 168, 3) := by decide +kernel
theorem dX11_foot_109 : decode cX11_foot 109 = .ok (.iload_n 1, 1) := by decide +kernel
theorem dX11_foot_110 : decode cX11_foot 110 = .ok (.invokevirtual 172, 3) := by decide +kernel
theorem dX11_foot_113 : decode cX11_foot 113 = .ok (.ireturn, 1) := by decide +kernel
theorem dX11_foot_114 : decode cX11_foot 114 = .ok (.iconst (-1), 1) := by decide +kernel
theorem dX11_foot_115 : decode cX11_foot 115 = .ok (.ireturn, 1) := by decide +kernel
abbrev q_X11_foot (h : Int) (w : Int) (σ : tw_M) : Option tw_V → tw_M → Prop := fun z τ => ∃ r : Int, z = some (vI r) ∧ (-2147483648 ≤ r ∧ r ≤ 2147483647) ∧ σ = τ ∧ ((r = -1 ∧ (¬ (1 ≤ h ∧ h ≤ σ 2 0) ∨ ¬ (0 ≤ w ∧ w ≤ 5))) ∨ ((1 ≤ h ∧ h ≤ σ 2 0) ∧ ((w = 0 ∧ r = σ 4 h.toNat) ∨ (w = 1 ∧ r = σ 5 h.toNat) ∨ (w = 2 ∧ r = σ 6 h.toNat) ∨ (w = 3 ∧ r = σ 7 h.toNat) ∨ (w = 4 ∧ r = σ 8 h.toNat) ∨ (w = 5 ∧ ((0 ≤ r ∧ r < σ 24 0 ∧ σ 25 r.toNat = h) ∨ (r = -4 ∧ ∀ k : Nat, (k : Int) < σ 24 0 → ¬ σ 25 k = h))))))
set_option maxHeartbeats 4000000 in
set_option maxRecDepth 100000 in
theorem c_X11_foot {G : tw_G} (hX : tw_isX G) (h : Int) (hh : -2147483648 ≤ h ∧ h ≤ 2147483647) (w : Int) (hw : -2147483648 ≤ w ∧ w ≤ 2147483647) (σ : tw_M) (hI : tw_I σ) : tw_C G yX11_foot cX11_foot 3 (some .int) 1 [vR 0, vI h, vI w] σ (q_X11_foot h w σ) := by
  refine tw_met [(0, vR 0), (1, vI h), (2, vI w)] (by decide +kernel) rfl (Nat.le_of_ble_eq_true rfl) ?_
  refine j_aload_n (pc := 0) dX11_foot_0 rfl rfl ?_
  refine j_getR (pc := 1) (r := 1) fl_X11_10 dX11_foot_1 (a_0 hX) rfl ?_
  refine j_iload_n (pc := 4) dX11_foot_4 rfl rfl ?_
  refine j_callV (pc := 5) (As := [vI h]) (st := []) (c_X10_isFoot 1 (s_Wall_1 hX) h ⟨by omega, by omega⟩ σ hI) mv_X11_149 rfl rfl rfl (a_1 hX) dX11_foot_5 ⟨Nat.le_of_ble_eq_true rfl, Nat.le_of_ble_eq_true rfl⟩ ⟨Nat.le_refl _, Nat.le_refl _⟩ rfl (Nat.le_of_ble_eq_true rfl) rfl (fun z1 σ2 hz1 => ?_)
  obtain ⟨r4, rfl, hr4, rfl, q3_0⟩ := hz1
  replace q3_0 : (r4 = 1 ∧ 1 ≤ h ∧ h ≤ σ 2 0 ∧ h ≤ 40) ∨ (r4 = 0 ∧ ¬ (1 ≤ h ∧ h ≤ σ 2 0)) := q3_0
  refine j_st (st' := [vI r4]) rfl ?_
  refine j_ifR_ne (pc := 8) (tgt := 13) ⟨by omega, by omega⟩ dX11_foot_8 rfl (fun h5 => ?_) (fun h5 => ?_)
  · refine j_iload_n (pc := 13) dX11_foot_13 rfl rfl ?_
    rcases (show w < 0 ∨ w = 0 ∨ w = 1 ∨ w = 2 ∨ w = 3 ∨ w = 4 ∨ w = 5 ∨ 5 < w from by omega) with h6 | h6 | h6 | h6 | h6 | h6 | h6 | h6
    · refine j_tsOut (pc := 14) (tgt := 114) dX11_foot_14 ⟨by omega, by omega⟩ (Or.inl h6) rfl ?_
      refine j_iconst (pc := 114) dX11_foot_114 ?_
      exact j_iret (pc := 115) ⟨rfl, rfl⟩ dX11_foot_115 rfl ⟨_, rfl, ⟨by omega, by omega⟩, rfl, (by first | exact Or.inl ⟨rfl, by omega⟩ | exact Or.inr ⟨by omega, Or.inl ⟨by omega, rfl⟩⟩ | exact Or.inr ⟨by omega, Or.inr (Or.inl ⟨by omega, rfl⟩)⟩ | exact Or.inr ⟨by omega, Or.inr (Or.inr (Or.inl ⟨by omega, rfl⟩))⟩ | exact Or.inr ⟨by omega, Or.inr (Or.inr (Or.inr (Or.inl ⟨by omega, rfl⟩)))⟩ | exact Or.inr ⟨by omega, Or.inr (Or.inr (Or.inr (Or.inr (Or.inl ⟨by omega, rfl⟩))))⟩ | exact Or.inr ⟨by omega, Or.inr (Or.inr (Or.inr (Or.inr (Or.inr (⟨by omega, fa⟩)))))⟩)⟩
    · refine j_tsIn (pc := 14) (tgt := 52) 0 dX11_foot_14 h6 (by decide) ⟨by decide, by decide⟩ rfl rfl ?_
      refine j_aload_n (pc := 52) dX11_foot_52 rfl rfl ?_
      refine j_getR (pc := 53) (r := 1) fl_X11_10 dX11_foot_53 (a_0 hX) rfl ?_
      refine j_getR (pc := 56) (r := 4) fl_X11_153 dX11_foot_56 (a_1 hX) rfl ?_
      refine j_iload_n (pc := 59) dX11_foot_59 rfl rfl ?_
      refine j_iald (pc := 60) dX11_foot_60 (a_4 hX) (by omega) (by omega) (by decide) ?_
      have f7 : (0 : Int) ≤ σ 4 (h.toNat) ∧ σ 4 (h.toNat) ≤ 9 := hI 4 (h.toNat)
      exact j_iret (pc := 61) ⟨rfl, rfl⟩ dX11_foot_61 rfl ⟨_, rfl, ⟨by omega, by omega⟩, rfl, (by first | exact Or.inl ⟨rfl, by omega⟩ | exact Or.inr ⟨by omega, Or.inl ⟨by omega, rfl⟩⟩ | exact Or.inr ⟨by omega, Or.inr (Or.inl ⟨by omega, rfl⟩)⟩ | exact Or.inr ⟨by omega, Or.inr (Or.inr (Or.inl ⟨by omega, rfl⟩))⟩ | exact Or.inr ⟨by omega, Or.inr (Or.inr (Or.inr (Or.inl ⟨by omega, rfl⟩)))⟩ | exact Or.inr ⟨by omega, Or.inr (Or.inr (Or.inr (Or.inr (Or.inl ⟨by omega, rfl⟩))))⟩ | exact Or.inr ⟨by omega, Or.inr (Or.inr (Or.inr (Or.inr (Or.inr (⟨by omega, fa⟩)))))⟩)⟩
    · refine j_tsIn (pc := 14) (tgt := 62) 1 dX11_foot_14 h6 (by decide) ⟨by decide, by decide⟩ rfl rfl ?_
      refine j_aload_n (pc := 62) dX11_foot_62 rfl rfl ?_
      refine j_getR (pc := 63) (r := 1) fl_X11_10 dX11_foot_63 (a_0 hX) rfl ?_
      refine j_getR (pc := 66) (r := 5) fl_X11_156 dX11_foot_66 (a_1 hX) rfl ?_
      refine j_iload_n (pc := 69) dX11_foot_69 rfl rfl ?_
      refine j_iald (pc := 70) dX11_foot_70 (a_5 hX) (by omega) (by omega) (by decide) ?_
      have f8 : (0 : Int) ≤ σ 5 (h.toNat) ∧ σ 5 (h.toNat) ≤ 10 := hI 5 (h.toNat)
      exact j_iret (pc := 71) ⟨rfl, rfl⟩ dX11_foot_71 rfl ⟨_, rfl, ⟨by omega, by omega⟩, rfl, (by first | exact Or.inl ⟨rfl, by omega⟩ | exact Or.inr ⟨by omega, Or.inl ⟨by omega, rfl⟩⟩ | exact Or.inr ⟨by omega, Or.inr (Or.inl ⟨by omega, rfl⟩)⟩ | exact Or.inr ⟨by omega, Or.inr (Or.inr (Or.inl ⟨by omega, rfl⟩))⟩ | exact Or.inr ⟨by omega, Or.inr (Or.inr (Or.inr (Or.inl ⟨by omega, rfl⟩)))⟩ | exact Or.inr ⟨by omega, Or.inr (Or.inr (Or.inr (Or.inr (Or.inl ⟨by omega, rfl⟩))))⟩ | exact Or.inr ⟨by omega, Or.inr (Or.inr (Or.inr (Or.inr (Or.inr (⟨by omega, fa⟩)))))⟩)⟩
    · refine j_tsIn (pc := 14) (tgt := 72) 2 dX11_foot_14 h6 (by decide) ⟨by decide, by decide⟩ rfl rfl ?_
      refine j_aload_n (pc := 72) dX11_foot_72 rfl rfl ?_
      refine j_getR (pc := 73) (r := 1) fl_X11_10 dX11_foot_73 (a_0 hX) rfl ?_
      refine j_getR (pc := 76) (r := 6) fl_X11_159 dX11_foot_76 (a_1 hX) rfl ?_
      refine j_iload_n (pc := 79) dX11_foot_79 rfl rfl ?_
      refine j_iald (pc := 80) dX11_foot_80 (a_6 hX) (by omega) (by omega) (by decide) ?_
      have f9 : (0 : Int) ≤ σ 6 (h.toNat) ∧ σ 6 (h.toNat) ≤ 1 := hI 6 (h.toNat)
      exact j_iret (pc := 81) ⟨rfl, rfl⟩ dX11_foot_81 rfl ⟨_, rfl, ⟨by omega, by omega⟩, rfl, (by first | exact Or.inl ⟨rfl, by omega⟩ | exact Or.inr ⟨by omega, Or.inl ⟨by omega, rfl⟩⟩ | exact Or.inr ⟨by omega, Or.inr (Or.inl ⟨by omega, rfl⟩)⟩ | exact Or.inr ⟨by omega, Or.inr (Or.inr (Or.inl ⟨by omega, rfl⟩))⟩ | exact Or.inr ⟨by omega, Or.inr (Or.inr (Or.inr (Or.inl ⟨by omega, rfl⟩)))⟩ | exact Or.inr ⟨by omega, Or.inr (Or.inr (Or.inr (Or.inr (Or.inl ⟨by omega, rfl⟩))))⟩ | exact Or.inr ⟨by omega, Or.inr (Or.inr (Or.inr (Or.inr (Or.inr (⟨by omega, fa⟩)))))⟩)⟩
    · refine j_tsIn (pc := 14) (tgt := 82) 3 dX11_foot_14 h6 (by decide) ⟨by decide, by decide⟩ rfl rfl ?_
      refine j_aload_n (pc := 82) dX11_foot_82 rfl rfl ?_
      refine j_getR (pc := 83) (r := 1) fl_X11_10 dX11_foot_83 (a_0 hX) rfl ?_
      refine j_getR (pc := 86) (r := 7) fl_X11_162 dX11_foot_86 (a_1 hX) rfl ?_
      refine j_iload_n (pc := 89) dX11_foot_89 rfl rfl ?_
      refine j_iald (pc := 90) dX11_foot_90 (a_7 hX) (by omega) (by omega) (by decide) ?_
      have f10 : (0 : Int) ≤ σ 7 (h.toNat) ∧ σ 7 (h.toNat) ≤ 1 := hI 7 (h.toNat)
      exact j_iret (pc := 91) ⟨rfl, rfl⟩ dX11_foot_91 rfl ⟨_, rfl, ⟨by omega, by omega⟩, rfl, (by first | exact Or.inl ⟨rfl, by omega⟩ | exact Or.inr ⟨by omega, Or.inl ⟨by omega, rfl⟩⟩ | exact Or.inr ⟨by omega, Or.inr (Or.inl ⟨by omega, rfl⟩)⟩ | exact Or.inr ⟨by omega, Or.inr (Or.inr (Or.inl ⟨by omega, rfl⟩))⟩ | exact Or.inr ⟨by omega, Or.inr (Or.inr (Or.inr (Or.inl ⟨by omega, rfl⟩)))⟩ | exact Or.inr ⟨by omega, Or.inr (Or.inr (Or.inr (Or.inr (Or.inl ⟨by omega, rfl⟩))))⟩ | exact Or.inr ⟨by omega, Or.inr (Or.inr (Or.inr (Or.inr (Or.inr (⟨by omega, fa⟩)))))⟩)⟩
    · refine j_tsIn (pc := 14) (tgt := 92) 4 dX11_foot_14 h6 (by decide) ⟨by decide, by decide⟩ rfl rfl ?_
      refine j_aload_n (pc := 92) dX11_foot_92 rfl rfl ?_
      refine j_getR (pc := 93) (r := 1) fl_X11_10 dX11_foot_93 (a_0 hX) rfl ?_
      refine j_getR (pc := 96) (r := 8) fl_X11_165 dX11_foot_96 (a_1 hX) rfl ?_
      refine j_iload_n (pc := 99) dX11_foot_99 rfl rfl ?_
      refine j_iald (pc := 100) dX11_foot_100 (a_8 hX) (by omega) (by omega) (by decide) ?_
      have f11 : (0 : Int) ≤ σ 8 (h.toNat) ∧ σ 8 (h.toNat) ≤ 9 := hI 8 (h.toNat)
      exact j_iret (pc := 101) ⟨rfl, rfl⟩ dX11_foot_101 rfl ⟨_, rfl, ⟨by omega, by omega⟩, rfl, (by first | exact Or.inl ⟨rfl, by omega⟩ | exact Or.inr ⟨by omega, Or.inl ⟨by omega, rfl⟩⟩ | exact Or.inr ⟨by omega, Or.inr (Or.inl ⟨by omega, rfl⟩)⟩ | exact Or.inr ⟨by omega, Or.inr (Or.inr (Or.inl ⟨by omega, rfl⟩))⟩ | exact Or.inr ⟨by omega, Or.inr (Or.inr (Or.inr (Or.inl ⟨by omega, rfl⟩)))⟩ | exact Or.inr ⟨by omega, Or.inr (Or.inr (Or.inr (Or.inr (Or.inl ⟨by omega, rfl⟩))))⟩ | exact Or.inr ⟨by omega, Or.inr (Or.inr (Or.inr (Or.inr (Or.inr (⟨by omega, fa⟩)))))⟩)⟩
    · refine j_tsIn (pc := 14) (tgt := 102) 5 dX11_foot_14 h6 (by decide) ⟨by decide, by decide⟩ rfl rfl ?_
      refine j_aload_n (pc := 102) dX11_foot_102 rfl rfl ?_
      refine j_getR (pc := 103) (r := 23) fl_X11_26 dX11_foot_103 (a_0 hX) rfl ?_
      refine j_getR (pc := 106) (r := 24) fl_X11_168 dX11_foot_106 (a_23 hX) rfl ?_
      refine j_iload_n (pc := 109) dX11_foot_109 rfl rfl ?_
      refine j_callV (pc := 110) (As := [vI h]) (st := []) (c_X7_at 24 (s_Row_24 hX) h ⟨by omega, by omega⟩ σ hI) mv_X11_172 rfl rfl rfl (a_24 hX) dX11_foot_110 ⟨Nat.le_of_ble_eq_true rfl, Nat.le_of_ble_eq_true rfl⟩ ⟨Nat.le_refl _, Nat.le_refl _⟩ rfl (Nat.le_of_ble_eq_true rfl) rfl (fun z12 σ13 hz12 => ?_)
      obtain ⟨r15, rfl, hr15, rfl, q14_0, q14_1, q14_2⟩ := hz12
      replace q14_0 : r15 < σ 24 0 := q14_0
      replace q14_1 : -1 < r15 ∨ r15 = -4 := q14_1
      replace q14_2 : (0 ≤ r15 ∧ r15 < σ 24 0 ∧ σ 25 r15.toNat = h) ∨ (r15 = -4 ∧ ∀ k : Nat, (k : Int) < σ 24 0 → ¬ σ 25 k = h) := q14_2
      refine j_st (st' := [vI r15]) rfl ?_
      have fa := q14_2
      exact j_iret (pc := 113) ⟨rfl, rfl⟩ dX11_foot_113 rfl ⟨_, rfl, ⟨by omega, by omega⟩, rfl, (by first | exact Or.inl ⟨rfl, by omega⟩ | exact Or.inr ⟨by omega, Or.inl ⟨by omega, rfl⟩⟩ | exact Or.inr ⟨by omega, Or.inr (Or.inl ⟨by omega, rfl⟩)⟩ | exact Or.inr ⟨by omega, Or.inr (Or.inr (Or.inl ⟨by omega, rfl⟩))⟩ | exact Or.inr ⟨by omega, Or.inr (Or.inr (Or.inr (Or.inl ⟨by omega, rfl⟩)))⟩ | exact Or.inr ⟨by omega, Or.inr (Or.inr (Or.inr (Or.inr (Or.inl ⟨by omega, rfl⟩))))⟩ | exact Or.inr ⟨by omega, Or.inr (Or.inr (Or.inr (Or.inr (Or.inr (⟨by omega, fa⟩)))))⟩)⟩
    · refine j_tsOut (pc := 14) (tgt := 114) dX11_foot_14 ⟨by omega, by omega⟩ (Or.inr h6) rfl ?_
      refine j_iconst (pc := 114) dX11_foot_114 ?_
      exact j_iret (pc := 115) ⟨rfl, rfl⟩ dX11_foot_115 rfl ⟨_, rfl, ⟨by omega, by omega⟩, rfl, (by first | exact Or.inl ⟨rfl, by omega⟩ | exact Or.inr ⟨by omega, Or.inl ⟨by omega, rfl⟩⟩ | exact Or.inr ⟨by omega, Or.inr (Or.inl ⟨by omega, rfl⟩)⟩ | exact Or.inr ⟨by omega, Or.inr (Or.inr (Or.inl ⟨by omega, rfl⟩))⟩ | exact Or.inr ⟨by omega, Or.inr (Or.inr (Or.inr (Or.inl ⟨by omega, rfl⟩)))⟩ | exact Or.inr ⟨by omega, Or.inr (Or.inr (Or.inr (Or.inr (Or.inl ⟨by omega, rfl⟩))))⟩ | exact Or.inr ⟨by omega, Or.inr (Or.inr (Or.inr (Or.inr (Or.inr (⟨by omega, fa⟩)))))⟩)⟩
  · refine j_iconst (pc := 11) dX11_foot_11 ?_
    exact j_iret (pc := 12) ⟨rfl, rfl⟩ dX11_foot_12 rfl ⟨_, rfl, ⟨by omega, by omega⟩, rfl, (by first | exact Or.inl ⟨rfl, by omega⟩ | exact Or.inr ⟨by omega, Or.inl ⟨by omega, rfl⟩⟩ | exact Or.inr ⟨by omega, Or.inr (Or.inl ⟨by omega, rfl⟩)⟩ | exact Or.inr ⟨by omega, Or.inr (Or.inr (Or.inl ⟨by omega, rfl⟩))⟩ | exact Or.inr ⟨by omega, Or.inr (Or.inr (Or.inr (Or.inl ⟨by omega, rfl⟩)))⟩ | exact Or.inr ⟨by omega, Or.inr (Or.inr (Or.inr (Or.inr (Or.inl ⟨by omega, rfl⟩))))⟩ | exact Or.inr ⟨by omega, Or.inr (Or.inr (Or.inr (Or.inr (Or.inr (⟨by omega, fa⟩)))))⟩)⟩
