/-! 20aq.main -/
theorem dX11_fall_0 : decode cX11_fall 0 = .ok (.aload_n 0, 1) := by decide +kernel
theorem dX11_fall_1 : decode cX11_fall 1 = .ok (.getfield 10, 3) := by decide +kernel
theorem dX11_fall_4 : decode cX11_fall 4 = .ok (.iload_n 1, 1) := by decide +kernel
theorem dX11_fall_5 : decode cX11_fall 5 = .ok (.invokevirtual 149, 3) := by decide +kernel
theorem dX11_fall_8 : decode cX11_fall 8 = .ok (.ifCond .eq 17, 3) := by decide +kernel
theorem dX11_fall_11 : decode cX11_fall 11 = .ok (.aload_n 0, 1) := by decide +kernel
theorem dX11_fall_12 : decode cX11_fall 12 = .ok (.getfield 26, 3) := by decide +kernel
theorem dX11_fall_15 : decode cX11_fall 15 = .ok (.getfield 168, 3) := by decide +kernel
theorem dX11_fall_18 : decode cX11_fall 18 = .ok (.iload_n 2, 1) := by decide +kernel
theorem dX11_fall_19 : decode cX11_fall 19 = .ok (.invokevirtual 211, 3) := by decide +kernel
theorem dX11_fall_22 : decode cX11_fall 22 = .ok (.ifCond .ne 5, 3) := by decide +kernel
theorem dX11_fall_25 : decode cX11_fall 25 = .ok (.iconst (-1), 1) := by decide +kernel
theorem dX11_fall_26 : decode cX11_fall 26 = .ok (.ireturn, 1) := by decide +kernel
theorem dX11_fall_27 : decode cX11_fall 27 = .ok (.aload_n 0, 1) := by decide +kernel
theorem dX11_fall_28 : decode cX11_fall 28 = .ok (.getfield 42, 3) := by decide +kernel
theorem dX11_fall_31 : decode cX11_fall 31 = .ok (.aload_n 0, 1) := by decide +kernel
theorem dX11_fall_32 : decode cX11_fall 32 = .ok (.getfield 10, 3) := by decide +kernel
theorem dX11_fall_35 : decode cX11_fall 35 = .ok (.aload_n 0, 1) := by decide +kernel
theorem dX11_fall_36 : decode cX11_fall 36 = .ok (.getfield 26, 3) := by decide +kernel
theorem dX11_fall_39 : decode cX11_fall 39 = .ok (.getfield 168, 3) := by decide +kernel
theorem dX11_fall_42 : decode cX11_fall 42 = .ok (.iload_n 1, 1) := by decide +kernel
theorem dX11_fall_43 : decode cX11_fall 43 = .ok (.iload_n 2, 1) := by decide +kernel
theorem dX11_fall_44 : decode cX11_fall 44 = .ok (.invokevirtual 214, 3) := by decide +kernel
theorem dX11_fall_47 : decode cX11_fall 47 = .ok (.iload_n 3, 1) := by decide +kernel
theorem dX11_fall_48 : decode cX11_fall 48 = .ok (.tableswitch 92 0 5 #[40, 52, 60, 68, 76, 84], 40) := by decide +kernel
theorem dX11_fall_88 : decode cX11_fall 88 = .ok (.iconst 0, 1) := by decide +kernel
theorem dX11_fall_89 : decode cX11_fall 89 = .ok (.aload_n 0, 1) := by decide +kernel
theorem dX11_fall_90 : decode cX11_fall 90 = .ok (.getfield 42, 3) := by decide +kernel
theorem dX11_fall_93 : decode cX11_fall 93 = .ok (.getfield 218, 3) := by decide +kernel
theorem dX11_fall_96 : decode cX11_fall 96 = .ok (.invokestatic 221, 3) := by decide +kernel
theorem dX11_fall_99 : decode cX11_fall 99 = .ok (.ireturn, 1) := by decide +kernel
theorem dX11_fall_100 : decode cX11_fall 100 = .ok (.aload_n 0, 1) := by decide +kernel
theorem dX11_fall_101 : decode cX11_fall 101 = .ok (.getfield 42, 3) := by decide +kernel
theorem dX11_fall_104 : decode cX11_fall 104 = .ok (.getfield 227, 3) := by decide +kernel
theorem dX11_fall_107 : decode cX11_fall 107 = .ok (.ireturn, 1) := by decide +kernel
theorem dX11_fall_108 : decode cX11_fall 108 = .ok (.aload_n 0, 1) := by decide +kernel
theorem dX11_fall_109 : decode cX11_fall 109 = .ok (.getfield 42, 3) := by decide +kernel
theorem dX11_fall_112 : decode cX11_fall 112 = .ok (.getfield 230, 3) := by decide +kernel
theorem dX11_fall_115 : decode cX11_fall 115 = .ok (.ireturn, 1) := by decide +kernel
theorem dX11_fall_116 : decode cX11_fall 116 = .ok (.aload_n 0, 1) := by decide +kernel
theorem dX11_fall_117 : decode cX11_fall 117 = .ok (.getfield 42, 3) := by decide +kernel
theorem dX11_fall_120 : decode cX11_fall 120 = .ok (.getfield 233, 3) := by decide +kernel
theorem dX11_fall_123 : decode cX11_fall 123 = .ok (.ireturn, 1) := by decide +kernel
theorem dX11_fall_124 : decode cX11_fall 124 = .ok (.aload_n 0, 1) := by decide +kernel
theorem dX11_fall_125 : decode cX11_fall 125 = .ok (.getfield 42, 3) := by decide +kernel
theorem dX11_fall_128 : decode cX11_fall 128 = .ok (.getfield 236, 3) := by decide +kernel
theorem dX11_fall_131 : decode cX11_fall 131 = .ok (.ireturn, 1) := by decide +kernel
theorem dX11_fall_132 : decode cX11_fall 132 = .ok (.aload_n 0, 1) := by decide +kernel
theorem dX11_fall_133 : decode cX11_fall 133 = .ok (.getfield 42, 3) := by decide +kernel
theorem dX11_fall_136 : decode cX11_fall 136 = .ok (.getfield 239, 3) := by decide +kernel
theorem dX11_fall_139 : decode cX11_fall 139 = .ok (.ireturn, 1) := by decide +kernel
theorem dX11_fall_140 : decode cX11_fall 140 = .ok (.iconst (-1), 1) := by decide +kernel
theorem dX11_fall_141 : decode cX11_fall 141 = .ok (.ireturn, 1) := by decide +kernel
abbrev q_X11_fall (h : Int) (g : Int) (w : Int) (σ : tw_M) : Option tw_V → tw_M → Prop := fun z τ => ∃ r : Int, z = some (vI r) ∧ (-2147483648 ≤ r ∧ r ≤ 2147483647) ∧ tw_I τ ∧ tw_F (fun c j => c = 55) σ τ ∧ True
set_option maxHeartbeats 4000000 in
set_option maxRecDepth 100000 in
theorem c_X11_fall {G : tw_G} (hX : tw_isX G) (h : Int) (hh : -2147483648 ≤ h ∧ h ≤ 2147483647) (g : Int) (hg : -2147483648 ≤ g ∧ g ≤ 2147483647) (w : Int) (hw : -2147483648 ≤ w ∧ w ≤ 2147483647) (σ : tw_M) (hI : tw_I σ) : tw_C G yX11_fall cX11_fall 4 (some .int) 2 [vR 0, vI h, vI g, vI w] σ (q_X11_fall h g w σ) := by
  refine tw_met [(0, vR 0), (1, vI h), (2, vI g), (3, vI w)] (by decide +kernel) rfl (Nat.le_of_ble_eq_true rfl) ?_
  refine j_aload_n (pc := 0) dX11_fall_0 rfl rfl ?_
  refine j_getR (pc := 1) (r := 1) fl_X11_10 dX11_fall_1 (a_0 hX) rfl ?_
  refine j_iload_n (pc := 4) dX11_fall_4 rfl rfl ?_
  refine j_callV (pc := 5) (As := [vI h]) (st := []) (c_X10_isFoot 1 (s_Wall_1 hX) h ⟨by omega, by omega⟩ σ hI) mv_X11_149 rfl rfl rfl (a_1 hX) dX11_fall_5 ⟨Nat.le_of_ble_eq_true rfl, Nat.le_of_ble_eq_true rfl⟩ ⟨Nat.le_refl _, Nat.le_refl _⟩ rfl (Nat.le_of_ble_eq_true rfl) rfl (fun z1 σ2 hz1 => ?_)
  obtain ⟨r4, rfl, hr4, rfl, q3_0⟩ := hz1
  replace q3_0 : (r4 = 1 ∧ 1 ≤ h ∧ h ≤ σ 2 0 ∧ h ≤ 40) ∨ (r4 = 0 ∧ ¬ (1 ≤ h ∧ h ≤ σ 2 0)) := q3_0
  refine j_st (st' := [vI r4]) rfl ?_
  refine j_ifR_eq (pc := 8) (tgt := 25) ⟨by omega, by omega⟩ dX11_fall_8 rfl (fun h5 => ?_) (fun h5 => ?_)
  · refine j_iconst (pc := 25) dX11_fall_25 ?_
    exact j_iret (pc := 26) ⟨rfl, rfl⟩ dX11_fall_26 rfl ⟨_, rfl, ⟨by omega, by omega⟩, hI, (tw_F_rf), trivial⟩
  · refine j_aload_n (pc := 11) dX11_fall_11 rfl rfl ?_
    refine j_getR (pc := 12) (r := 23) fl_X11_26 dX11_fall_12 (a_0 hX) rfl ?_
    refine j_getR (pc := 15) (r := 24) fl_X11_168 dX11_fall_15 (a_23 hX) rfl ?_
    refine j_iload_n (pc := 18) dX11_fall_18 rfl rfl ?_
    refine j_callV (pc := 19) (As := [vI g]) (st := []) (c_X7_has 24 (s_Row_24 hX) g ⟨by omega, by omega⟩ σ hI) mv_X11_211 rfl rfl rfl (a_24 hX) dX11_fall_19 ⟨Nat.le_of_ble_eq_true rfl, Nat.le_of_ble_eq_true rfl⟩ ⟨Nat.le_refl _, Nat.le_refl _⟩ rfl (Nat.le_of_ble_eq_true rfl) rfl (fun z6 σ7 hz6 => ?_)
    obtain ⟨r9, rfl, hr9, rfl, -⟩ := hz6
    refine j_st (st' := [vI r9]) rfl ?_
    refine j_ifR_ne (pc := 22) (tgt := 27) ⟨by omega, by omega⟩ dX11_fall_22 rfl (fun h10 => ?_) (fun h10 => ?_)
    · refine j_aload_n (pc := 27) dX11_fall_27 rfl rfl ?_
      refine j_getR (pc := 28) (r := 55) fl_X11_42 dX11_fall_28 (a_0 hX) rfl ?_
      refine j_aload_n (pc := 31) dX11_fall_31 rfl rfl ?_
      refine j_getR (pc := 32) (r := 1) fl_X11_10 dX11_fall_32 (a_0 hX) rfl ?_
      refine j_aload_n (pc := 35) dX11_fall_35 rfl rfl ?_
      refine j_getR (pc := 36) (r := 23) fl_X11_26 dX11_fall_36 (a_0 hX) rfl ?_
      refine j_getR (pc := 39) (r := 24) fl_X11_168 dX11_fall_39 (a_23 hX) rfl ?_
      refine j_iload_n (pc := 42) dX11_fall_42 rfl rfl ?_
      refine j_iload_n (pc := 43) dX11_fall_43 rfl rfl ?_
      refine j_callV (pc := 44) (As := [vR 1, vR 24, vI h, vI g]) (st := []) (c_X2_from 55 (s_Fall_55 hX) 1 (s_Wall_1 hX) 24 (s_Row_24 hX) h ⟨by omega, by omega⟩ g ⟨by omega, by omega⟩ σ hI (by omega) (by omega)) mv_X11_214 rfl rfl rfl (a_55 hX) dX11_fall_44 ⟨Nat.le_of_ble_eq_true rfl, Nat.le_of_ble_eq_true rfl⟩ ⟨Nat.le_refl _, Nat.le_refl _⟩ rfl (Nat.le_of_ble_eq_true rfl) rfl (fun z11 σ12 hz11 => ?_)
      obtain ⟨rfl, hIσ12, hGσ12, q13_0, q13_1, q13_2, q13_3⟩ := hz11
      replace q13_0 : ∀ gg qq : Nat → Int, RG 24 gg qq σ → (σ12 55 0, σ12 55 1, σ12 55 2, σ12 55 3) = fallG (wW 1 σ) gg h g h.toNat 0 := q13_0
      replace q13_1 : σ12 55 4 = strS (wW 1 σ) h (σ12 55 0) := q13_1
      replace q13_2 : σ12 55 5 = harS (wW 1 σ) h (σ12 55 0) := q13_2
      replace q13_3 : -40 ≤ σ12 55 5 ∧ σ12 55 5 ≤ 40 := q13_3
      have hFσ12 : tw_F (fun c j => c = 55) σ σ12 := tw_F_tr (tw_F_rf) hGσ12 (fun c j q => (show c = 55 from by replace q : c = 55 := q; exact q))
      refine j_st (st' := []) rfl ?_
      refine j_iload_n (pc := 47) dX11_fall_47 rfl rfl ?_
      rcases (show w < 0 ∨ w = 0 ∨ w = 1 ∨ w = 2 ∨ w = 3 ∨ w = 4 ∨ w = 5 ∨ 5 < w from by omega) with h15 | h15 | h15 | h15 | h15 | h15 | h15 | h15
      · refine j_tsOut (pc := 48) (tgt := 140) dX11_fall_48 ⟨by omega, by omega⟩ (Or.inl h15) rfl ?_
        refine j_iconst (pc := 140) dX11_fall_140 ?_
        exact j_iret (pc := 141) ⟨rfl, rfl⟩ dX11_fall_141 rfl ⟨_, rfl, ⟨by omega, by omega⟩, hIσ12, hFσ12, trivial⟩
      · refine j_tsIn (pc := 48) (tgt := 88) 0 dX11_fall_48 h15 (by decide) ⟨by decide, by decide⟩ rfl rfl ?_
        refine j_iconst (pc := 88) dX11_fall_88 ?_
        refine j_aload_n (pc := 89) dX11_fall_89 rfl rfl ?_
        refine j_getR (pc := 90) (r := 55) fl_X11_42 dX11_fall_90 (a_0 hX) rfl ?_
        refine j_getI (pc := 93) fl_X11_218 dX11_fall_93 (a_55 hX) rfl ?_
        have f16 : (-2147483648 : Int) ≤ σ12 55 0 ∧ σ12 55 0 ≤ 2147483647 := hIσ12 55 0
        refine j_mmax (pc := 96) mm_X11_221 dX11_fall_96 ⟨Nat.le_of_ble_eq_true rfl, Nat.le_of_ble_eq_true rfl⟩ ⟨Nat.le_refl _, Nat.le_refl _⟩ rfl (fun z17 ez17 => ?_)
        have hz17 := tw_max_eq (a := 0) (b := σ12 55 0) ⟨by omega, by omega⟩ ⟨by omega, by omega⟩ ez17
        exact j_iret (pc := 99) ⟨rfl, rfl⟩ dX11_fall_99 rfl ⟨_, rfl, ⟨by omega, by omega⟩, hIσ12, hFσ12, trivial⟩
      · refine j_tsIn (pc := 48) (tgt := 100) 1 dX11_fall_48 h15 (by decide) ⟨by decide, by decide⟩ rfl rfl ?_
        refine j_aload_n (pc := 100) dX11_fall_100 rfl rfl ?_
        refine j_getR (pc := 101) (r := 55) fl_X11_42 dX11_fall_101 (a_0 hX) rfl ?_
        refine j_getI (pc := 104) fl_X11_227 dX11_fall_104 (a_55 hX) rfl ?_
        have f18 : (-2147483648 : Int) ≤ σ12 55 1 ∧ σ12 55 1 ≤ 2147483647 := hIσ12 55 1
        exact j_iret (pc := 107) ⟨rfl, rfl⟩ dX11_fall_107 rfl ⟨_, rfl, ⟨by omega, by omega⟩, hIσ12, hFσ12, trivial⟩
      · refine j_tsIn (pc := 48) (tgt := 108) 2 dX11_fall_48 h15 (by decide) ⟨by decide, by decide⟩ rfl rfl ?_
        refine j_aload_n (pc := 108) dX11_fall_108 rfl rfl ?_
        refine j_getR (pc := 109) (r := 55) fl_X11_42 dX11_fall_109 (a_0 hX) rfl ?_
        refine j_getI (pc := 112) fl_X11_230 dX11_fall_112 (a_55 hX) rfl ?_
        have f19 : (-2147483648 : Int) ≤ σ12 55 2 ∧ σ12 55 2 ≤ 2147483647 := hIσ12 55 2
        exact j_iret (pc := 115) ⟨rfl, rfl⟩ dX11_fall_115 rfl ⟨_, rfl, ⟨by omega, by omega⟩, hIσ12, hFσ12, trivial⟩
      · refine j_tsIn (pc := 48) (tgt := 116) 3 dX11_fall_48 h15 (by decide) ⟨by decide, by decide⟩ rfl rfl ?_
        refine j_aload_n (pc := 116) dX11_fall_116 rfl rfl ?_
        refine j_getR (pc := 117) (r := 55) fl_X11_42 dX11_fall_117 (a_0 hX) rfl ?_
        refine j_getI (pc := 120) fl_X11_233 dX11_fall_120 (a_55 hX) rfl ?_
        have f20 : (-2147483648 : Int) ≤ σ12 55 3 ∧ σ12 55 3 ≤ 2147483647 := hIσ12 55 3
        exact j_iret (pc := 123) ⟨rfl, rfl⟩ dX11_fall_123 rfl ⟨_, rfl, ⟨by omega, by omega⟩, hIσ12, hFσ12, trivial⟩
      · refine j_tsIn (pc := 48) (tgt := 124) 4 dX11_fall_48 h15 (by decide) ⟨by decide, by decide⟩ rfl rfl ?_
        refine j_aload_n (pc := 124) dX11_fall_124 rfl rfl ?_
        refine j_getR (pc := 125) (r := 55) fl_X11_42 dX11_fall_125 (a_0 hX) rfl ?_
        refine j_getI (pc := 128) fl_X11_236 dX11_fall_128 (a_55 hX) rfl ?_
        have f21 : (-2147483648 : Int) ≤ σ12 55 4 ∧ σ12 55 4 ≤ 2147483647 := hIσ12 55 4
        exact j_iret (pc := 131) ⟨rfl, rfl⟩ dX11_fall_131 rfl ⟨_, rfl, ⟨by omega, by omega⟩, hIσ12, hFσ12, trivial⟩
      · refine j_tsIn (pc := 48) (tgt := 132) 5 dX11_fall_48 h15 (by decide) ⟨by decide, by decide⟩ rfl rfl ?_
        refine j_aload_n (pc := 132) dX11_fall_132 rfl rfl ?_
        refine j_getR (pc := 133) (r := 55) fl_X11_42 dX11_fall_133 (a_0 hX) rfl ?_
        refine j_getI (pc := 136) fl_X11_239 dX11_fall_136 (a_55 hX) rfl ?_
        have f22 : (-2147483648 : Int) ≤ σ12 55 5 ∧ σ12 55 5 ≤ 2147483647 := hIσ12 55 5
        exact j_iret (pc := 139) ⟨rfl, rfl⟩ dX11_fall_139 rfl ⟨_, rfl, ⟨by omega, by omega⟩, hIσ12, hFσ12, trivial⟩
      · refine j_tsOut (pc := 48) (tgt := 140) dX11_fall_48 ⟨by omega, by omega⟩ (Or.inr h15) rfl ?_
        refine j_iconst (pc := 140) dX11_fall_140 ?_
        exact j_iret (pc := 141) ⟨rfl, rfl⟩ dX11_fall_141 rfl ⟨_, rfl, ⟨by omega, by omega⟩, hIσ12, hFσ12, trivial⟩
    · refine j_iconst (pc := 25) dX11_fall_25 ?_
      exact j_iret (pc := 26) ⟨rfl, rfl⟩ dX11_fall_26 rfl ⟨_, rfl, ⟨by omega, by omega⟩, hI, (tw_F_rf), trivial⟩
