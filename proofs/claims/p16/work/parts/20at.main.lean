/-! 20at.main -/
theorem dX11_risk_0 : decode cX11_risk 0 = .ok (.iload_n 1, 1) := by decide +kernel
theorem dX11_risk_1 : decode cX11_risk 1 = .ok (.ifCond .lt 8, 3) := by decide +kernel
theorem dX11_risk_4 : decode cX11_risk 4 = .ok (.iload_n 1, 1) := by decide +kernel
theorem dX11_risk_5 : decode cX11_risk 5 = .ok (.iconst 4, 1) := by decide +kernel
theorem dX11_risk_6 : decode cX11_risk 6 = .ok (.if_icmp .le 5, 3) := by decide +kernel
theorem dX11_risk_9 : decode cX11_risk 9 = .ok (.iconst (-1), 1) := by decide +kernel
theorem dX11_risk_10 : decode cX11_risk 10 = .ok (.ireturn, 1) := by decide +kernel
theorem dX11_risk_11 : decode cX11_risk 11 = .ok (.aload_n 0, 1) := by decide +kernel
theorem dX11_risk_12 : decode cX11_risk 12 = .ok (.getfield 26, 3) := by decide +kernel
theorem dX11_risk_15 : decode cX11_risk 15 = .ok (.getfield 168, 3) := by decide +kernel
theorem dX11_risk_18 : decode cX11_risk 18 = .ok (.astore_n 2, 1) := by decide +kernel
theorem dX11_risk_19 : decode cX11_risk 19 = .ok (.iload_n 1, 1) := by decide +kernel
theorem dX11_risk_20 : decode cX11_risk 20 = .ok (.ifCond .ne 16, 3) := by decide +kernel
theorem dX11_risk_23 : decode cX11_risk 23 = .ok (.aload_n 0, 1) := by decide +kernel
theorem dX11_risk_24 : decode cX11_risk 24 = .ok (.getfield 51, 3) := by decide +kernel
theorem dX11_risk_27 : decode cX11_risk 27 = .ok (.aload_n 2, 1) := by decide +kernel
theorem dX11_risk_28 : decode cX11_risk 28 = .ok (.aload_n 2, 1) := by decide +kernel
theorem dX11_risk_29 : decode cX11_risk 29 = .ok (.invokevirtual 255, 3) := by decide +kernel
theorem dX11_risk_32 : decode cX11_risk 32 = .ok (.invokevirtual 258, 3) := by decide +kernel
theorem dX11_risk_35 : decode cX11_risk 35 = .ok (.ireturn, 1) := by decide +kernel
theorem dX11_risk_36 : decode cX11_risk 36 = .ok (.iload_n 1, 1) := by decide +kernel
theorem dX11_risk_37 : decode cX11_risk 37 = .ok (.iconst 2, 1) := by decide +kernel
theorem dX11_risk_38 : decode cX11_risk 38 = .ok (.if_icmp .gt 47, 3) := by decide +kernel
theorem dX11_risk_41 : decode cX11_risk 41 = .ok (.aload_n 0, 1) := by decide +kernel
theorem dX11_risk_42 : decode cX11_risk 42 = .ok (.getfield 51, 3) := by decide +kernel
theorem dX11_risk_45 : decode cX11_risk 45 = .ok (.aload_n 2, 1) := by decide +kernel
theorem dX11_risk_46 : decode cX11_risk 46 = .ok (.invokevirtual 262, 3) := by decide +kernel
theorem dX11_risk_49 : decode cX11_risk 49 = .ok (.iload_n 1, 1) := by decide +kernel
theorem dX11_risk_50 : decode cX11_risk 50 = .ok (.iconst 1, 1) := by decide +kernel
theorem dX11_risk_51 : decode cX11_risk 51 = .ok (.if_icmp .ne 11, 3) := by decide +kernel
theorem dX11_risk_54 : decode cX11_risk 54 = .ok (.aload_n 0, 1) := by decide +kernel
theorem dX11_risk_55 : decode cX11_risk 55 = .ok (.getfield 51, 3) := by decide +kernel
theorem dX11_risk_58 : decode cX11_risk 58 = .ok (.getfield 266, 3) := by decide +kernel
theorem dX11_risk_61 : decode cX11_risk 61 = .ok (.ireturn, 1) := by decide +kernel
theorem dX11_risk_62 : decode cX11_risk 62 = .ok (.aload_n 0, 1) := by decide +kernel
theorem dX11_risk_63 : decode cX11_risk 63 = .ok (.getfield 51, 3) := by decide +kernel
theorem dX11_risk_66 : decode cX11_risk 66 = .ok (.getfield 269, 3) := by decide +kernel
theorem dX11_risk_69 : decode cX11_risk 69 = .ok (.ifCond .le 13, 3) := by decide +kernel
theorem dX11_risk_72 : decode cX11_risk 72 = .ok (.aload_n 0, 1) := by decide +kernel
theorem dX11_risk_73 : decode cX11_risk 73 = .ok (.getfield 51, 3) := by decide +kernel
theorem dX11_risk_76 : decode cX11_risk 76 = .ok (.getfield 269, 3) := by decide +kernel
theorem dX11_risk_79 : decode cX11_risk 79 = .ok (.goto 5, 3) := by decide +kernel
theorem dX11_risk_82 : decode cX11_risk 82 = .ok (.bipush (-4), 2) := by decide +kernel
theorem dX11_risk_84 : decode cX11_risk 84 = .ok (.ireturn, 1) := by decide +kernel
theorem dX11_risk_85 : decode cX11_risk 85 = .ok (.aload_n 0, 1) := by decide +kernel
theorem dX11_risk_86 : decode cX11_risk 86 = .ok (.getfield 51, 3) := by decide +kernel
theorem dX11_risk_89 : decode cX11_risk 89 = .ok (.aload_n 2, 1) := by decide +kernel
theorem dX11_risk_90 : decode cX11_risk 90 = .ok (.invokevirtual 272, 3) := by decide +kernel
theorem dX11_risk_93 : decode cX11_risk 93 = .ok (.iload_n 1, 1) := by decide +kernel
theorem dX11_risk_94 : decode cX11_risk 94 = .ok (.iconst 4, 1) := by decide +kernel
theorem dX11_risk_95 : decode cX11_risk 95 = .ok (.if_icmp .ne 11, 3) := by decide +kernel
theorem dX11_risk_98 : decode cX11_risk 98 = .ok (.aload_n 0, 1) := by decide +kernel
theorem dX11_risk_99 : decode cX11_risk 99 = .ok (.getfield 51, 3) := by decide +kernel
theorem dX11_risk_102 : decode cX11_risk 102 = .ok (.getfield 275, 3) := by decide +kernel
theorem dX11_risk_105 : decode cX11_risk 105 = .ok (.ireturn, 1) := by decide +kernel
theorem dX11_risk_106 : decode cX11_risk 106 = .ok (.aload_n 0, 1) := by decide +kernel
theorem dX11_risk_107 : decode cX11_risk 107 = .ok (.getfield 51, 3) := by decide +kernel
theorem dX11_risk_110 : decode cX11_risk 110 = .ok (.getfield 278, 3) := by decide +kernel
theorem dX11_risk_113 : decode cX11_risk 113 = .ok (.ifCond .le 13, 3) := by decide +kernel
theorem dX11_risk_116 : decode cX11_risk 116 = .ok (.aload_n 0, 1) := by decide +kernel
theorem dX11_risk_117 : decode cX11_risk 117 = .ok (.getfield 51, 3) := by decide +kernel
theorem dX11_risk_120 : decode cX11_risk 120 = .ok (.getfield 278, 3) := by decide +kernel
theorem dX11_risk_123 : decode cX11_risk 123 = .ok (.goto 5, 3) := by decide +kernel
theorem dX11_risk_126 : decode cX11_risk 126 = .ok (.bipush (-4), 2) := by decide +kernel
theorem dX11_risk_128 : decode cX11_risk 128 = .ok (.ireturn, 1) := by decide +kernel
abbrev q_X11_risk (w : Int) (σ : tw_M) : Option tw_V → tw_M → Prop := fun z τ => ∃ r : Int, z = some (vI r) ∧ (-2147483648 ≤ r ∧ r ≤ 2147483647) ∧ tw_I τ ∧ tw_F (fun c j => (56 ≤ c ∧ c < 58)) σ τ ∧ (∀ gg qq : Nat → Int, RG 24 gg qq σ → RSA (wW 1 σ) gg w r)
set_option maxHeartbeats 4000000 in
set_option maxRecDepth 100000 in
theorem c_X11_risk {G : tw_G} (hX : tw_isX G) (w : Int) (hw : -2147483648 ≤ w ∧ w ≤ 2147483647) (σ : tw_M) (hI : tw_I σ) : tw_C G yX11_risk cX11_risk 3 (some .int) 4 [vR 0, vI w] σ (q_X11_risk w σ) := by
  refine tw_met [(0, vR 0), (1, vI w)] (by decide +kernel) rfl (Nat.le_of_ble_eq_true rfl) ?_
  have ra := True.intro
  have al := True.intro
  have ca := True.intro
  have wa := True.intro
  have r0 : wW 1 σ 100 = σ 2 0 := wW_r (w := 1) (j := 0) (by decide)
  have o10 : (0 : Int) ≤ σ 24 0 ∧ σ 24 0 ≤ 10 := hI 24 0
  have ft : (1 : Int) ≤ σ 2 0 ∧ σ 2 0 ≤ 40 := hI 2 0
  refine j_iload_n (pc := 0) dX11_risk_0 rfl rfl ?_
  refine j_ifR_lt (pc := 1) (tgt := 9) ⟨by omega, by omega⟩ dX11_risk_1 rfl (fun h1 => ?_) (fun h1 => ?_)
  · refine j_iconst (pc := 9) dX11_risk_9 ?_
    exact j_iret (pc := 10) ⟨rfl, rfl⟩ dX11_risk_10 rfl ⟨_, rfl, ⟨by omega, by omega⟩, hI, (tw_F_rf), (fun gg qq H => by
                                                              unfold RSA
                                                              rw [r0]
                                                              first
                                                              | exact Or.inr (Or.inr (Or.inr (Or.inr (Or.inr ⟨by omega, rfl⟩))))
                                                              | (have e := ra gg qq H; rw [al, rsk_all (RG_all40 H).symm o10 (by omega)] at e; exact Or.inl ⟨by omega, e⟩)
                                                              | (have e := ca gg qq H; exact Or.inr (Or.inl ⟨by omega, e.1⟩))
                                                              | (have e := ca gg qq H; exact Or.inr (Or.inr (Or.inl ⟨by omega, TMs_z e.2 (by decide) (by omega)⟩)))
                                                              | (have e := wa gg qq H; unfold WSI at e ⊢; rw [show (σ 2 0 + 1 - 1 : Int) = σ 2 0 from by omega] at e ⊢; exact Or.inr (Or.inr (Or.inr (Or.inr (Or.inl ⟨by omega, by omega⟩)))))
                                                              | (have e := wa gg qq H; unfold WSI at e ⊢; rw [show (σ 2 0 + 1 - 1 : Int) = σ 2 0 from by omega] at e ⊢; exact Or.inr (Or.inr (Or.inr (Or.inl ⟨by omega, rfl, e.2.1, by omega⟩)))))⟩
  · refine j_iload_n (pc := 4) dX11_risk_4 rfl rfl ?_
    refine j_iconst (pc := 5) dX11_risk_5 ?_
    refine j_icmpR_le (pc := 6) (tgt := 11) ⟨by omega, by omega⟩ ⟨by omega, by omega⟩ dX11_risk_6 rfl (fun h2 => ?_) (fun h2 => ?_)
    · refine j_aload_n (pc := 11) dX11_risk_11 rfl rfl ?_
      refine j_getR (pc := 12) (r := 23) fl_X11_26 dX11_risk_12 (a_0 hX) rfl ?_
      refine j_getR (pc := 15) (r := 24) fl_X11_168 dX11_risk_15 (a_23 hX) rfl ?_
      refine j_astore_n (pc := 18) (i := 2) (ls' := [(0, vR 0), (1, vI w), (2, vR 24)]) [1, 2, 0] dX11_risk_18 rfl (Nat.le_of_ble_eq_true rfl) rfl rfl ?_
      refine j_iload_n (pc := 19) dX11_risk_19 rfl rfl ?_
      refine j_ifR_ne (pc := 20) (tgt := 36) ⟨by omega, by omega⟩ dX11_risk_20 rfl (fun h3 => ?_) (fun h3 => ?_)
      · refine j_iload_n (pc := 36) dX11_risk_36 rfl rfl ?_
        refine j_iconst (pc := 37) dX11_risk_37 ?_
        refine j_icmpR_gt (pc := 38) (tgt := 85) ⟨by omega, by omega⟩ ⟨by omega, by omega⟩ dX11_risk_38 rfl (fun h4 => ?_) (fun h4 => ?_)
        · refine j_aload_n (pc := 85) dX11_risk_85 rfl rfl ?_
          refine j_getR (pc := 86) (r := 56) fl_X11_51 dX11_risk_86 (a_0 hX) rfl ?_
          refine j_aload_n (pc := 89) dX11_risk_89 rfl rfl ?_
          refine j_callV (pc := 90) (As := [vR 24]) (st := []) (c_X4_findWorst hX 24 (s_Row_24 hX) σ hI (by omega)) mv_X11_272 rfl rfl rfl (a_56 hX) dX11_risk_90 ⟨Nat.le_of_ble_eq_true rfl, Nat.le_of_ble_eq_true rfl⟩ ⟨Nat.le_refl _, Nat.le_refl _⟩ rfl (Nat.le_of_ble_eq_true rfl) rfl (fun z5 σ6 hz5 => ?_)
          obtain ⟨rfl, hIσ6, hGσ6, q7_0⟩ := hz5
          replace q7_0 : ∀ gg qq : Nat → Int, RG 24 gg qq σ → WSI (wW 1 σ) gg 0 (σ 2 0 + 1) (σ6 56 4) (σ6 56 5) := q7_0
          have hFσ6 : tw_F (fun c j => (56 ≤ c ∧ c < 58)) σ σ6 := tw_F_tr (tw_F_rf) hGσ6 (fun c j q => (show (56 ≤ c ∧ c < 58) from by replace q : c = 57 ∨ (c = 56 ∧ (j = 4 ∨ j = 5)) := q; exact (q.elim (fun q => (by rw [show c = 57 from q]; decide)) (fun q => (by rw [show c = 56 from q.1]; decide)))))
          refine j_st (st' := []) rfl ?_
          have wa := q7_0
          refine j_iload_n (pc := 93) dX11_risk_93 rfl rfl ?_
          refine j_iconst (pc := 94) dX11_risk_94 ?_
          refine j_icmpR_ne (pc := 95) (tgt := 106) ⟨by omega, by omega⟩ ⟨by omega, by omega⟩ dX11_risk_95 rfl (fun h9 => ?_) (fun h9 => ?_)
          · refine j_aload_n (pc := 106) dX11_risk_106 rfl rfl ?_
            refine j_getR (pc := 107) (r := 56) fl_X11_51 dX11_risk_107 (a_0 hX) rfl ?_
            refine j_getI (pc := 110) fl_X11_278 dX11_risk_110 (a_56 hX) rfl ?_
            have f10 : (-2147483648 : Int) ≤ σ6 56 4 ∧ σ6 56 4 ≤ 2147483647 := hIσ6 56 4
            refine j_ifR_le (pc := 113) (tgt := 126) ⟨by omega, by omega⟩ dX11_risk_113 rfl (fun h11 => ?_) (fun h11 => ?_)
            · refine j_bipush (pc := 126) dX11_risk_126 rfl ?_
              exact j_iret (pc := 128) ⟨rfl, rfl⟩ dX11_risk_128 rfl ⟨_, rfl, ⟨by omega, by omega⟩, hIσ6, hFσ6, (fun gg qq H => by
                                                              unfold RSA
                                                              rw [r0]
                                                              first
                                                              | exact Or.inr (Or.inr (Or.inr (Or.inr (Or.inr ⟨by omega, rfl⟩))))
                                                              | (have e := ra gg qq H; rw [al, rsk_all (RG_all40 H).symm o10 (by omega)] at e; exact Or.inl ⟨by omega, e⟩)
                                                              | (have e := ca gg qq H; exact Or.inr (Or.inl ⟨by omega, e.1⟩))
                                                              | (have e := ca gg qq H; exact Or.inr (Or.inr (Or.inl ⟨by omega, TMs_z e.2 (by decide) (by omega)⟩)))
                                                              | (have e := wa gg qq H; unfold WSI at e ⊢; rw [show (σ 2 0 + 1 - 1 : Int) = σ 2 0 from by omega] at e ⊢; exact Or.inr (Or.inr (Or.inr (Or.inr (Or.inl ⟨by omega, by omega⟩)))))
                                                              | (have e := wa gg qq H; unfold WSI at e ⊢; rw [show (σ 2 0 + 1 - 1 : Int) = σ 2 0 from by omega] at e ⊢; exact Or.inr (Or.inr (Or.inr (Or.inl ⟨by omega, rfl, e.2.1, by omega⟩)))))⟩
            · refine j_aload_n (pc := 116) dX11_risk_116 rfl rfl ?_
              refine j_getR (pc := 117) (r := 56) fl_X11_51 dX11_risk_117 (a_0 hX) rfl ?_
              refine j_getI (pc := 120) fl_X11_278 dX11_risk_120 (a_56 hX) rfl ?_
              refine j_goto (pc := 123) (tgt := 128) dX11_risk_123 rfl ?_
              exact j_iret (pc := 128) ⟨rfl, rfl⟩ dX11_risk_128 rfl ⟨_, rfl, ⟨by omega, by omega⟩, hIσ6, hFσ6, (fun gg qq H => by
                                                              unfold RSA
                                                              rw [r0]
                                                              first
                                                              | exact Or.inr (Or.inr (Or.inr (Or.inr (Or.inr ⟨by omega, rfl⟩))))
                                                              | (have e := ra gg qq H; rw [al, rsk_all (RG_all40 H).symm o10 (by omega)] at e; exact Or.inl ⟨by omega, e⟩)
                                                              | (have e := ca gg qq H; exact Or.inr (Or.inl ⟨by omega, e.1⟩))
                                                              | (have e := ca gg qq H; exact Or.inr (Or.inr (Or.inl ⟨by omega, TMs_z e.2 (by decide) (by omega)⟩)))
                                                              | (have e := wa gg qq H; unfold WSI at e ⊢; rw [show (σ 2 0 + 1 - 1 : Int) = σ 2 0 from by omega] at e ⊢; exact Or.inr (Or.inr (Or.inr (Or.inr (Or.inl ⟨by omega, by omega⟩)))))
                                                              | (have e := wa gg qq H; unfold WSI at e ⊢; rw [show (σ 2 0 + 1 - 1 : Int) = σ 2 0 from by omega] at e ⊢; exact Or.inr (Or.inr (Or.inr (Or.inl ⟨by omega, rfl, e.2.1, by omega⟩)))))⟩
          · refine j_aload_n (pc := 98) dX11_risk_98 rfl rfl ?_
            refine j_getR (pc := 99) (r := 56) fl_X11_51 dX11_risk_99 (a_0 hX) rfl ?_
            refine j_getI (pc := 102) fl_X11_275 dX11_risk_102 (a_56 hX) rfl ?_
            have f12 : (-2147483648 : Int) ≤ σ6 56 5 ∧ σ6 56 5 ≤ 2147483647 := hIσ6 56 5
            exact j_iret (pc := 105) ⟨rfl, rfl⟩ dX11_risk_105 rfl ⟨_, rfl, ⟨by omega, by omega⟩, hIσ6, hFσ6, (fun gg qq H => by
                                                              unfold RSA
                                                              rw [r0]
                                                              first
                                                              | exact Or.inr (Or.inr (Or.inr (Or.inr (Or.inr ⟨by omega, rfl⟩))))
                                                              | (have e := ra gg qq H; rw [al, rsk_all (RG_all40 H).symm o10 (by omega)] at e; exact Or.inl ⟨by omega, e⟩)
                                                              | (have e := ca gg qq H; exact Or.inr (Or.inl ⟨by omega, e.1⟩))
                                                              | (have e := ca gg qq H; exact Or.inr (Or.inr (Or.inl ⟨by omega, TMs_z e.2 (by decide) (by omega)⟩)))
                                                              | (have e := wa gg qq H; unfold WSI at e ⊢; rw [show (σ 2 0 + 1 - 1 : Int) = σ 2 0 from by omega] at e ⊢; exact Or.inr (Or.inr (Or.inr (Or.inr (Or.inl ⟨by omega, by omega⟩)))))
                                                              | (have e := wa gg qq H; unfold WSI at e ⊢; rw [show (σ 2 0 + 1 - 1 : Int) = σ 2 0 from by omega] at e ⊢; exact Or.inr (Or.inr (Or.inr (Or.inl ⟨by omega, rfl, e.2.1, by omega⟩)))))⟩
        · refine j_aload_n (pc := 41) dX11_risk_41 rfl rfl ?_
          refine j_getR (pc := 42) (r := 56) fl_X11_51 dX11_risk_42 (a_0 hX) rfl ?_
          refine j_aload_n (pc := 45) dX11_risk_45 rfl rfl ?_
          refine j_callV (pc := 46) (As := [vR 24]) (st := []) (c_X4_climbAll hX 24 (s_Row_24 hX) σ hI (by omega)) mv_X11_262 rfl rfl rfl (a_56 hX) dX11_risk_46 ⟨Nat.le_of_ble_eq_true rfl, Nat.le_of_ble_eq_true rfl⟩ ⟨Nat.le_refl _, Nat.le_refl _⟩ rfl (Nat.le_of_ble_eq_true rfl) rfl (fun z13 σ14 hz13 => ?_)
          obtain ⟨rfl, hIσ14, hGσ14, q15_0⟩ := hz13
          replace q15_0 : ∀ gg qq : Nat → Int, RG 24 gg qq σ → σ14 56 2 = eff (wW 1 σ) gg (σ 2 0).toNat ∧ TMs (wW 1 σ) gg 0 1 (σ 2 0 + 1) (σ14 56 3) := q15_0
          have hFσ14 : tw_F (fun c j => (56 ≤ c ∧ c < 58)) σ σ14 := tw_F_tr (tw_F_rf) hGσ14 (fun c j q => (show (56 ≤ c ∧ c < 58) from by replace q : (c = 56 ∧ (j = 2 ∨ j = 3)) := q; exact (by rw [show c = 56 from q.1]; decide)))
          refine j_st (st' := []) rfl ?_
          have ca := q15_0
          refine j_iload_n (pc := 49) dX11_risk_49 rfl rfl ?_
          refine j_iconst (pc := 50) dX11_risk_50 ?_
          refine j_icmpR_ne (pc := 51) (tgt := 62) ⟨by omega, by omega⟩ ⟨by omega, by omega⟩ dX11_risk_51 rfl (fun h17 => ?_) (fun h17 => ?_)
          · refine j_aload_n (pc := 62) dX11_risk_62 rfl rfl ?_
            refine j_getR (pc := 63) (r := 56) fl_X11_51 dX11_risk_63 (a_0 hX) rfl ?_
            refine j_getI (pc := 66) fl_X11_269 dX11_risk_66 (a_56 hX) rfl ?_
            have f18 : (-2147483648 : Int) ≤ σ14 56 3 ∧ σ14 56 3 ≤ 2147483647 := hIσ14 56 3
            refine j_ifR_le (pc := 69) (tgt := 82) ⟨by omega, by omega⟩ dX11_risk_69 rfl (fun h19 => ?_) (fun h19 => ?_)
            · refine j_bipush (pc := 82) dX11_risk_82 rfl ?_
              exact j_iret (pc := 84) ⟨rfl, rfl⟩ dX11_risk_84 rfl ⟨_, rfl, ⟨by omega, by omega⟩, hIσ14, hFσ14, (fun gg qq H => by
                                                              unfold RSA
                                                              rw [r0]
                                                              first
                                                              | exact Or.inr (Or.inr (Or.inr (Or.inr (Or.inr ⟨by omega, rfl⟩))))
                                                              | (have e := ra gg qq H; rw [al, rsk_all (RG_all40 H).symm o10 (by omega)] at e; exact Or.inl ⟨by omega, e⟩)
                                                              | (have e := ca gg qq H; exact Or.inr (Or.inl ⟨by omega, e.1⟩))
                                                              | (have e := ca gg qq H; exact Or.inr (Or.inr (Or.inl ⟨by omega, TMs_z e.2 (by decide) (by omega)⟩)))
                                                              | (have e := wa gg qq H; unfold WSI at e ⊢; rw [show (σ 2 0 + 1 - 1 : Int) = σ 2 0 from by omega] at e ⊢; exact Or.inr (Or.inr (Or.inr (Or.inr (Or.inl ⟨by omega, by omega⟩)))))
                                                              | (have e := wa gg qq H; unfold WSI at e ⊢; rw [show (σ 2 0 + 1 - 1 : Int) = σ 2 0 from by omega] at e ⊢; exact Or.inr (Or.inr (Or.inr (Or.inl ⟨by omega, rfl, e.2.1, by omega⟩)))))⟩
            · refine j_aload_n (pc := 72) dX11_risk_72 rfl rfl ?_
              refine j_getR (pc := 73) (r := 56) fl_X11_51 dX11_risk_73 (a_0 hX) rfl ?_
              refine j_getI (pc := 76) fl_X11_269 dX11_risk_76 (a_56 hX) rfl ?_
              refine j_goto (pc := 79) (tgt := 84) dX11_risk_79 rfl ?_
              exact j_iret (pc := 84) ⟨rfl, rfl⟩ dX11_risk_84 rfl ⟨_, rfl, ⟨by omega, by omega⟩, hIσ14, hFσ14, (fun gg qq H => by
                                                              unfold RSA
                                                              rw [r0]
                                                              first
                                                              | exact Or.inr (Or.inr (Or.inr (Or.inr (Or.inr ⟨by omega, rfl⟩))))
                                                              | (have e := ra gg qq H; rw [al, rsk_all (RG_all40 H).symm o10 (by omega)] at e; exact Or.inl ⟨by omega, e⟩)
                                                              | (have e := ca gg qq H; exact Or.inr (Or.inl ⟨by omega, e.1⟩))
                                                              | (have e := ca gg qq H; exact Or.inr (Or.inr (Or.inl ⟨by omega, TMs_z e.2 (by decide) (by omega)⟩)))
                                                              | (have e := wa gg qq H; unfold WSI at e ⊢; rw [show (σ 2 0 + 1 - 1 : Int) = σ 2 0 from by omega] at e ⊢; exact Or.inr (Or.inr (Or.inr (Or.inr (Or.inl ⟨by omega, by omega⟩)))))
                                                              | (have e := wa gg qq H; unfold WSI at e ⊢; rw [show (σ 2 0 + 1 - 1 : Int) = σ 2 0 from by omega] at e ⊢; exact Or.inr (Or.inr (Or.inr (Or.inl ⟨by omega, rfl, e.2.1, by omega⟩)))))⟩
          · refine j_aload_n (pc := 54) dX11_risk_54 rfl rfl ?_
            refine j_getR (pc := 55) (r := 56) fl_X11_51 dX11_risk_55 (a_0 hX) rfl ?_
            refine j_getI (pc := 58) fl_X11_266 dX11_risk_58 (a_56 hX) rfl ?_
            have f20 : (-2147483648 : Int) ≤ σ14 56 2 ∧ σ14 56 2 ≤ 2147483647 := hIσ14 56 2
            exact j_iret (pc := 61) ⟨rfl, rfl⟩ dX11_risk_61 rfl ⟨_, rfl, ⟨by omega, by omega⟩, hIσ14, hFσ14, (fun gg qq H => by
                                                              unfold RSA
                                                              rw [r0]
                                                              first
                                                              | exact Or.inr (Or.inr (Or.inr (Or.inr (Or.inr ⟨by omega, rfl⟩))))
                                                              | (have e := ra gg qq H; rw [al, rsk_all (RG_all40 H).symm o10 (by omega)] at e; exact Or.inl ⟨by omega, e⟩)
                                                              | (have e := ca gg qq H; exact Or.inr (Or.inl ⟨by omega, e.1⟩))
                                                              | (have e := ca gg qq H; exact Or.inr (Or.inr (Or.inl ⟨by omega, TMs_z e.2 (by decide) (by omega)⟩)))
                                                              | (have e := wa gg qq H; unfold WSI at e ⊢; rw [show (σ 2 0 + 1 - 1 : Int) = σ 2 0 from by omega] at e ⊢; exact Or.inr (Or.inr (Or.inr (Or.inr (Or.inl ⟨by omega, by omega⟩)))))
                                                              | (have e := wa gg qq H; unfold WSI at e ⊢; rw [show (σ 2 0 + 1 - 1 : Int) = σ 2 0 from by omega] at e ⊢; exact Or.inr (Or.inr (Or.inr (Or.inl ⟨by omega, rfl, e.2.1, by omega⟩)))))⟩
      · refine j_aload_n (pc := 23) dX11_risk_23 rfl rfl ?_
        refine j_getR (pc := 24) (r := 56) fl_X11_51 dX11_risk_24 (a_0 hX) rfl ?_
        refine j_aload_n (pc := 27) dX11_risk_27 rfl rfl ?_
        refine j_aload_n (pc := 28) dX11_risk_28 rfl rfl ?_
        refine j_callV (pc := 29) (As := []) (st := [vR 24, vR 56]) (c_X7_all 24 (s_Row_24 hX) σ hI) mv_X11_255 rfl rfl rfl (a_24 hX) dX11_risk_29 ⟨Nat.le_of_ble_eq_true rfl, Nat.le_of_ble_eq_true rfl⟩ ⟨Nat.le_refl _, Nat.le_refl _⟩ rfl (Nat.le_of_ble_eq_true rfl) rfl (fun z21 σ22 hz21 => ?_)
        obtain ⟨r24, rfl, hr24, rfl, q23_0⟩ := hz21
        replace q23_0 : r24 = pt (σ 24 0) - 1 := q23_0
        refine j_st (st' := [vI r24, vR 24, vR 56]) rfl ?_
        refine j_callV (pc := 32) (As := [vR 24, vI r24]) (st := []) (c_X4_riskOf hX 24 (s_Row_24 hX) r24 ⟨by omega, by omega⟩ σ hI (by omega)) mv_X11_258 rfl rfl rfl (a_56 hX) dX11_risk_32 ⟨Nat.le_of_ble_eq_true rfl, Nat.le_of_ble_eq_true rfl⟩ ⟨Nat.le_refl _, Nat.le_refl _⟩ rfl (Nat.le_of_ble_eq_true rfl) rfl (fun z25 σ26 hz25 => ?_)
        obtain ⟨r28, rfl, hr28, hIσ26, hGσ26, q27_0, q27_1⟩ := hz25
        replace q27_0 : ∀ gg qq : Nat → Int, RG 24 gg qq σ → r28 = rsk (wW 1 σ) gg r24 (σ 2 0).toNat := q27_0
        replace q27_1 : -16000 ≤ r28 ∧ r28 ≤ 16000 := q27_1
        have hFσ26 : tw_F (fun c j => (56 ≤ c ∧ c < 58)) σ σ26 := tw_F_tr (tw_F_rf) hGσ26 (fun c j q => (show (56 ≤ c ∧ c < 58) from by replace q : c = 57 := q; exact (by rw [show c = 57 from q]; decide)))
        refine j_st (st' := [vI r28]) rfl ?_
        have ra := q27_0
        have al := q23_0
        exact j_iret (pc := 35) ⟨rfl, rfl⟩ dX11_risk_35 rfl ⟨_, rfl, ⟨by omega, by omega⟩, hIσ26, hFσ26, (fun gg qq H => by
                                                              unfold RSA
                                                              rw [r0]
                                                              first
                                                              | exact Or.inr (Or.inr (Or.inr (Or.inr (Or.inr ⟨by omega, rfl⟩))))
                                                              | (have e := ra gg qq H; rw [al, rsk_all (RG_all40 H).symm o10 (by omega)] at e; exact Or.inl ⟨by omega, e⟩)
                                                              | (have e := ca gg qq H; exact Or.inr (Or.inl ⟨by omega, e.1⟩))
                                                              | (have e := ca gg qq H; exact Or.inr (Or.inr (Or.inl ⟨by omega, TMs_z e.2 (by decide) (by omega)⟩)))
                                                              | (have e := wa gg qq H; unfold WSI at e ⊢; rw [show (σ 2 0 + 1 - 1 : Int) = σ 2 0 from by omega] at e ⊢; exact Or.inr (Or.inr (Or.inr (Or.inr (Or.inl ⟨by omega, by omega⟩)))))
                                                              | (have e := wa gg qq H; unfold WSI at e ⊢; rw [show (σ 2 0 + 1 - 1 : Int) = σ 2 0 from by omega] at e ⊢; exact Or.inr (Or.inr (Or.inr (Or.inl ⟨by omega, rfl, e.2.1, by omega⟩)))))⟩
    · refine j_iconst (pc := 9) dX11_risk_9 ?_
      exact j_iret (pc := 10) ⟨rfl, rfl⟩ dX11_risk_10 rfl ⟨_, rfl, ⟨by omega, by omega⟩, hI, (tw_F_rf), (fun gg qq H => by
                                                              unfold RSA
                                                              rw [r0]
                                                              first
                                                              | exact Or.inr (Or.inr (Or.inr (Or.inr (Or.inr ⟨by omega, rfl⟩))))
                                                              | (have e := ra gg qq H; rw [al, rsk_all (RG_all40 H).symm o10 (by omega)] at e; exact Or.inl ⟨by omega, e⟩)
                                                              | (have e := ca gg qq H; exact Or.inr (Or.inl ⟨by omega, e.1⟩))
                                                              | (have e := ca gg qq H; exact Or.inr (Or.inr (Or.inl ⟨by omega, TMs_z e.2 (by decide) (by omega)⟩)))
                                                              | (have e := wa gg qq H; unfold WSI at e ⊢; rw [show (σ 2 0 + 1 - 1 : Int) = σ 2 0 from by omega] at e ⊢; exact Or.inr (Or.inr (Or.inr (Or.inr (Or.inl ⟨by omega, by omega⟩)))))
                                                              | (have e := wa gg qq H; unfold WSI at e ⊢; rw [show (σ 2 0 + 1 - 1 : Int) = σ 2 0 from by omega] at e ⊢; exact Or.inr (Or.inr (Or.inr (Or.inl ⟨by omega, rfl, e.2.1, by omega⟩)))))⟩
