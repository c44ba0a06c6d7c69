/-! 21ah.main -/
theorem dX11_leads_0 : decode cX11_leads 0 = .ok (.iload_n 1, 1) := by decide +kernel
theorem dX11_leads_1 : decode cX11_leads 1 = .ok (.iconst 1, 1) := by decide +kernel
theorem dX11_leads_2 : decode cX11_leads 2 = .ok (.if_icmp .lt 20, 3) := by decide +kernel
theorem dX11_leads_5 : decode cX11_leads 5 = .ok (.iload_n 1, 1) := by decide +kernel
theorem dX11_leads_6 : decode cX11_leads 6 = .ok (.bipush 9, 2) := by decide +kernel
theorem dX11_leads_8 : decode cX11_leads 8 = .ok (.if_icmp .gt 14, 3) := by decide +kernel
theorem dX11_leads_11 : decode cX11_leads 11 = .ok (.iload_n 2, 1) := by decide +kernel
theorem dX11_leads_12 : decode cX11_leads 12 = .ok (.iconst 1, 1) := by decide +kernel
theorem dX11_leads_13 : decode cX11_leads 13 = .ok (.if_icmp .lt 9, 3) := by decide +kernel
theorem dX11_leads_16 : decode cX11_leads 16 = .ok (.iload_n 2, 1) := by decide +kernel
theorem dX11_leads_17 : decode cX11_leads 17 = .ok (.bipush 9, 2) := by decide +kernel
theorem dX11_leads_19 : decode cX11_leads 19 = .ok (.if_icmp .le 5, 3) := by decide +kernel
theorem dX11_leads_22 : decode cX11_leads 22 = .ok (.iconst (-1), 1) := by decide +kernel
theorem dX11_leads_23 : decode cX11_leads 23 = .ok (.ireturn, 1) := by decide +kernel
theorem dX11_leads_24 : decode cX11_leads 24 = .ok (.aload_n 0, 1) := by decide +kernel
theorem dX11_leads_25 : decode cX11_leads 25 = .ok (.getfield 74, 3) := by decide +kernel
theorem dX11_leads_28 : decode cX11_leads 28 = .ok (.invokevirtual 336, 3) := by decide +kernel
theorem dX11_leads_31 : decode cX11_leads 31 = .ok (.iload 4, 2) := by decide +kernel
theorem dX11_leads_33 : decode cX11_leads 33 = .ok (.iconst 1, 1) := by decide +kernel
theorem dX11_leads_34 : decode cX11_leads 34 = .ok (.aload_n 0, 1) := by decide +kernel
theorem dX11_leads_35 : decode cX11_leads 35 = .ok (.getfield 74, 3) := by decide +kernel
theorem dX11_leads_38 : decode cX11_leads 38 = .ok (.getfield 339, 3) := by decide +kernel
theorem dX11_leads_41 : decode cX11_leads 41 = .ok (.invokestatic 290, 3) := by decide +kernel
theorem dX11_leads_44 : decode cX11_leads 44 = .ok (.ifCond .ne 5, 3) := by decide +kernel
theorem dX11_leads_47 : decode cX11_leads 47 = .ok (.iconst (-1), 1) := by decide +kernel
theorem dX11_leads_48 : decode cX11_leads 48 = .ok (.ireturn, 1) := by decide +kernel
theorem dX11_leads_49 : decode cX11_leads 49 = .ok (.aload_n 0, 1) := by decide +kernel
theorem dX11_leads_50 : decode cX11_leads 50 = .ok (.getfield 74, 3) := by decide +kernel
theorem dX11_leads_53 : decode cX11_leads 53 = .ok (.getfield 339, 3) := by decide +kernel
theorem dX11_leads_56 : decode cX11_leads 56 = .ok (.ifCond .ne 6, 3) := by decide +kernel
theorem dX11_leads_59 : decode cX11_leads 59 = .ok (.bipush (-4), 2) := by decide +kernel
theorem dX11_leads_61 : decode cX11_leads 61 = .ok (.ireturn, 1) := by decide +kernel
theorem dX11_leads_62 : decode cX11_leads 62 = .ok (.iload_n 3, 1) := by decide +kernel
theorem dX11_leads_63 : decode cX11_leads 63 = .ok (.ifCond .eq 15, 3) := by decide +kernel
theorem dX11_leads_66 : decode cX11_leads 66 = .ok (.aload_n 0, 1) := by decide +kernel
theorem dX11_leads_67 : decode cX11_leads 67 = .ok (.getfield 74, 3) := by decide +kernel
theorem dX11_leads_70 : decode cX11_leads 70 = .ok (.iload_n 1, 1) := by decide +kernel
theorem dX11_leads_71 : decode cX11_leads 71 = .ok (.iload_n 2, 1) := by decide +kernel
theorem dX11_leads_72 : decode cX11_leads 72 = .ok (.invokevirtual 343, 3) := by decide +kernel
theorem dX11_leads_75 : decode cX11_leads 75 = .ok (.goto 12, 3) := by decide +kernel
theorem dX11_leads_78 : decode cX11_leads 78 = .ok (.aload_n 0, 1) := by decide +kernel
theorem dX11_leads_79 : decode cX11_leads 79 = .ok (.getfield 74, 3) := by decide +kernel
theorem dX11_leads_82 : decode cX11_leads 82 = .ok (.iload_n 1, 1) := by decide +kernel
theorem dX11_leads_83 : decode cX11_leads 83 = .ok (.iload_n 2, 1) := by decide +kernel
theorem dX11_leads_84 : decode cX11_leads 84 = .ok (.invokevirtual 347, 3) := by decide +kernel
theorem dX11_leads_87 : decode cX11_leads 87 = .ok (.iload 4, 2) := by decide +kernel
theorem dX11_leads_89 : decode cX11_leads 89 = .ok (.ifCond .ne 13, 3) := by decide +kernel
theorem dX11_leads_92 : decode cX11_leads 92 = .ok (.aload_n 0, 1) := by decide +kernel
theorem dX11_leads_93 : decode cX11_leads 93 = .ok (.getfield 74, 3) := by decide +kernel
theorem dX11_leads_96 : decode cX11_leads 96 = .ok (.getfield 350, 3) := by decide +kernel
theorem dX11_leads_99 : decode cX11_leads 99 = .ok (.goto 16, 3) := by decide +kernel
theorem dX11_leads_102 : decode cX11_leads 102 = .ok (.aload_n 0, 1) := by decide +kernel
theorem dX11_leads_103 : decode cX11_leads 103 = .ok (.getfield 74, 3) := by decide +kernel
theorem dX11_leads_106 : decode cX11_leads 106 = .ok (.getfield 353, 3) := by decide +kernel
theorem dX11_leads_109 : decode cX11_leads 109 = .ok (.iload 4, 2) := by decide +kernel
theorem dX11_leads_111 : decode cX11_leads 111 = .ok (.bipush 10, 2) := by decide +kernel
theorem dX11_leads_113 : decode cX11_leads 113 = .ok (.isub, 1) := by decide +kernel
theorem dX11_leads_114 : decode cX11_leads 114 = .ok (.iaload, 1) := by decide +kernel
theorem dX11_leads_115 : decode cX11_leads 115 = .ok (.ireturn, 1) := by decide +kernel
abbrev q_X11_leads (a : Int) (b : Int) (t : Int) (w : Int) (σ : tw_M) : Option tw_V → tw_M → Prop := fun z τ => ∃ r : Int, z = some (vI r) ∧ (-2147483648 ≤ r ∧ r ≤ 2147483647) ∧ tw_I τ ∧ tw_F (fun c j => (c = 71 ∧ (j = 1 ∨ j = 6 ∨ j = 7)) ∨ c = 72 ∨ (74 ≤ c ∧ c < 76)) σ τ ∧ True
set_option maxHeartbeats 4000000 in
set_option maxRecDepth 100000 in
theorem c_X11_leads {G : tw_G} (hX : tw_isX G) (a : Int) (ha : -2147483648 ≤ a ∧ a ≤ 2147483647) (b : Int) (hb : -2147483648 ≤ b ∧ b ≤ 2147483647) (t : Int) (ht : 0 ≤ t ∧ t ≤ 1) (w : Int) (hw : -2147483648 ≤ w ∧ w ≤ 2147483647) (σ : tw_M) (hI : tw_I σ) : tw_C G yX11_leads cX11_leads 5 (some .int) 4 [vR 0, vI a, vI b, vI t, vI w] σ (q_X11_leads a b t w σ) := by
  refine tw_met [(0, vR 0), (1, vI a), (2, vI b), (3, vI t), (4, vI w)] (by decide +kernel) rfl (Nat.le_of_ble_eq_true rfl) ?_
  refine j_iload_n (pc := 0) dX11_leads_0 rfl rfl ?_
  refine j_iconst (pc := 1) dX11_leads_1 ?_
  refine j_icmpR_lt (pc := 2) (tgt := 22) ⟨by omega, by omega⟩ ⟨by omega, by omega⟩ dX11_leads_2 rfl (fun h1 => ?_) (fun h1 => ?_)
  · refine j_iconst (pc := 22) dX11_leads_22 ?_
    exact j_iret (pc := 23) ⟨rfl, rfl⟩ dX11_leads_23 rfl ⟨_, rfl, ⟨by omega, by omega⟩, hI, (tw_F_rf), trivial⟩
  · refine j_iload_n (pc := 5) dX11_leads_5 rfl rfl ?_
    refine j_bipush (pc := 6) dX11_leads_6 rfl ?_
    refine j_icmpR_gt (pc := 8) (tgt := 22) ⟨by omega, by omega⟩ ⟨by omega, by omega⟩ dX11_leads_8 rfl (fun h2 => ?_) (fun h2 => ?_)
    · refine j_iconst (pc := 22) dX11_leads_22 ?_
      exact j_iret (pc := 23) ⟨rfl, rfl⟩ dX11_leads_23 rfl ⟨_, rfl, ⟨by omega, by omega⟩, hI, (tw_F_rf), trivial⟩
    · refine j_iload_n (pc := 11) dX11_leads_11 rfl rfl ?_
      refine j_iconst (pc := 12) dX11_leads_12 ?_
      refine j_icmpR_lt (pc := 13) (tgt := 22) ⟨by omega, by omega⟩ ⟨by omega, by omega⟩ dX11_leads_13 rfl (fun h3 => ?_) (fun h3 => ?_)
      · refine j_iconst (pc := 22) dX11_leads_22 ?_
        exact j_iret (pc := 23) ⟨rfl, rfl⟩ dX11_leads_23 rfl ⟨_, rfl, ⟨by omega, by omega⟩, hI, (tw_F_rf), trivial⟩
      · refine j_iload_n (pc := 16) dX11_leads_16 rfl rfl ?_
        refine j_bipush (pc := 17) dX11_leads_17 rfl ?_
        refine j_icmpR_le (pc := 19) (tgt := 24) ⟨by omega, by omega⟩ ⟨by omega, by omega⟩ dX11_leads_19 rfl (fun h4 => ?_) (fun h4 => ?_)
        · refine j_aload_n (pc := 24) dX11_leads_24 rfl rfl ?_
          refine j_getR (pc := 25) (r := 71) fl_X11_74 dX11_leads_25 (a_0 hX) rfl ?_
          refine j_callV (pc := 28) (As := []) (st := []) (c_X6_findPitches hX σ hI) mv_X11_336 rfl rfl rfl (a_71 hX) dX11_leads_28 ⟨Nat.le_of_ble_eq_true rfl, Nat.le_of_ble_eq_true rfl⟩ ⟨Nat.le_refl _, Nat.le_refl _⟩ rfl (Nat.le_of_ble_eq_true rfl) rfl (fun z5 σ6 hz5 => ?_)
          obtain ⟨rfl, hIσ6, hGσ6, -⟩ := hz5
          have hFσ6 : tw_F (fun c j => (c = 71 ∧ (j = 1 ∨ j = 6 ∨ j = 7)) ∨ c = 72 ∨ (74 ≤ c ∧ c < 76)) σ σ6 := tw_F_tr (tw_F_rf) hGσ6 (fun c j q => (show (c = 71 ∧ (j = 1 ∨ j = 6 ∨ j = 7)) ∨ c = 72 ∨ (74 ≤ c ∧ c < 76) from by replace q : (c = 71 ∧ (j = 1 ∨ j = 6)) ∨ c = 72 ∨ c = 74 := q; exact (q.elim (fun q => (Or.inl ⟨q.1, (q.2.elim (fun z => (Or.inl z)) (fun z => (Or.inr (Or.inl z))))⟩)) (fun q => (q.elim (fun q => (Or.inr (Or.inl q))) (fun q => (Or.inr (Or.inr (by rw [show c = 74 from q]; decide)))))))))
          refine j_st (st' := []) rfl ?_
          refine j_iload (pc := 31) dX11_leads_31 rfl ?_
          refine j_iconst (pc := 33) dX11_leads_33 ?_
          refine j_aload_n (pc := 34) dX11_leads_34 rfl rfl ?_
          refine j_getR (pc := 35) (r := 71) fl_X11_74 dX11_leads_35 (a_0 hX) rfl ?_
          refine j_getI (pc := 38) fl_X11_339 dX11_leads_38 (a_71 hX) rfl ?_
          have f9 : (0 : Int) ≤ σ6 71 6 ∧ σ6 71 6 ≤ 40 := hIσ6 71 6
          refine j_callS (pc := 41) (As := [vI w, vI 1, vI (σ6 71 6)]) (st := []) (c_X11_isOf w ⟨by omega, by omega⟩ 1 (by (first | decide | exact ⟨by omega, by omega⟩)) (σ6 71 6) ⟨by omega, by omega⟩ σ6 hIσ6) ms_X11_290 rfl dX11_leads_41 ⟨Nat.le_of_ble_eq_true rfl, Nat.le_of_ble_eq_true rfl⟩ ⟨Nat.le_refl _, Nat.le_refl _⟩ rfl (Nat.le_of_ble_eq_true rfl) rfl (fun z10 σ11 hz10 => ?_)
          obtain ⟨r13, rfl, hr13, rfl, q12_0⟩ := hz10
          replace q12_0 : (r13 = 1 ∧ ((0 ≤ w ∧ w < (1 : Int)) ∨ (10 ≤ w ∧ w - 10 < (σ6 71 6)))) ∨ (r13 = 0 ∧ ¬ ((0 ≤ w ∧ w < (1 : Int)) ∨ (10 ≤ w ∧ w - 10 < (σ6 71 6)))) := q12_0
          refine j_st (st' := [vI r13]) rfl ?_
          refine j_ifR_ne (pc := 44) (tgt := 49) ⟨by omega, by omega⟩ dX11_leads_44 rfl (fun h14 => ?_) (fun h14 => ?_)
          · refine j_aload_n (pc := 49) dX11_leads_49 rfl rfl ?_
            refine j_getR (pc := 50) (r := 71) fl_X11_74 dX11_leads_50 (a_0 hX) rfl ?_
            refine j_getI (pc := 53) fl_X11_339 dX11_leads_53 (a_71 hX) rfl ?_
            refine j_ifR_ne (pc := 56) (tgt := 62) ⟨by omega, by omega⟩ dX11_leads_56 rfl (fun h15 => ?_) (fun h15 => ?_)
            · refine j_iload_n (pc := 62) dX11_leads_62 rfl rfl ?_
              refine j_ifR_eq (pc := 63) (tgt := 78) ⟨by omega, by omega⟩ dX11_leads_63 rfl (fun h16 => ?_) (fun h16 => ?_)
              · refine j_aload_n (pc := 78) dX11_leads_78 rfl rfl ?_
                refine j_getR (pc := 79) (r := 71) fl_X11_74 dX11_leads_79 (a_0 hX) rfl ?_
                refine j_iload_n (pc := 82) dX11_leads_82 rfl rfl ?_
                refine j_iload_n (pc := 83) dX11_leads_83 rfl rfl ?_
                refine j_callV (pc := 84) (As := [vI a, vI b]) (st := []) (c_X6_leadFreely hX a ⟨by omega, by omega⟩ b ⟨by omega, by omega⟩ σ6 hIσ6) mv_X11_347 rfl rfl rfl (a_71 hX) dX11_leads_84 ⟨Nat.le_of_ble_eq_true rfl, Nat.le_of_ble_eq_true rfl⟩ ⟨Nat.le_refl _, Nat.le_refl _⟩ rfl (Nat.le_of_ble_eq_true rfl) rfl (fun z17 σ18 hz17 => ?_)
                obtain ⟨rfl, hIσ18, hGσ18, -⟩ := hz17
                have hFσ18 : tw_F (fun c j => (c = 71 ∧ (j = 1 ∨ j = 6 ∨ j = 7)) ∨ c = 72 ∨ (74 ≤ c ∧ c < 76)) σ σ18 := tw_F_tr hFσ6 hGσ18 (fun c j q => (show (c = 71 ∧ (j = 1 ∨ j = 6 ∨ j = 7)) ∨ c = 72 ∨ (74 ≤ c ∧ c < 76) from by replace q : (c = 71 ∧ (j = 7)) ∨ c = 75 := q; exact (q.elim (fun q => (Or.inl ⟨q.1, (Or.inr (Or.inr q.2))⟩)) (fun q => (Or.inr (Or.inr (by rw [show c = 75 from q]; decide)))))))
                refine j_st (st' := []) rfl ?_
                refine j_iload (pc := 87) dX11_leads_87 rfl ?_
                refine j_ifR_ne (pc := 89) (tgt := 102) ⟨by omega, by omega⟩ dX11_leads_89 rfl (fun h21 => ?_) (fun h21 => ?_)
                · refine j_aload_n (pc := 102) dX11_leads_102 rfl rfl ?_
                  refine j_getR (pc := 103) (r := 71) fl_X11_74 dX11_leads_103 (a_0 hX) rfl ?_
                  refine j_getR (pc := 106) (r := 75) fl_X11_353 dX11_leads_106 (a_71 hX) rfl ?_
                  refine j_iload (pc := 109) dX11_leads_109 rfl ?_
                  refine j_bipush (pc := 111) dX11_leads_111 rfl ?_
                  refine j_isub (pc := 113) dX11_leads_113 ?_
                  refine j_iald (pc := 114) dX11_leads_114 (a_75 hX) (by omega) (by omega) (by decide) ?_
                  have f22 : (-2147483648 : Int) ≤ σ18 75 ((w - 10).toNat) ∧ σ18 75 ((w - 10).toNat) ≤ 2147483647 := hIσ18 75 ((w - 10).toNat)
                  exact j_iret (pc := 115) ⟨rfl, rfl⟩ dX11_leads_115 rfl ⟨_, rfl, ⟨by omega, by omega⟩, hIσ18, hFσ18, trivial⟩
                · refine j_aload_n (pc := 92) dX11_leads_92 rfl rfl ?_
                  refine j_getR (pc := 93) (r := 71) fl_X11_74 dX11_leads_93 (a_0 hX) rfl ?_
                  refine j_getI (pc := 96) fl_X11_350 dX11_leads_96 (a_71 hX) rfl ?_
                  have f23 : (-2147483648 : Int) ≤ σ18 71 7 ∧ σ18 71 7 ≤ 2147483647 := hIσ18 71 7
                  refine j_goto (pc := 99) (tgt := 115) dX11_leads_99 rfl ?_
                  exact j_iret (pc := 115) ⟨rfl, rfl⟩ dX11_leads_115 rfl ⟨_, rfl, ⟨by omega, by omega⟩, hIσ18, hFσ18, trivial⟩
              · refine j_aload_n (pc := 66) dX11_leads_66 rfl rfl ?_
                refine j_getR (pc := 67) (r := 71) fl_X11_74 dX11_leads_67 (a_0 hX) rfl ?_
                refine j_iload_n (pc := 70) dX11_leads_70 rfl rfl ?_
                refine j_iload_n (pc := 71) dX11_leads_71 rfl rfl ?_
                refine j_callV (pc := 72) (As := [vI a, vI b]) (st := []) (c_X6_takeTurns hX a ⟨by omega, by omega⟩ b ⟨by omega, by omega⟩ σ6 hIσ6) mv_X11_343 rfl rfl rfl (a_71 hX) dX11_leads_72 ⟨Nat.le_of_ble_eq_true rfl, Nat.le_of_ble_eq_true rfl⟩ ⟨Nat.le_refl _, Nat.le_refl _⟩ rfl (Nat.le_of_ble_eq_true rfl) rfl (fun z24 σ25 hz24 => ?_)
                obtain ⟨rfl, hIσ25, hGσ25, -⟩ := hz24
                have hFσ25 : tw_F (fun c j => (c = 71 ∧ (j = 1 ∨ j = 6 ∨ j = 7)) ∨ c = 72 ∨ (74 ≤ c ∧ c < 76)) σ σ25 := tw_F_tr hFσ6 hGσ25 (fun c j q => (show (c = 71 ∧ (j = 1 ∨ j = 6 ∨ j = 7)) ∨ c = 72 ∨ (74 ≤ c ∧ c < 76) from by replace q : (c = 71 ∧ (j = 7)) ∨ c = 75 := q; exact (q.elim (fun q => (Or.inl ⟨q.1, (Or.inr (Or.inr q.2))⟩)) (fun q => (Or.inr (Or.inr (by rw [show c = 75 from q]; decide)))))))
                refine j_st (st' := []) rfl ?_
                refine j_goto (pc := 75) (tgt := 87) dX11_leads_75 rfl ?_
                refine j_iload (pc := 87) dX11_leads_87 rfl ?_
                refine j_ifR_ne (pc := 89) (tgt := 102) ⟨by omega, by omega⟩ dX11_leads_89 rfl (fun h28 => ?_) (fun h28 => ?_)
                · refine j_aload_n (pc := 102) dX11_leads_102 rfl rfl ?_
                  refine j_getR (pc := 103) (r := 71) fl_X11_74 dX11_leads_103 (a_0 hX) rfl ?_
                  refine j_getR (pc := 106) (r := 75) fl_X11_353 dX11_leads_106 (a_71 hX) rfl ?_
                  refine j_iload (pc := 109) dX11_leads_109 rfl ?_
                  refine j_bipush (pc := 111) dX11_leads_111 rfl ?_
                  refine j_isub (pc := 113) dX11_leads_113 ?_
                  refine j_iald (pc := 114) dX11_leads_114 (a_75 hX) (by omega) (by omega) (by decide) ?_
                  have f29 : (-2147483648 : Int) ≤ σ25 75 ((w - 10).toNat) ∧ σ25 75 ((w - 10).toNat) ≤ 2147483647 := hIσ25 75 ((w - 10).toNat)
                  exact j_iret (pc := 115) ⟨rfl, rfl⟩ dX11_leads_115 rfl ⟨_, rfl, ⟨by omega, by omega⟩, hIσ25, hFσ25, trivial⟩
                · refine j_aload_n (pc := 92) dX11_leads_92 rfl rfl ?_
                  refine j_getR (pc := 93) (r := 71) fl_X11_74 dX11_leads_93 (a_0 hX) rfl ?_
                  refine j_getI (pc := 96) fl_X11_350 dX11_leads_96 (a_71 hX) rfl ?_
                  have f30 : (-2147483648 : Int) ≤ σ25 71 7 ∧ σ25 71 7 ≤ 2147483647 := hIσ25 71 7
                  refine j_goto (pc := 99) (tgt := 115) dX11_leads_99 rfl ?_
                  exact j_iret (pc := 115) ⟨rfl, rfl⟩ dX11_leads_115 rfl ⟨_, rfl, ⟨by omega, by omega⟩, hIσ25, hFσ25, trivial⟩
            · refine j_bipush (pc := 59) dX11_leads_59 rfl ?_
              exact j_iret (pc := 61) ⟨rfl, rfl⟩ dX11_leads_61 rfl ⟨_, rfl, ⟨by omega, by omega⟩, hIσ6, hFσ6, trivial⟩
          · refine j_iconst (pc := 47) dX11_leads_47 ?_
            exact j_iret (pc := 48) ⟨rfl, rfl⟩ dX11_leads_48 rfl ⟨_, rfl, ⟨by omega, by omega⟩, hIσ6, hFσ6, trivial⟩
        · refine j_iconst (pc := 22) dX11_leads_22 ?_
          exact j_iret (pc := 23) ⟨rfl, rfl⟩ dX11_leads_23 rfl ⟨_, rfl, ⟨by omega, by omega⟩, hI, (tw_F_rf), trivial⟩
