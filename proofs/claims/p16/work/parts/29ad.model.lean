/-! 29ad.model -/
theorem dX12_best_0 : decode cX12_best 0 = .ok (.iload_n 1, 1) := by decide +kernel
theorem dX12_best_1 : decode cX12_best 1 = .ok (.i2l, 1) := by decide +kernel
theorem dX12_best_2 : decode cX12_best 2 = .ok (.lconst 0, 1) := by decide +kernel
theorem dX12_best_3 : decode cX12_best 3 = .ok (.ldc2_w 312, 3) := by decide +kernel
theorem dX12_best_6 : decode cX12_best 6 = .ok (.invokestatic 82, 3) := by decide +kernel
theorem dX12_best_9 : decode cX12_best 9 = .ok (.ifCond .ne 5, 3) := by decide +kernel
theorem dX12_best_12 : decode cX12_best 12 = .ok (.iconst (-1), 1) := by decide +kernel
theorem dX12_best_13 : decode cX12_best 13 = .ok (.ireturn, 1) := by decide +kernel
theorem dX12_best_14 : decode cX12_best 14 = .ok (.bipush (-4), 2) := by decide +kernel
theorem dX12_best_16 : decode cX12_best 16 = .ok (.istore_n 2, 1) := by decide +kernel
theorem dX12_best_17 : decode cX12_best 17 = .ok (.iconst 0, 1) := by decide +kernel
theorem dX12_best_18 : decode cX12_best 18 = .ok (.istore_n 3, 1) := by decide +kernel
theorem dX12_best_19 : decode cX12_best 19 = .ok (.iconst 1, 1) := by decide +kernel
theorem dX12_best_20 : decode cX12_best 20 = .ok (.istore 4, 2) := by decide +kernel
theorem dX12_best_22 : decode cX12_best 22 = .ok (.iload 4, 2) := by decide +kernel
theorem dX12_best_24 : decode cX12_best 24 = .ok (.bipush 40, 2) := by decide +kernel
theorem dX12_best_26 : decode cX12_best 26 = .ok (.if_icmp .gt 83, 3) := by decide +kernel
theorem dX12_best_29 : decode cX12_best 29 = .ok (.aload_n 0, 1) := by decide +kernel
theorem dX12_best_30 : decode cX12_best 30 = .ok (.iload 4, 2) := by decide +kernel
theorem dX12_best_32 : decode cX12_best 32 = .ok (.invokevirtual 314, 3) := by decide +kernel
theorem dX12_best_35 : decode cX12_best 35 = .ok (.aload_n 0, 1) := by decide +kernel
theorem dX12_best_36 : decode cX12_best 36 = .ok (.sipush 300, 3) := by decide +kernel
theorem dX12_best_39 : decode cX12_best 39 = .ok (.invokevirtual 277, 3) := by decide +kernel
theorem dX12_best_42 : decode cX12_best 42 = .ok (.aload_n 0, 1) := by decide +kernel
theorem dX12_best_43 : decode cX12_best 43 = .ok (.sipush 300, 3) := by decide +kernel
theorem dX12_best_46 : decode cX12_best 46 = .ok (.invokevirtual 280, 3) := by decide +kernel
theorem dX12_best_49 : decode cX12_best 49 = .ok (.istore 5, 2) := by decide +kernel
theorem dX12_best_51 : decode cX12_best 51 = .ok (.aload_n 0, 1) := by decide +kernel
theorem dX12_best_52 : decode cX12_best 52 = .ok (.getfield 274, 3) := by decide +kernel
theorem dX12_best_55 : decode cX12_best 55 = .ok (.bipush (-4), 2) := by decide +kernel
theorem dX12_best_57 : decode cX12_best 57 = .ok (.if_icmp .ne 19, 3) := by decide +kernel
theorem dX12_best_60 : decode cX12_best 60 = .ok (.iload_n 2, 1) := by decide +kernel
theorem dX12_best_61 : decode cX12_best 61 = .ok (.bipush (-4), 2) := by decide +kernel
theorem dX12_best_63 : decode cX12_best 63 = .ok (.if_icmp .eq 9, 3) := by decide +kernel
theorem dX12_best_66 : decode cX12_best 66 = .ok (.iload 5, 2) := by decide +kernel
theorem dX12_best_68 : decode cX12_best 68 = .ok (.iload_n 3, 1) := by decide +kernel
theorem dX12_best_69 : decode cX12_best 69 = .ok (.if_icmp .gt 7, 3) := by decide +kernel
theorem dX12_best_72 : decode cX12_best 72 = .ok (.iconst 1, 1) := by decide +kernel
theorem dX12_best_73 : decode cX12_best 73 = .ok (.goto 4, 3) := by decide +kernel
theorem dX12_best_76 : decode cX12_best 76 = .ok (.iconst 0, 1) := by decide +kernel
theorem dX12_best_77 : decode cX12_best 77 = .ok (.istore 6, 2) := by decide +kernel
theorem dX12_best_79 : decode cX12_best 79 = .ok (.iload 6, 2) := by decide +kernel
theorem dX12_best_81 : decode cX12_best 81 = .ok (.ifCond .eq 8, 3) := by decide +kernel
theorem dX12_best_84 : decode cX12_best 84 = .ok (.iload 4, 2) := by decide +kernel
theorem dX12_best_86 : decode cX12_best 86 = .ok (.goto 4, 3) := by decide +kernel
theorem dX12_best_89 : decode cX12_best 89 = .ok (.iload_n 2, 1) := by decide +kernel
theorem dX12_best_90 : decode cX12_best 90 = .ok (.istore_n 2, 1) := by decide +kernel
theorem dX12_best_91 : decode cX12_best 91 = .ok (.iload 6, 2) := by decide +kernel
theorem dX12_best_93 : decode cX12_best 93 = .ok (.ifCond .eq 8, 3) := by decide +kernel
theorem dX12_best_96 : decode cX12_best 96 = .ok (.iload 5, 2) := by decide +kernel
theorem dX12_best_98 : decode cX12_best 98 = .ok (.goto 4, 3) := by decide +kernel
theorem dX12_best_101 : decode cX12_best 101 = .ok (.iload_n 3, 1) := by decide +kernel
theorem dX12_best_102 : decode cX12_best 102 = .ok (.istore_n 3, 1) := by decide +kernel
theorem dX12_best_103 : decode cX12_best 103 = .ok (.iinc 4 1, 3) := by decide +kernel
theorem dX12_best_106 : decode cX12_best 106 = .ok (.goto (-84), 3) := by decide +kernel
theorem dX12_best_109 : decode cX12_best 109 = .ok (.aload_n 0, 1) := by decide +kernel
theorem dX12_best_110 : decode cX12_best 110 = .ok (.invokevirtual 309, 3) := by decide +kernel
theorem dX12_best_113 : decode cX12_best 113 = .ok (.iload_n 2, 1) := by decide +kernel
theorem dX12_best_114 : decode cX12_best 114 = .ok (.bipush (-4), 2) := by decide +kernel
theorem dX12_best_116 : decode cX12_best 116 = .ok (.if_icmp .eq 12, 3) := by decide +kernel
theorem dX12_best_119 : decode cX12_best 119 = .ok (.aload_n 0, 1) := by decide +kernel
theorem dX12_best_120 : decode cX12_best 120 = .ok (.getfield 292, 3) := by decide +kernel
theorem dX12_best_123 : decode cX12_best 123 = .ok (.bipush (-4), 2) := by decide +kernel
theorem dX12_best_125 : decode cX12_best 125 = .ok (.if_icmp .ne 8, 3) := by decide +kernel
theorem dX12_best_128 : decode cX12_best 128 = .ok (.bipush (-4), 2) := by decide +kernel
theorem dX12_best_130 : decode cX12_best 130 = .ok (.goto 26, 3) := by decide +kernel
theorem dX12_best_133 : decode cX12_best 133 = .ok (.iload_n 1, 1) := by decide +kernel
theorem dX12_best_134 : decode cX12_best 134 = .ok (.ifCond .ne 7, 3) := by decide +kernel
theorem dX12_best_137 : decode cX12_best 137 = .ok (.iload_n 2, 1) := by decide +kernel
theorem dX12_best_138 : decode cX12_best 138 = .ok (.goto 18, 3) := by decide +kernel
theorem dX12_best_141 : decode cX12_best 141 = .ok (.iload_n 1, 1) := by decide +kernel
theorem dX12_best_142 : decode cX12_best 142 = .ok (.iconst 1, 1) := by decide +kernel
theorem dX12_best_143 : decode cX12_best 143 = .ok (.if_icmp .ne 7, 3) := by decide +kernel
theorem dX12_best_146 : decode cX12_best 146 = .ok (.iload_n 3, 1) := by decide +kernel
theorem dX12_best_147 : decode cX12_best 147 = .ok (.goto 9, 3) := by decide +kernel
theorem dX12_best_150 : decode cX12_best 150 = .ok (.iload_n 3, 1) := by decide +kernel
theorem dX12_best_151 : decode cX12_best 151 = .ok (.aload_n 0, 1) := by decide +kernel
theorem dX12_best_152 : decode cX12_best 152 = .ok (.getfield 295, 3) := by decide +kernel
theorem dX12_best_155 : decode cX12_best 155 = .ok (.isub, 1) := by decide +kernel
theorem dX12_best_156 : decode cX12_best 156 = .ok (.ireturn, 1) := by decide +kernel
abbrev q_X12_best (w : Int) (σ : tw_M) : Option tw_V → tw_M → Prop := fun z τ => ∃ r : Int, z = some (vI r) ∧ (-2147483648 ≤ r ∧ r ≤ 2147483647) ∧ tw_I τ ∧ tw_F (fun c j => (c = 88 ∧ (j = 19 ∨ j = 20 ∨ j = 21 ∨ j = 22 ∨ j = 23 ∨ j = 24 ∨ j = 25 ∨ j = 26 ∨ j = 27)) ∨ (c = 89 ∧ 300 ≤ j)) σ τ ∧ True
set_option maxHeartbeats 4000000 in
set_option maxRecDepth 100000 in
theorem l_X12_best {G : tw_G} (hM : tw_isM G) (w : Int) (hw : -2147483648 ≤ w ∧ w ≤ 2147483647) (σ : tw_M) (hI : tw_I σ) : ∀ N_ : Nat, (∀ (b : Int) (hb : -2147483648 ≤ b ∧ b ≤ 2147483647) (l : Int) (hl : -2147483648 ≤ l ∧ l ≤ 2147483647) (i : Int) (hi : 1 ≤ i ∧ i ≤ 41) (τ : tw_M) (hIτ : tw_I τ) (hFτ : tw_F (fun c j => (c = 88 ∧ (j = 19 ∨ j = 20 ∨ j = 21 ∨ j = 22 ∨ j = 23 ∨ j = 24 ∨ j = 25 ∨ j = 26 ∨ j = 27)) ∨ (c = 89 ∧ 300 ≤ j)) σ τ)  (hm : (41 - i).toNat < N_), tw_J G (tw_mt RX12 cX12_best 7 (some .int) 5) (tw_E G (q_X12_best w σ)) 22 [(0, vR 88), (1, vI w), (2, vI b), (3, vI l), (4, vI i)] [] τ) := by
  intro N_
  induction N_ with
  | zero => exact fun b hb l hl i hi τ hIτ hFτ hm => absurd hm (Nat.not_lt_zero _)
  | succ N_ ih =>
    intro b hb l hl i hi τ hIτ hFτ hm
    refine j_iload (pc := 22) dX12_best_22 rfl ?_
    refine j_bipush (pc := 24) dX12_best_24 rfl ?_
    refine j_icmpR_gt (pc := 26) (tgt := 109) ⟨by omega, by omega⟩ ⟨by omega, by omega⟩ dX12_best_26 rfl (fun h1 => ?_) (fun h1 => ?_)
    · refine j_aload_n (pc := 109) dX12_best_109 rfl rfl ?_
      refine j_callV (pc := 110) (As := []) (st := []) (c_X12_findPlan hM τ hIτ) mv_X12_309 rfl rfl rfl (a_88 hM) dX12_best_110 ⟨Nat.le_of_ble_eq_true rfl, Nat.le_of_ble_eq_true rfl⟩ ⟨Nat.le_refl _, Nat.le_refl _⟩ rfl (Nat.le_of_ble_eq_true rfl) rfl (fun z2 σ3 hz2 => ?_)
      obtain ⟨rfl, hIσ3, hGσ3, q4_0, q4_1⟩ := hz2
      replace q4_0 : PS τ (σ3 88 26) (p2 (mK τ)) := q4_0
      replace q4_1 : ∀ rk : Nat → Int, MOK rk τ → WOK (wM τ) → BMS (wM τ) rk (pt (kk (wM τ))) (σ3 88 26) (σ3 88 27) := q4_1
      have hFσ3 : tw_F (fun c j => (c = 88 ∧ (j = 19 ∨ j = 20 ∨ j = 21 ∨ j = 22 ∨ j = 23 ∨ j = 24 ∨ j = 25 ∨ j = 26 ∨ j = 27)) ∨ (c = 89 ∧ 300 ≤ j)) σ σ3 := tw_F_tr hFτ hGσ3 (fun c j q => (show (c = 88 ∧ (j = 19 ∨ j = 20 ∨ j = 21 ∨ j = 22 ∨ j = 23 ∨ j = 24 ∨ j = 25 ∨ j = 26 ∨ j = 27)) ∨ (c = 89 ∧ 300 ≤ j) from by replace q : (c = 88 ∧ (j = 19 ∨ j = 20 ∨ j = 21 ∨ j = 22 ∨ j = 23 ∨ j = 24 ∨ j = 25 ∨ j = 26 ∨ j = 27)) ∨ (c = 89 ∧ 300 ≤ j) := q; exact q))
      refine j_st (st' := []) rfl ?_
      refine j_iload_n (pc := 113) dX12_best_113 rfl rfl ?_
      refine j_bipush (pc := 114) dX12_best_114 rfl ?_
      refine j_icmpR_eq (pc := 116) (tgt := 128) ⟨by omega, by omega⟩ ⟨by omega, by omega⟩ dX12_best_116 rfl (fun h6 => ?_) (fun h6 => ?_)
      · refine j_bipush (pc := 128) dX12_best_128 rfl ?_
        refine j_goto (pc := 130) (tgt := 156) dX12_best_130 rfl ?_
        exact j_iret (pc := 156) ⟨rfl, rfl⟩ dX12_best_156 rfl ⟨_, rfl, ⟨by omega, by omega⟩, hIσ3, hFσ3, trivial⟩
      · refine j_aload_n (pc := 119) dX12_best_119 rfl rfl ?_
        refine j_getI (pc := 120) fl_X12_292 dX12_best_120 (a_88 hM) rfl ?_
        have f7 : (-4 : Int) ≤ σ3 88 26 ∧ σ3 88 26 ≤ 1023 := hIσ3 88 26
        refine j_bipush (pc := 123) dX12_best_123 rfl ?_
        refine j_icmpR_ne (pc := 125) (tgt := 133) ⟨by omega, by omega⟩ ⟨by omega, by omega⟩ dX12_best_125 rfl (fun h8 => ?_) (fun h8 => ?_)
        · refine j_iload_n (pc := 133) dX12_best_133 rfl rfl ?_
          refine j_ifR_ne (pc := 134) (tgt := 141) ⟨by omega, by omega⟩ dX12_best_134 rfl (fun h9 => ?_) (fun h9 => ?_)
          · refine j_iload_n (pc := 141) dX12_best_141 rfl rfl ?_
            refine j_iconst (pc := 142) dX12_best_142 ?_
            refine j_icmpR_ne (pc := 143) (tgt := 150) ⟨by omega, by omega⟩ ⟨by omega, by omega⟩ dX12_best_143 rfl (fun h10 => ?_) (fun h10 => ?_)
            · refine j_iload_n (pc := 150) dX12_best_150 rfl rfl ?_
              refine j_aload_n (pc := 151) dX12_best_151 rfl rfl ?_
              refine j_getI (pc := 152) fl_X12_295 dX12_best_152 (a_88 hM) rfl ?_
              have f11 : (-2147483648 : Int) ≤ σ3 88 27 ∧ σ3 88 27 ≤ 2147483647 := hIσ3 88 27
              refine j_isub (pc := 155) dX12_best_155 ?_
              refine j_top (fun z12 ez12 hz12 => ?_)
              exact j_iret (pc := 156) ⟨rfl, rfl⟩ dX12_best_156 rfl ⟨_, rfl, ⟨by omega, by omega⟩, hIσ3, hFσ3, trivial⟩
            · refine j_iload_n (pc := 146) dX12_best_146 rfl rfl ?_
              refine j_goto (pc := 147) (tgt := 156) dX12_best_147 rfl ?_
              exact j_iret (pc := 156) ⟨rfl, rfl⟩ dX12_best_156 rfl ⟨_, rfl, ⟨by omega, by omega⟩, hIσ3, hFσ3, trivial⟩
          · refine j_iload_n (pc := 137) dX12_best_137 rfl rfl ?_
            refine j_goto (pc := 138) (tgt := 156) dX12_best_138 rfl ?_
            exact j_iret (pc := 156) ⟨rfl, rfl⟩ dX12_best_156 rfl ⟨_, rfl, ⟨by omega, by omega⟩, hIσ3, hFσ3, trivial⟩
        · refine j_bipush (pc := 128) dX12_best_128 rfl ?_
          refine j_goto (pc := 130) (tgt := 156) dX12_best_130 rfl ?_
          exact j_iret (pc := 156) ⟨rfl, rfl⟩ dX12_best_156 rfl ⟨_, rfl, ⟨by omega, by omega⟩, hIσ3, hFσ3, trivial⟩
    · refine j_aload_n (pc := 29) dX12_best_29 rfl rfl ?_
      refine j_iload (pc := 30) dX12_best_30 rfl ?_
      refine j_callV (pc := 32) (As := [vI i]) (st := []) (c_X12_follows hM i ⟨by omega, by omega⟩ τ hIτ) mv_X12_314 rfl rfl rfl (a_88 hM) dX12_best_32 ⟨Nat.le_of_ble_eq_true rfl, Nat.le_of_ble_eq_true rfl⟩ ⟨Nat.le_refl _, Nat.le_refl _⟩ rfl (Nat.le_of_ble_eq_true rfl) rfl (fun z13 σ14 hz13 => ?_)
      obtain ⟨rfl, hIσ14, hGσ14, -⟩ := hz13
      have hFσ14 : tw_F (fun c j => (c = 88 ∧ (j = 19 ∨ j = 20 ∨ j = 21 ∨ j = 22 ∨ j = 23 ∨ j = 24 ∨ j = 25 ∨ j = 26 ∨ j = 27)) ∨ (c = 89 ∧ 300 ≤ j)) σ σ14 := tw_F_tr hFτ hGσ14 (fun c j q => (show (c = 88 ∧ (j = 19 ∨ j = 20 ∨ j = 21 ∨ j = 22 ∨ j = 23 ∨ j = 24 ∨ j = 25 ∨ j = 26 ∨ j = 27)) ∨ (c = 89 ∧ 300 ≤ j) from by replace q : (c = 89 ∧ 300 ≤ j) := q; exact (Or.inr q)))
      refine j_st (st' := []) rfl ?_
      refine j_aload_n (pc := 35) dX12_best_35 rfl rfl ?_
      refine j_sipush (pc := 36) dX12_best_36 rfl ?_
      refine j_callV (pc := 39) (As := [vI 300]) (st := []) (c_X12_findEffort hM 300 (by (first | decide | exact ⟨by omega, by omega⟩)) σ14 hIσ14) mv_X12_277 rfl rfl rfl (a_88 hM) dX12_best_39 ⟨Nat.le_of_ble_eq_true rfl, Nat.le_of_ble_eq_true rfl⟩ ⟨Nat.le_refl _, Nat.le_refl _⟩ rfl (Nat.le_of_ble_eq_true rfl) rfl (fun z17 σ18 hz17 => ?_)
      obtain ⟨rfl, hIσ18, hGσ18, q19_0, q19_1⟩ := hz17
      replace q19_0 : σ18 88 24 = eff (wM σ14) (gM (300 : Int) σ14) (σ14 91 0).toNat := q19_0
      have y21 : σ14 91 0 = τ 91 0 := (hGσ14 91 0 (show ¬ ((91 = 89 ∧ 300 ≤ 0)) from by decide))
      have f22 : (1 : Int) ≤ τ 91 0 ∧ τ 91 0 ≤ 40 := hIτ 91 0
      replace q19_1 : TMs (wM σ14) (gM (300 : Int) σ14) (-4) 1 (σ14 91 0 + 1) (σ18 88 25) := q19_1
      have y23 : σ14 91 0 = τ 91 0 := (hGσ14 91 0 (show ¬ ((91 = 89 ∧ 300 ≤ 0)) from by decide))
      have hFσ18 : tw_F (fun c j => (c = 88 ∧ (j = 19 ∨ j = 20 ∨ j = 21 ∨ j = 22 ∨ j = 23 ∨ j = 24 ∨ j = 25 ∨ j = 26 ∨ j = 27)) ∨ (c = 89 ∧ 300 ≤ j)) σ σ18 := tw_F_tr hFσ14 hGσ18 (fun c j q => (show (c = 88 ∧ (j = 19 ∨ j = 20 ∨ j = 21 ∨ j = 22 ∨ j = 23 ∨ j = 24 ∨ j = 25 ∨ j = 26 ∨ j = 27)) ∨ (c = 89 ∧ 300 ≤ j) from by replace q : (c = 88 ∧ (j = 24 ∨ j = 25)) := q; exact (Or.inl ⟨q.1, (q.2.elim (fun z => (Or.inr (Or.inr (Or.inr (Or.inr (Or.inr (Or.inl z))))))) (fun z => (Or.inr (Or.inr (Or.inr (Or.inr (Or.inr (Or.inr (Or.inl z)))))))))⟩)))
      refine j_st (st' := []) rfl ?_
      refine j_aload_n (pc := 42) dX12_best_42 rfl rfl ?_
      refine j_sipush (pc := 43) dX12_best_43 rfl ?_
      refine j_callV (pc := 46) (As := [vI 300]) (st := []) (c_X12_riskOf hM 300 (by (first | decide | exact ⟨by omega, by omega⟩)) σ18 hIσ18 (by omega)) mv_X12_280 rfl rfl rfl (a_88 hM) dX12_best_46 ⟨Nat.le_of_ble_eq_true rfl, Nat.le_of_ble_eq_true rfl⟩ ⟨Nat.le_refl _, Nat.le_refl _⟩ rfl (Nat.le_of_ble_eq_true rfl) rfl (fun z24 σ25 hz24 => ?_)
      obtain ⟨r27, rfl, hr27, hIσ25, hGσ25, q26_0⟩ := hz24
      replace q26_0 : r27 = rsk (wM σ18) (gM (300 : Int) σ18) 1023 (σ18 91 0).toNat := q26_0
      have y28 : σ18 91 0 = τ 91 0 := ((hGσ18 91 0 (show ¬ ((91 = 88 ∧ (0 = 24 ∨ 0 = 25))) from by decide))).trans (hGσ14 91 0 (show ¬ ((91 = 89 ∧ 300 ≤ 0)) from by decide))
      have hFσ25 : tw_F (fun c j => (c = 88 ∧ (j = 19 ∨ j = 20 ∨ j = 21 ∨ j = 22 ∨ j = 23 ∨ j = 24 ∨ j = 25 ∨ j = 26 ∨ j = 27)) ∨ (c = 89 ∧ 300 ≤ j)) σ σ25 := tw_F_tr hFσ18 hGσ25 (fun c j q => (show (c = 88 ∧ (j = 19 ∨ j = 20 ∨ j = 21 ∨ j = 22 ∨ j = 23 ∨ j = 24 ∨ j = 25 ∨ j = 26 ∨ j = 27)) ∨ (c = 89 ∧ 300 ≤ j) from by replace q : (c = 88 ∧ (j = 19 ∨ j = 20 ∨ j = 21 ∨ j = 22 ∨ j = 23)) := q; exact (Or.inl ⟨q.1, (q.2.elim (fun z => (Or.inl z)) (fun z => (z.elim (fun z => (Or.inr (Or.inl z))) (fun z => (z.elim (fun z => (Or.inr (Or.inr (Or.inl z)))) (fun z => (z.elim (fun z => (Or.inr (Or.inr (Or.inr (Or.inl z))))) (fun z => (Or.inr (Or.inr (Or.inr (Or.inr (Or.inl z)))))))))))))⟩)))
      refine j_st (st' := [vI r27]) rfl ?_
      refine j_istore (pc := 49) (i := 5) (ls' := [(0, vR 88), (1, vI w), (2, vI b), (3, vI l), (4, vI i), (5, vI r27)]) [1, 2, 3, 4, 5, 0] dX12_best_49 (Nat.le_of_ble_eq_true rfl) rfl rfl ?_
      refine j_aload_n (pc := 51) dX12_best_51 rfl rfl ?_
      refine j_getI (pc := 52) fl_X12_274 dX12_best_52 (a_88 hM) rfl ?_
      refine j_topV (show σ25 88 25 = σ18 88 25 from (hGσ25 88 25 (show ¬ ((88 = 88 ∧ (25 = 19 ∨ 25 = 20 ∨ 25 = 21 ∨ 25 = 22 ∨ 25 = 23))) from by decide))) ?_
      have f29 : (-2147483648 : Int) ≤ σ18 88 25 ∧ σ18 88 25 ≤ 2147483647 := hIσ18 88 25
      refine j_bipush (pc := 55) dX12_best_55 rfl ?_
      refine j_icmpR_ne (pc := 57) (tgt := 76) ⟨by omega, by omega⟩ ⟨by omega, by omega⟩ dX12_best_57 rfl (fun h30 => ?_) (fun h30 => ?_)
      · refine j_iconst (pc := 76) dX12_best_76 ?_
        refine j_istore (pc := 77) (i := 6) (ls' := [(0, vR 88), (1, vI w), (2, vI b), (3, vI l), (4, vI i), (5, vI r27), (6, vI 0)]) [1, 2, 3, 4, 5, 6, 0] dX12_best_77 (Nat.le_of_ble_eq_true rfl) rfl rfl ?_
        refine j_iload (pc := 79) dX12_best_79 rfl ?_
        refine j_ifR_eq (pc := 81) (tgt := 89) ⟨by omega, by omega⟩ dX12_best_81 rfl (fun h31 => ?_) (fun h31 => by exfalso; omega)
        refine j_iload_n (pc := 89) dX12_best_89 rfl rfl ?_
        refine j_istore_n (pc := 90) (i := 2) (ls' := [(0, vR 88), (1, vI w), (2, vI b), (3, vI l), (4, vI i), (5, vI r27), (6, vI 0)]) [1, 2, 0, 3, 4, 5, 6] dX12_best_90 rfl (Nat.le_of_ble_eq_true rfl) rfl rfl ?_
        refine j_iload (pc := 91) dX12_best_91 rfl ?_
        refine j_ifR_eq (pc := 93) (tgt := 101) ⟨by omega, by omega⟩ dX12_best_93 rfl (fun h32 => ?_) (fun h32 => by exfalso; omega)
        refine j_iload_n (pc := 101) dX12_best_101 rfl rfl ?_
        refine j_istore_n (pc := 102) (i := 3) (ls' := [(0, vR 88), (1, vI w), (2, vI b), (3, vI l), (4, vI i)]) [1, 2, 3, 0, 4] dX12_best_102 rfl (Nat.le_of_ble_eq_true rfl) rfl rfl ?_
        refine j_iinc (pc := 103) (i := 4) (n := 1) (ls' := [(0, vR 88), (1, vI w), (2, vI b), (3, vI l), (4, vI (i + 1))]) [1, 2, 3, 4, 0] dX12_best_103 rfl (Nat.le_of_ble_eq_true rfl) rfl rfl ?_
        refine j_goto (pc := 106) (tgt := 22) dX12_best_106 rfl ?_
        refine j_ls (ls' := [(0, vR 88), (1, vI w), (2, vI b), (3, vI l), (4, vI (i + 1))]) [0, 1, 2, 3, 4] rfl ?_
        exact ih b ⟨by omega, by omega⟩ l ⟨by omega, by omega⟩ (i + 1) ⟨by omega, by omega⟩ σ25 hIσ25 hFσ25 (show (41 - (i + 1)).toNat < N_ from by omega)
      · refine j_iload_n (pc := 60) dX12_best_60 rfl rfl ?_
        refine j_bipush (pc := 61) dX12_best_61 rfl ?_
        refine j_icmpR_eq (pc := 63) (tgt := 72) ⟨by omega, by omega⟩ ⟨by omega, by omega⟩ dX12_best_63 rfl (fun h33 => ?_) (fun h33 => ?_)
        · refine j_iconst (pc := 72) dX12_best_72 ?_
          refine j_goto (pc := 73) (tgt := 77) dX12_best_73 rfl ?_
          refine j_istore (pc := 77) (i := 6) (ls' := [(0, vR 88), (1, vI w), (2, vI b), (3, vI l), (4, vI i), (5, vI r27), (6, vI 1)]) [1, 2, 3, 4, 5, 6, 0] dX12_best_77 (Nat.le_of_ble_eq_true rfl) rfl rfl ?_
          refine j_iload (pc := 79) dX12_best_79 rfl ?_
          refine j_ifR_eq (pc := 81) (tgt := 89) ⟨by omega, by omega⟩ dX12_best_81 rfl (fun h34 => by exfalso; omega) (fun h34 => ?_)
          refine j_iload (pc := 84) dX12_best_84 rfl ?_
          refine j_goto (pc := 86) (tgt := 90) dX12_best_86 rfl ?_
          refine j_istore_n (pc := 90) (i := 2) (ls' := [(0, vR 88), (1, vI w), (2, vI i), (3, vI l), (4, vI i), (5, vI r27), (6, vI 1)]) [1, 2, 0, 3, 4, 5, 6] dX12_best_90 rfl (Nat.le_of_ble_eq_true rfl) rfl rfl ?_
          refine j_iload (pc := 91) dX12_best_91 rfl ?_
          refine j_ifR_eq (pc := 93) (tgt := 101) ⟨by omega, by omega⟩ dX12_best_93 rfl (fun h35 => by exfalso; omega) (fun h35 => ?_)
          refine j_iload (pc := 96) dX12_best_96 rfl ?_
          refine j_goto (pc := 98) (tgt := 102) dX12_best_98 rfl ?_
          refine j_istore_n (pc := 102) (i := 3) (ls' := [(0, vR 88), (1, vI w), (2, vI i), (3, vI r27), (4, vI i)]) [1, 2, 3, 0, 4] dX12_best_102 rfl (Nat.le_of_ble_eq_true rfl) rfl rfl ?_
          refine j_iinc (pc := 103) (i := 4) (n := 1) (ls' := [(0, vR 88), (1, vI w), (2, vI i), (3, vI r27), (4, vI (i + 1))]) [1, 2, 3, 4, 0] dX12_best_103 rfl (Nat.le_of_ble_eq_true rfl) rfl rfl ?_
          refine j_goto (pc := 106) (tgt := 22) dX12_best_106 rfl ?_
          refine j_ls (ls' := [(0, vR 88), (1, vI w), (2, vI i), (3, vI r27), (4, vI (i + 1))]) [0, 1, 2, 3, 4] rfl ?_
          exact ih i ⟨by omega, by omega⟩ r27 ⟨by omega, by omega⟩ (i + 1) ⟨by omega, by omega⟩ σ25 hIσ25 hFσ25 (show (41 - (i + 1)).toNat < N_ from by omega)
        · refine j_iload (pc := 66) dX12_best_66 rfl ?_
          refine j_iload_n (pc := 68) dX12_best_68 rfl rfl ?_
          refine j_icmpR_gt (pc := 69) (tgt := 76) ⟨by omega, by omega⟩ ⟨by omega, by omega⟩ dX12_best_69 rfl (fun h36 => ?_) (fun h36 => ?_)
          · refine j_iconst (pc := 76) dX12_best_76 ?_
            refine j_istore (pc := 77) (i := 6) (ls' := [(0, vR 88), (1, vI w), (2, vI b), (3, vI l), (4, vI i), (5, vI r27), (6, vI 0)]) [1, 2, 3, 4, 5, 6, 0] dX12_best_77 (Nat.le_of_ble_eq_true rfl) rfl rfl ?_
            refine j_iload (pc := 79) dX12_best_79 rfl ?_
            refine j_ifR_eq (pc := 81) (tgt := 89) ⟨by omega, by omega⟩ dX12_best_81 rfl (fun h37 => ?_) (fun h37 => by exfalso; omega)
            refine j_iload_n (pc := 89) dX12_best_89 rfl rfl ?_
            refine j_istore_n (pc := 90) (i := 2) (ls' := [(0, vR 88), (1, vI w), (2, vI b), (3, vI l), (4, vI i), (5, vI r27), (6, vI 0)]) [1, 2, 0, 3, 4, 5, 6] dX12_best_90 rfl (Nat.le_of_ble_eq_true rfl) rfl rfl ?_
            refine j_iload (pc := 91) dX12_best_91 rfl ?_
            refine j_ifR_eq (pc := 93) (tgt := 101) ⟨by omega, by omega⟩ dX12_best_93 rfl (fun h38 => ?_) (fun h38 => by exfalso; omega)
            refine j_iload_n (pc := 101) dX12_best_101 rfl rfl ?_
            refine j_istore_n (pc := 102) (i := 3) (ls' := [(0, vR 88), (1, vI w), (2, vI b), (3, vI l), (4, vI i)]) [1, 2, 3, 0, 4] dX12_best_102 rfl (Nat.le_of_ble_eq_true rfl) rfl rfl ?_
            refine j_iinc (pc := 103) (i := 4) (n := 1) (ls' := [(0, vR 88), (1, vI w), (2, vI b), (3, vI l), (4, vI (i + 1))]) [1, 2, 3, 4, 0] dX12_best_103 rfl (Nat.le_of_ble_eq_true rfl) rfl rfl ?_
            refine j_goto (pc := 106) (tgt := 22) dX12_best_106 rfl ?_
            refine j_ls (ls' := [(0, vR 88), (1, vI w), (2, vI b), (3, vI l), (4, vI (i + 1))]) [0, 1, 2, 3, 4] rfl ?_
            exact ih b ⟨by omega, by omega⟩ l ⟨by omega, by omega⟩ (i + 1) ⟨by omega, by omega⟩ σ25 hIσ25 hFσ25 (show (41 - (i + 1)).toNat < N_ from by omega)
          · refine j_iconst (pc := 72) dX12_best_72 ?_
            refine j_goto (pc := 73) (tgt := 77) dX12_best_73 rfl ?_
            refine j_istore (pc := 77) (i := 6) (ls' := [(0, vR 88), (1, vI w), (2, vI b), (3, vI l), (4, vI i), (5, vI r27), (6, vI 1)]) [1, 2, 3, 4, 5, 6, 0] dX12_best_77 (Nat.le_of_ble_eq_true rfl) rfl rfl ?_
            refine j_iload (pc := 79) dX12_best_79 rfl ?_
            refine j_ifR_eq (pc := 81) (tgt := 89) ⟨by omega, by omega⟩ dX12_best_81 rfl (fun h39 => by exfalso; omega) (fun h39 => ?_)
            refine j_iload (pc := 84) dX12_best_84 rfl ?_
            refine j_goto (pc := 86) (tgt := 90) dX12_best_86 rfl ?_
            refine j_istore_n (pc := 90) (i := 2) (ls' := [(0, vR 88), (1, vI w), (2, vI i), (3, vI l), (4, vI i), (5, vI r27), (6, vI 1)]) [1, 2, 0, 3, 4, 5, 6] dX12_best_90 rfl (Nat.le_of_ble_eq_true rfl) rfl rfl ?_
            refine j_iload (pc := 91) dX12_best_91 rfl ?_
            refine j_ifR_eq (pc := 93) (tgt := 101) ⟨by omega, by omega⟩ dX12_best_93 rfl (fun h40 => by exfalso; omega) (fun h40 => ?_)
            refine j_iload (pc := 96) dX12_best_96 rfl ?_
            refine j_goto (pc := 98) (tgt := 102) dX12_best_98 rfl ?_
            refine j_istore_n (pc := 102) (i := 3) (ls' := [(0, vR 88), (1, vI w), (2, vI i), (3, vI r27), (4, vI i)]) [1, 2, 3, 0, 4] dX12_best_102 rfl (Nat.le_of_ble_eq_true rfl) rfl rfl ?_
            refine j_iinc (pc := 103) (i := 4) (n := 1) (ls' := [(0, vR 88), (1, vI w), (2, vI i), (3, vI r27), (4, vI (i + 1))]) [1, 2, 3, 4, 0] dX12_best_103 rfl (Nat.le_of_ble_eq_true rfl) rfl rfl ?_
            refine j_goto (pc := 106) (tgt := 22) dX12_best_106 rfl ?_
            refine j_ls (ls' := [(0, vR 88), (1, vI w), (2, vI i), (3, vI r27), (4, vI (i + 1))]) [0, 1, 2, 3, 4] rfl ?_
            exact ih i ⟨by omega, by omega⟩ r27 ⟨by omega, by omega⟩ (i + 1) ⟨by omega, by omega⟩ σ25 hIσ25 hFσ25 (show (41 - (i + 1)).toNat < N_ from by omega)
set_option maxHeartbeats 4000000 in
set_option maxRecDepth 100000 in
theorem c_X12_best {G : tw_G} (hM : tw_isM G) (w : Int) (hw : -2147483648 ≤ w ∧ w ≤ 2147483647) (σ : tw_M) (hI : tw_I σ) : tw_C G yX12_best cX12_best 7 (some .int) 5 [vR 88, vI w] σ (q_X12_best w σ) := by
  refine tw_met [(0, vR 88), (1, vI w)] (by decide +kernel) rfl (Nat.le_of_ble_eq_true rfl) ?_
  refine j_iload_n (pc := 0) dX12_best_0 rfl rfl ?_
  refine j_i2l (pc := 1) dX12_best_1 ?_
  rw [w32_eq (a := w) (by omega) (by omega)]
  refine j_lconst (pc := 2) (z := 0) dX12_best_2 rfl ?_
  refine j_ldc2 (pc := 3) (z := 2) dX12_best_3 (tw_inc tm_7 (i := 149) rfl rfl) ?_
  refine j_callS (pc := 6) (As := [vL w, vL 0, vL 2]) (st := []) (c_X12_in w ⟨by omega, by omega⟩ 0 (by (first | decide | exact ⟨by omega, by omega⟩)) 2 (by (first | decide | exact ⟨by omega, by omega⟩)) σ hI) ms_X12_82 rfl dX12_best_6 ⟨Nat.le_of_ble_eq_true rfl, Nat.le_of_ble_eq_true rfl⟩ ⟨Nat.le_refl _, Nat.le_refl _⟩ rfl (Nat.le_of_ble_eq_true rfl) rfl (fun z41 σ42 hz41 => ?_)
  obtain ⟨r44, rfl, hr44, rfl, q43_0⟩ := hz41
  replace q43_0 : (r44 = 1 ∧ (0 : Int) ≤ w ∧ w ≤ (2 : Int)) ∨ (r44 = 0 ∧ ¬ ((0 : Int) ≤ w ∧ w ≤ (2 : Int))) := q43_0
  refine j_st (st' := [vI r44]) rfl ?_
  refine j_ifR_ne (pc := 9) (tgt := 14) ⟨by omega, by omega⟩ dX12_best_9 rfl (fun h45 => ?_) (fun h45 => ?_)
  · refine j_bipush (pc := 14) dX12_best_14 rfl ?_
    refine j_istore_n (pc := 16) (i := 2) (ls' := [(0, vR 88), (1, vI w), (2, vI (-4))]) [1, 2, 0] dX12_best_16 rfl (Nat.le_of_ble_eq_true rfl) rfl rfl ?_
    refine j_iconst (pc := 17) dX12_best_17 ?_
    refine j_istore_n (pc := 18) (i := 3) (ls' := [(0, vR 88), (1, vI w), (2, vI (-4)), (3, vI 0)]) [1, 2, 3, 0] dX12_best_18 rfl (Nat.le_of_ble_eq_true rfl) rfl rfl ?_
    refine j_iconst (pc := 19) dX12_best_19 ?_
    refine j_istore (pc := 20) (i := 4) (ls' := [(0, vR 88), (1, vI w), (2, vI (-4)), (3, vI 0), (4, vI 1)]) [1, 2, 3, 4, 0] dX12_best_20 (Nat.le_of_ble_eq_true rfl) rfl rfl ?_
    refine j_ls (ls' := [(0, vR 88), (1, vI w), (2, vI (-4)), (3, vI 0), (4, vI 1)]) [0, 1, 2, 3, 4] rfl ?_
    exact (l_X12_best hM w hw σ hI (((41 - (1 : Int)).toNat) + 1)) (-4) (by (first | decide | exact ⟨by omega, by omega⟩)) 0 (by (first | decide | exact ⟨by omega, by omega⟩)) 1 (by (first | decide | exact ⟨by omega, by omega⟩)) σ hI (tw_F_rf) (Nat.lt_succ_self _)
  · refine j_iconst (pc := 12) dX12_best_12 ?_
    exact j_iret (pc := 13) ⟨rfl, rfl⟩ dX12_best_13 rfl ⟨_, rfl, ⟨by omega, by omega⟩, hI, (tw_F_rf), trivial⟩
