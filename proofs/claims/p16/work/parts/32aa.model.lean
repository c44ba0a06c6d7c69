/-! 32aa.model -/
theorem dX12_whyNot_0 : decode cX12_whyNot 0 = .ok (.aload_n 0, 1) := by decide +kernel
theorem dX12_whyNot_1 : decode cX12_whyNot 1 = .ok (.iload_n 1, 1) := by decide +kernel
theorem dX12_whyNot_2 : decode cX12_whyNot 2 = .ok (.invokevirtual 175, 3) := by decide +kernel
theorem dX12_whyNot_5 : decode cX12_whyNot 5 = .ok (.ifCond .eq 15, 3) := by decide +kernel
theorem dX12_whyNot_8 : decode cX12_whyNot 8 = .ok (.iload_n 2, 1) := by decide +kernel
theorem dX12_whyNot_9 : decode cX12_whyNot 9 = .ok (.i2l, 1) := by decide +kernel
theorem dX12_whyNot_10 : decode cX12_whyNot 10 = .ok (.lconst 1, 1) := by decide +kernel
theorem dX12_whyNot_11 : decode cX12_whyNot 11 = .ok (.ldc2_w 187, 3) := by decide +kernel
theorem dX12_whyNot_14 : decode cX12_whyNot 14 = .ok (.invokestatic 82, 3) := by decide +kernel
theorem dX12_whyNot_17 : decode cX12_whyNot 17 = .ok (.ifCond .ne 5, 3) := by decide +kernel
theorem dX12_whyNot_20 : decode cX12_whyNot 20 = .ok (.iconst (-1), 1) := by decide +kernel
theorem dX12_whyNot_21 : decode cX12_whyNot 21 = .ok (.ireturn, 1) := by decide +kernel
theorem dX12_whyNot_22 : decode cX12_whyNot 22 = .ok (.aload_n 0, 1) := by decide +kernel
theorem dX12_whyNot_23 : decode cX12_whyNot 23 = .ok (.iload_n 1, 1) := by decide +kernel
theorem dX12_whyNot_24 : decode cX12_whyNot 24 = .ok (.iconst 1, 1) := by decide +kernel
theorem dX12_whyNot_25 : decode cX12_whyNot 25 = .ok (.invokevirtual 184, 3) := by decide +kernel
theorem dX12_whyNot_28 : decode cX12_whyNot 28 = .ok (.ifCond .eq 27, 3) := by decide +kernel
theorem dX12_whyNot_31 : decode cX12_whyNot 31 = .ok (.aload_n 0, 1) := by decide +kernel
theorem dX12_whyNot_32 : decode cX12_whyNot 32 = .ok (.getfield 7, 3) := by decide +kernel
theorem dX12_whyNot_35 : decode cX12_whyNot 35 = .ok (.iload_n 1, 1) := by decide +kernel
theorem dX12_whyNot_36 : decode cX12_whyNot 36 = .ok (.iaload, 1) := by decide +kernel
theorem dX12_whyNot_37 : decode cX12_whyNot 37 = .ok (.ifCond .gt 18, 3) := by decide +kernel
theorem dX12_whyNot_40 : decode cX12_whyNot 40 = .ok (.aload_n 0, 1) := by decide +kernel
theorem dX12_whyNot_41 : decode cX12_whyNot 41 = .ok (.iload_n 1, 1) := by decide +kernel
theorem dX12_whyNot_42 : decode cX12_whyNot 42 = .ok (.iconst 1, 1) := by decide +kernel
theorem dX12_whyNot_43 : decode cX12_whyNot 43 = .ok (.invokevirtual 184, 3) := by decide +kernel
theorem dX12_whyNot_46 : decode cX12_whyNot 46 = .ok (.iload_n 2, 1) := by decide +kernel
theorem dX12_whyNot_47 : decode cX12_whyNot 47 = .ok (.isub, 1) := by decide +kernel
theorem dX12_whyNot_48 : decode cX12_whyNot 48 = .ok (.invokestatic 189, 3) := by decide +kernel
theorem dX12_whyNot_51 : decode cX12_whyNot 51 = .ok (.iconst 1, 1) := by decide +kernel
theorem dX12_whyNot_52 : decode cX12_whyNot 52 = .ok (.if_icmp .le 6, 3) := by decide +kernel
theorem dX12_whyNot_55 : decode cX12_whyNot 55 = .ok (.bipush (-2), 2) := by decide +kernel
theorem dX12_whyNot_57 : decode cX12_whyNot 57 = .ok (.ireturn, 1) := by decide +kernel
theorem dX12_whyNot_58 : decode cX12_whyNot 58 = .ok (.aload_n 0, 1) := by decide +kernel
theorem dX12_whyNot_59 : decode cX12_whyNot 59 = .ok (.iconst 0, 1) := by decide +kernel
theorem dX12_whyNot_60 : decode cX12_whyNot 60 = .ok (.invokevirtual 192, 3) := by decide +kernel
theorem dX12_whyNot_63 : decode cX12_whyNot 63 = .ok (.bipush 10, 2) := by decide +kernel
theorem dX12_whyNot_65 : decode cX12_whyNot 65 = .ok (.if_icmp .ne 8, 3) := by decide +kernel
theorem dX12_whyNot_68 : decode cX12_whyNot 68 = .ok (.bipush (-3), 2) := by decide +kernel
theorem dX12_whyNot_70 : decode cX12_whyNot 70 = .ok (.goto 21, 3) := by decide +kernel
theorem dX12_whyNot_73 : decode cX12_whyNot 73 = .ok (.aload_n 0, 1) := by decide +kernel
theorem dX12_whyNot_74 : decode cX12_whyNot 74 = .ok (.getfield 7, 3) := by decide +kernel
theorem dX12_whyNot_77 : decode cX12_whyNot 77 = .ok (.bipush 82, 2) := by decide +kernel
theorem dX12_whyNot_79 : decode cX12_whyNot 79 = .ok (.iload_n 2, 1) := by decide +kernel
theorem dX12_whyNot_80 : decode cX12_whyNot 80 = .ok (.iadd, 1) := by decide +kernel
theorem dX12_whyNot_81 : decode cX12_whyNot 81 = .ok (.iaload, 1) := by decide +kernel
theorem dX12_whyNot_82 : decode cX12_whyNot 82 = .ok (.ifCond .ne 8, 3) := by decide +kernel
theorem dX12_whyNot_85 : decode cX12_whyNot 85 = .ok (.bipush (-4), 2) := by decide +kernel
theorem dX12_whyNot_87 : decode cX12_whyNot 87 = .ok (.goto 4, 3) := by decide +kernel
theorem dX12_whyNot_90 : decode cX12_whyNot 90 = .ok (.iconst 0, 1) := by decide +kernel
theorem dX12_whyNot_91 : decode cX12_whyNot 91 = .ok (.ireturn, 1) := by decide +kernel
abbrev q_X12_whyNot (h : Int) (s : Int) (σ : tw_M) : Option tw_V → tw_M → Prop := fun z τ => ∃ r : Int, z = some (vI r) ∧ (-2147483648 ≤ r ∧ r ≤ 2147483647) ∧ σ = τ ∧ (¬ r = 0 ∨ (1 ≤ h ∧ h ≤ σ 91 0 ∧ h ≤ 40 ∧ 1 ≤ s ∧ s ≤ 10 ∧ σ 89 h.toNat = 0 ∧ ¬ mc σ 0 (σ 91 0).toNat = 10)) ∧ (mI σ → r = whyS (wM σ) (gM 0 σ h.toNat) (cnt (gM 0 σ) (σ 91 0).toNat) (σ 89 (82 + s).toNat) h s)
set_option maxHeartbeats 4000000 in
set_option maxRecDepth 100000 in
theorem c_X12_whyNot {G : tw_G} (hM : tw_isM G) (h : Int) (hh : -2147483648 ≤ h ∧ h ≤ 2147483647) (s : Int) (hs : -2147483648 ≤ s ∧ s ≤ 2147483647) (σ : tw_M) (hI : tw_I σ) : tw_C G yX12_whyNot cX12_whyNot 3 (some .int) 3 [vR 88, vI h, vI s] σ (q_X12_whyNot h s σ) := by
  refine tw_met [(0, vR 88), (1, vI h), (2, vI s)] (by decide +kernel) rfl (Nat.le_of_ble_eq_true rfl) ?_
  have r0 : wM σ 100 = σ 91 0 := wM_r (j := 0) (by decide)
  refine j_aload_n (pc := 0) dX12_whyNot_0 rfl rfl ?_
  refine j_iload_n (pc := 1) dX12_whyNot_1 rfl rfl ?_
  refine j_callV (pc := 2) (As := [vI h]) (st := []) (c_X12_isAt hM h ⟨by omega, by omega⟩ σ hI) mv_X12_175 rfl rfl rfl (a_88 hM) dX12_whyNot_2 ⟨Nat.le_of_ble_eq_true rfl, Nat.le_of_ble_eq_true rfl⟩ ⟨Nat.le_refl _, Nat.le_refl _⟩ rfl (Nat.le_of_ble_eq_true rfl) rfl (fun z1 σ2 hz1 => ?_)
  obtain ⟨r4, rfl, hr4, rfl, q3_0⟩ := hz1
  replace q3_0 : (r4 = 1 ∧ 1 ≤ h ∧ h ≤ σ 91 0 ∧ h ≤ 40) ∨ (r4 = 0 ∧ ¬ (1 ≤ h ∧ h ≤ σ 91 0)) := q3_0
  refine j_st (st' := [vI r4]) rfl ?_
  refine j_ifR_eq (pc := 5) (tgt := 20) ⟨by omega, by omega⟩ dX12_whyNot_5 rfl (fun h5 => ?_) (fun h5 => ?_)
  · refine j_iconst (pc := 20) dX12_whyNot_20 ?_
    have fin : mI σ → (-1) = whyS (wM σ) (gM 0 σ h.toNat) (cnt (gM 0 σ) (σ 91 0).toNat) (σ 89 (82 + s).toNat) h s := fun M => (why_1 (W := wM σ) (gh := gM 0 σ h.toNat) (n := cnt (gM 0 σ) (σ 91 0).toNat) (rs := σ 89 (82 + s).toNat) (h := h) (s := s) (by omega)).symm
    exact j_iret (pc := 21) ⟨rfl, rfl⟩ dX12_whyNot_21 rfl ⟨_, rfl, ⟨by omega, by omega⟩, rfl, by omega, fin⟩
  · refine j_iload_n (pc := 8) dX12_whyNot_8 rfl rfl ?_
    refine j_i2l (pc := 9) dX12_whyNot_9 ?_
    rw [w32_eq (a := s) (by omega) (by omega)]
    refine j_lconst (pc := 10) (z := 1) dX12_whyNot_10 rfl ?_
    refine j_ldc2 (pc := 11) (z := 10) dX12_whyNot_11 (tw_inc tm_6 (i := 239) rfl rfl) ?_
    refine j_callS (pc := 14) (As := [vL s, vL 1, vL 10]) (st := []) (c_X12_in s ⟨by omega, by omega⟩ 1 (by (first | decide | exact ⟨by omega, by omega⟩)) 10 (by (first | decide | exact ⟨by omega, by omega⟩)) σ hI) ms_X12_82 rfl dX12_whyNot_14 ⟨Nat.le_of_ble_eq_true rfl, Nat.le_of_ble_eq_true rfl⟩ ⟨Nat.le_refl _, Nat.le_refl _⟩ rfl (Nat.le_of_ble_eq_true rfl) rfl (fun z6 σ7 hz6 => ?_)
    obtain ⟨r9, rfl, hr9, rfl, q8_0⟩ := hz6
    replace q8_0 : (r9 = 1 ∧ (1 : Int) ≤ s ∧ s ≤ (10 : Int)) ∨ (r9 = 0 ∧ ¬ ((1 : Int) ≤ s ∧ s ≤ (10 : Int))) := q8_0
    refine j_st (st' := [vI r9]) rfl ?_
    refine j_ifR_ne (pc := 17) (tgt := 22) ⟨by omega, by omega⟩ dX12_whyNot_17 rfl (fun h10 => ?_) (fun h10 => ?_)
    · have ft : (1 : Int) ≤ σ 91 0 ∧ σ 91 0 ≤ 40 := hI 91 0
      have c9 : wC (wM σ) h = σ 92 (5 * h + 1).toNat := wM_1 ⟨by omega, by omega⟩
      have g9 : gM 0 σ h.toNat = σ 89 h.toNat := (gM_at (b := 0) ⟨by omega, by omega⟩).trans (by rw [show (0 + h).toNat = h.toNat from by omega])
      refine j_aload_n (pc := 22) dX12_whyNot_22 rfl rfl ?_
      refine j_iload_n (pc := 23) dX12_whyNot_23 rfl rfl ?_
      refine j_iconst (pc := 24) dX12_whyNot_24 ?_
      refine j_callV (pc := 25) (As := [vI h, vI 1]) (st := []) (c_X12_of hM h ⟨by omega, by omega⟩ 1 (by (first | decide | exact ⟨by omega, by omega⟩)) σ hI) mv_X12_184 rfl rfl rfl (a_88 hM) dX12_whyNot_25 ⟨Nat.le_of_ble_eq_true rfl, Nat.le_of_ble_eq_true rfl⟩ ⟨Nat.le_refl _, Nat.le_refl _⟩ rfl (Nat.le_of_ble_eq_true rfl) rfl (fun z11 σ12 hz11 => ?_)
      obtain ⟨r14, rfl, hr14, rfl, q13_0⟩ := hz11
      replace q13_0 : r14 = σ 92 (5 * h + (1 : Int)).toNat := q13_0
      refine j_st (st' := [vI r14]) rfl ?_
      refine j_ifR_eq (pc := 28) (tgt := 55) ⟨by omega, by omega⟩ dX12_whyNot_28 rfl (fun h15 => ?_) (fun h15 => ?_)
      · refine j_bipush (pc := 55) dX12_whyNot_55 rfl ?_
        have fin : mI σ → (-2) = whyS (wM σ) (gM 0 σ h.toNat) (cnt (gM 0 σ) (σ 91 0).toNat) (σ 89 (82 + s).toNat) h s := fun M => (why_2 (W := wM σ) (gh := gM 0 σ h.toNat) (n := cnt (gM 0 σ) (σ 91 0).toNat) (rs := σ 89 (82 + s).toNat) (h := h) (s := s) ⟨by omega, by omega, by omega, by omega⟩ (by omega)).symm
        exact j_iret (pc := 57) ⟨rfl, rfl⟩ dX12_whyNot_57 rfl ⟨_, rfl, ⟨by omega, by omega⟩, rfl, by omega, fin⟩
      · refine j_aload_n (pc := 31) dX12_whyNot_31 rfl rfl ?_
        refine j_getR (pc := 32) (r := 89) fl_X12_7 dX12_whyNot_32 (a_88 hM) rfl ?_
        refine j_iload_n (pc := 35) dX12_whyNot_35 rfl rfl ?_
        refine j_iald (pc := 36) dX12_whyNot_36 (a_89 hM) (by omega) (by omega) (by decide) ?_
        have f16 : (-2147483648 : Int) ≤ σ 89 (h.toNat) ∧ σ 89 (h.toNat) ≤ 2147483647 := st_D hI _
        have g17 : (0 : Int) ≤ σ 89 (h.toNat) ∧ σ 89 (h.toNat) ≤ 10 := st_p hI (by omega)
        refine j_ifR_gt (pc := 37) (tgt := 55) ⟨by omega, by omega⟩ dX12_whyNot_37 rfl (fun h18 => ?_) (fun h18 => ?_)
        · refine j_bipush (pc := 55) dX12_whyNot_55 rfl ?_
          have fin : mI σ → (-2) = whyS (wM σ) (gM 0 σ h.toNat) (cnt (gM 0 σ) (σ 91 0).toNat) (σ 89 (82 + s).toNat) h s := fun M => (why_2 (W := wM σ) (gh := gM 0 σ h.toNat) (n := cnt (gM 0 σ) (σ 91 0).toNat) (rs := σ 89 (82 + s).toNat) (h := h) (s := s) ⟨by omega, by omega, by omega, by omega⟩ (by omega)).symm
          exact j_iret (pc := 57) ⟨rfl, rfl⟩ dX12_whyNot_57 rfl ⟨_, rfl, ⟨by omega, by omega⟩, rfl, by omega, fin⟩
        · refine j_aload_n (pc := 40) dX12_whyNot_40 rfl rfl ?_
          refine j_iload_n (pc := 41) dX12_whyNot_41 rfl rfl ?_
          refine j_iconst (pc := 42) dX12_whyNot_42 ?_
          refine j_callV (pc := 43) (As := [vI h, vI 1]) (st := []) (c_X12_of hM h ⟨by omega, by omega⟩ 1 (by (first | decide | exact ⟨by omega, by omega⟩)) σ hI) mv_X12_184 rfl rfl rfl (a_88 hM) dX12_whyNot_43 ⟨Nat.le_of_ble_eq_true rfl, Nat.le_of_ble_eq_true rfl⟩ ⟨Nat.le_refl _, Nat.le_refl _⟩ rfl (Nat.le_of_ble_eq_true rfl) rfl (fun z19 σ20 hz19 => ?_)
          obtain ⟨r22, rfl, hr22, rfl, q21_0⟩ := hz19
          replace q21_0 : r22 = σ 92 (5 * h + (1 : Int)).toNat := q21_0
          refine j_st (st' := [vI r22]) rfl ?_
          refine j_iload_n (pc := 46) dX12_whyNot_46 rfl rfl ?_
          refine j_isub (pc := 47) dX12_whyNot_47 ?_
          refine j_callS (pc := 48) (As := [vI (r22 - s)]) (st := []) (c_X12_size (r22 - s) ⟨by omega, by omega⟩ σ hI) ms_X12_189 rfl dX12_whyNot_48 ⟨Nat.le_of_ble_eq_true rfl, Nat.le_of_ble_eq_true rfl⟩ ⟨Nat.le_refl _, Nat.le_refl _⟩ rfl (Nat.le_of_ble_eq_true rfl) rfl (fun z23 σ24 hz23 => ?_)
          obtain ⟨r26, rfl, hr26, rfl, q25_0⟩ := hz23
          replace q25_0 : (0 ≤ (r22 - s) ∧ r26 = (r22 - s)) ∨ ((r22 - s) < 0 ∧ r26 = -(r22 - s)) := q25_0
          refine j_st (st' := [vI r26]) rfl ?_
          refine j_iconst (pc := 51) dX12_whyNot_51 ?_
          refine j_icmpR_le (pc := 52) (tgt := 58) ⟨by omega, by omega⟩ ⟨by omega, by omega⟩ dX12_whyNot_52 rfl (fun h27 => ?_) (fun h27 => ?_)
          · refine j_aload_n (pc := 58) dX12_whyNot_58 rfl rfl ?_
            refine j_iconst (pc := 59) dX12_whyNot_59 ?_
            refine j_callV (pc := 60) (As := [vI 0]) (st := []) (c_X12_all hM 0 (by (first | decide | exact ⟨by omega, by omega⟩)) σ hI) mv_X12_192 rfl rfl rfl (a_88 hM) dX12_whyNot_60 ⟨Nat.le_of_ble_eq_true rfl, Nat.le_of_ble_eq_true rfl⟩ ⟨Nat.le_refl _, Nat.le_refl _⟩ rfl (Nat.le_of_ble_eq_true rfl) rfl (fun z28 σ29 hz28 => ?_)
            obtain ⟨r31, rfl, hr31, rfl, q30_0⟩ := hz28
            replace q30_0 : r31 = mc σ (0 : Int) (σ 91 0).toNat := q30_0
            refine j_st (st' := [vI r31]) rfl ?_
            have n9 := q30_0; rw [mc_gM (by omega)] at n9
            refine j_bipush (pc := 63) dX12_whyNot_63 rfl ?_
            refine j_icmpR_ne (pc := 65) (tgt := 73) ⟨by omega, by omega⟩ ⟨by omega, by omega⟩ dX12_whyNot_65 rfl (fun h32 => ?_) (fun h32 => ?_)
            · refine j_aload_n (pc := 73) dX12_whyNot_73 rfl rfl ?_
              refine j_getR (pc := 74) (r := 89) fl_X12_7 dX12_whyNot_74 (a_88 hM) rfl ?_
              refine j_bipush (pc := 77) dX12_whyNot_77 rfl ?_
              refine j_iload_n (pc := 79) dX12_whyNot_79 rfl rfl ?_
              refine j_iadd (pc := 80) dX12_whyNot_80 ?_
              refine j_iald (pc := 81) dX12_whyNot_81 (a_89 hM) (by omega) (by omega) (by decide) ?_
              have f33 : (-2147483648 : Int) ≤ σ 89 ((82 + s).toNat) ∧ σ 89 ((82 + s).toNat) ≤ 2147483647 := st_D hI _
              refine j_ifR_ne (pc := 82) (tgt := 90) ⟨by omega, by omega⟩ dX12_whyNot_82 rfl (fun h34 => ?_) (fun h34 => ?_)
              · refine j_iconst (pc := 90) dX12_whyNot_90 ?_
                have fin : mI σ → 0 = whyS (wM σ) (gM 0 σ h.toNat) (cnt (gM 0 σ) (σ 91 0).toNat) (σ 89 (82 + s).toNat) h s := fun M => by
                  have m := M.1
                  rw [mc_gM (by omega)] at m
                  exact (why_0 (W := wM σ) (gh := gM 0 σ h.toNat) (n := cnt (gM 0 σ) (σ 91 0).toNat) (rs := σ 89 (82 + s).toNat) (h := h) (s := s) ⟨by omega, by omega, by omega, by omega⟩ (by omega) (by omega) (by omega)).symm
                exact j_iret (pc := 91) ⟨rfl, rfl⟩ dX12_whyNot_91 rfl ⟨_, rfl, ⟨by omega, by omega⟩, rfl, by omega, fin⟩
              · refine j_bipush (pc := 85) dX12_whyNot_85 rfl ?_
                refine j_goto (pc := 87) (tgt := 91) dX12_whyNot_87 rfl ?_
                have fin : mI σ → (-4) = whyS (wM σ) (gM 0 σ h.toNat) (cnt (gM 0 σ) (σ 91 0).toNat) (σ 89 (82 + s).toNat) h s := fun M => by
                  have m := M.1
                  rw [mc_gM (by omega)] at m
                  first
                  | exact (why_3 (W := wM σ) (gh := gM 0 σ h.toNat) (n := cnt (gM 0 σ) (σ 91 0).toNat) (rs := σ 89 (82 + s).toNat) (h := h) (s := s) ⟨by omega, by omega, by omega, by omega⟩ (by omega) (by omega)).symm
                  | exact (why_4 (W := wM σ) (gh := gM 0 σ h.toNat) (n := cnt (gM 0 σ) (σ 91 0).toNat) (rs := σ 89 (82 + s).toNat) (h := h) (s := s) ⟨by omega, by omega, by omega, by omega⟩ (by omega) (by omega) (by omega)).symm
                exact j_iret (pc := 91) ⟨rfl, rfl⟩ dX12_whyNot_91 rfl ⟨_, rfl, ⟨by omega, by omega⟩, rfl, by omega, fin⟩
            · refine j_bipush (pc := 68) dX12_whyNot_68 rfl ?_
              refine j_goto (pc := 70) (tgt := 91) dX12_whyNot_70 rfl ?_
              have fin : mI σ → (-3) = whyS (wM σ) (gM 0 σ h.toNat) (cnt (gM 0 σ) (σ 91 0).toNat) (σ 89 (82 + s).toNat) h s := fun M => by
                have m := M.1
                rw [mc_gM (by omega)] at m
                first
                | exact (why_3 (W := wM σ) (gh := gM 0 σ h.toNat) (n := cnt (gM 0 σ) (σ 91 0).toNat) (rs := σ 89 (82 + s).toNat) (h := h) (s := s) ⟨by omega, by omega, by omega, by omega⟩ (by omega) (by omega)).symm
                | exact (why_4 (W := wM σ) (gh := gM 0 σ h.toNat) (n := cnt (gM 0 σ) (σ 91 0).toNat) (rs := σ 89 (82 + s).toNat) (h := h) (s := s) ⟨by omega, by omega, by omega, by omega⟩ (by omega) (by omega) (by omega)).symm
              exact j_iret (pc := 91) ⟨rfl, rfl⟩ dX12_whyNot_91 rfl ⟨_, rfl, ⟨by omega, by omega⟩, rfl, by omega, fin⟩
          · refine j_bipush (pc := 55) dX12_whyNot_55 rfl ?_
            have fin : mI σ → (-2) = whyS (wM σ) (gM 0 σ h.toNat) (cnt (gM 0 σ) (σ 91 0).toNat) (σ 89 (82 + s).toNat) h s := fun M => (why_2 (W := wM σ) (gh := gM 0 σ h.toNat) (n := cnt (gM 0 σ) (σ 91 0).toNat) (rs := σ 89 (82 + s).toNat) (h := h) (s := s) ⟨by omega, by omega, by omega, by omega⟩ (by omega)).symm
            exact j_iret (pc := 57) ⟨rfl, rfl⟩ dX12_whyNot_57 rfl ⟨_, rfl, ⟨by omega, by omega⟩, rfl, by omega, fin⟩
    · refine j_iconst (pc := 20) dX12_whyNot_20 ?_
      have fin : mI σ → (-1) = whyS (wM σ) (gM 0 σ h.toNat) (cnt (gM 0 σ) (σ 91 0).toNat) (σ 89 (82 + s).toNat) h s := fun M => (why_1 (W := wM σ) (gh := gM 0 σ h.toNat) (n := cnt (gM 0 σ) (σ 91 0).toNat) (rs := σ 89 (82 + s).toNat) (h := h) (s := s) (by omega)).symm
      exact j_iret (pc := 21) ⟨rfl, rfl⟩ dX12_whyNot_21 rfl ⟨_, rfl, ⟨by omega, by omega⟩, rfl, by omega, fin⟩
