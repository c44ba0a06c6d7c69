/-! 32ah.model -/
theorem dX12_feetWith_0 : decode cX12_feetWith 0 = .ok (.iconst 0, 1) := by decide +kernel
theorem dX12_feetWith_1 : decode cX12_feetWith 1 = .ok (.istore_n 2, 1) := by decide +kernel
theorem dX12_feetWith_2 : decode cX12_feetWith 2 = .ok (.iconst 1, 1) := by decide +kernel
theorem dX12_feetWith_3 : decode cX12_feetWith 3 = .ok (.istore_n 3, 1) := by decide +kernel
theorem dX12_feetWith_4 : decode cX12_feetWith 4 = .ok (.iload_n 3, 1) := by decide +kernel
theorem dX12_feetWith_5 : decode cX12_feetWith 5 = .ok (.aload_n 0, 1) := by decide +kernel
theorem dX12_feetWith_6 : decode cX12_feetWith 6 = .ok (.getfield 17, 3) := by decide +kernel
theorem dX12_feetWith_9 : decode cX12_feetWith 9 = .ok (.iconst 0, 1) := by decide +kernel
theorem dX12_feetWith_10 : decode cX12_feetWith 10 = .ok (.iaload, 1) := by decide +kernel
theorem dX12_feetWith_11 : decode cX12_feetWith 11 = .ok (.if_icmp .gt 29, 3) := by decide +kernel
theorem dX12_feetWith_14 : decode cX12_feetWith 14 = .ok (.iload_n 2, 1) := by decide +kernel
theorem dX12_feetWith_15 : decode cX12_feetWith 15 = .ok (.aload_n 0, 1) := by decide +kernel
theorem dX12_feetWith_16 : decode cX12_feetWith 16 = .ok (.iload_n 3, 1) := by decide +kernel
theorem dX12_feetWith_17 : decode cX12_feetWith 17 = .ok (.iload_n 1, 1) := by decide +kernel
theorem dX12_feetWith_18 : decode cX12_feetWith 18 = .ok (.invokevirtual 184, 3) := by decide +kernel
theorem dX12_feetWith_21 : decode cX12_feetWith 21 = .ok (.ifCond .le 7, 3) := by decide +kernel
theorem dX12_feetWith_24 : decode cX12_feetWith 24 = .ok (.iconst 1, 1) := by decide +kernel
theorem dX12_feetWith_25 : decode cX12_feetWith 25 = .ok (.goto 4, 3) := by decide +kernel
theorem dX12_feetWith_28 : decode cX12_feetWith 28 = .ok (.iconst 0, 1) := by decide +kernel
theorem dX12_feetWith_29 : decode cX12_feetWith 29 = .ok (.invokestatic 168, 3) := by decide +kernel
theorem dX12_feetWith_32 : decode cX12_feetWith 32 = .ok (.iadd, 1) := by decide +kernel
theorem dX12_feetWith_33 : decode cX12_feetWith 33 = .ok (.istore_n 2, 1) := by decide +kernel
theorem dX12_feetWith_34 : decode cX12_feetWith 34 = .ok (.iinc 3 1, 3) := by decide +kernel
theorem dX12_feetWith_37 : decode cX12_feetWith 37 = .ok (.goto (-33), 3) := by decide +kernel
theorem dX12_feetWith_40 : decode cX12_feetWith 40 = .ok (.iload_n 2, 1) := by decide +kernel
theorem dX12_feetWith_41 : decode cX12_feetWith 41 = .ok (.ireturn, 1) := by decide +kernel
abbrev q_X12_feetWith (w : Int) (σ : tw_M) : Option tw_V → tw_M → Prop := fun z τ => ∃ r : Int, z = some (vI r) ∧ (-2147483648 ≤ r ∧ r ≤ 2147483647) ∧ σ = τ ∧ True
set_option maxHeartbeats 4000000 in
set_option maxRecDepth 100000 in
theorem l_X12_feetWith {G : tw_G} (hM : tw_isM G) (w : Int) (hw : 0 ≤ w ∧ w ≤ 4) (σ : tw_M) (hI : tw_I σ) : ∀ N_ : Nat, (∀ (n : Int) (hn : 0 ≤ n ∧ n ≤ 40) (h : Int) (hh : 1 ≤ h ∧ h ≤ 41) (i0 : n < h) (hm : (41 - h).toNat < N_), tw_J G (tw_mt RX12 cX12_feetWith 4 (some .int) 1) (tw_E G (q_X12_feetWith w σ)) 4 [(0, vR 88), (1, vI w), (2, vI n), (3, vI h)] [] σ) := by
  intro N_
  induction N_ with
  | zero => exact fun n hn h hh i0 hm => absurd hm (Nat.not_lt_zero _)
  | succ N_ ih =>
    intro n hn h hh i0 hm
    refine j_iload_n (pc := 4) dX12_feetWith_4 rfl rfl ?_
    refine j_aload_n (pc := 5) dX12_feetWith_5 rfl rfl ?_
    refine j_getR (pc := 6) (r := 91) fl_X12_17 dX12_feetWith_6 (a_88 hM) rfl ?_
    refine j_iconst (pc := 9) dX12_feetWith_9 ?_
    refine j_iald (pc := 10) dX12_feetWith_10 (a_91 hM) (by omega) (by omega) (by decide) ?_
    refine j_topV (show σ 91 (Int.toNat 0) = σ 91 0 from rfl) ?_
    have f1 : (1 : Int) ≤ σ 91 0 ∧ σ 91 0 ≤ 40 := hI 91 0
    refine j_icmpR_gt (pc := 11) (tgt := 40) ⟨by omega, by omega⟩ ⟨by omega, by omega⟩ dX12_feetWith_11 rfl (fun h2 => ?_) (fun h2 => ?_)
    · refine j_iload_n (pc := 40) dX12_feetWith_40 rfl rfl ?_
      exact j_iret (pc := 41) ⟨rfl, rfl⟩ dX12_feetWith_41 rfl ⟨_, rfl, ⟨by omega, by omega⟩, rfl, trivial⟩
    · refine j_iload_n (pc := 14) dX12_feetWith_14 rfl rfl ?_
      refine j_aload_n (pc := 15) dX12_feetWith_15 rfl rfl ?_
      refine j_iload_n (pc := 16) dX12_feetWith_16 rfl rfl ?_
      refine j_iload_n (pc := 17) dX12_feetWith_17 rfl rfl ?_
      refine j_callV (pc := 18) (As := [vI h, vI w]) (st := [vI n]) (c_X12_of hM h ⟨by omega, by omega⟩ w ⟨by omega, by omega⟩ σ hI) mv_X12_184 rfl rfl rfl (a_88 hM) dX12_feetWith_18 ⟨Nat.le_of_ble_eq_true rfl, Nat.le_of_ble_eq_true rfl⟩ ⟨Nat.le_refl _, Nat.le_refl _⟩ rfl (Nat.le_of_ble_eq_true rfl) rfl (fun z3 σ4 hz3 => ?_)
      obtain ⟨r6, rfl, hr6, rfl, q5_0⟩ := hz3
      replace q5_0 : r6 = σ 92 (5 * h + w).toNat := q5_0
      refine j_st (st' := [vI r6, vI n]) rfl ?_
      refine j_ifR_le (pc := 21) (tgt := 28) ⟨by omega, by omega⟩ dX12_feetWith_21 rfl (fun h7 => ?_) (fun h7 => ?_)
      · refine j_iconst (pc := 28) dX12_feetWith_28 ?_
        refine j_callS (pc := 29) (As := [vI 0]) (st := [vI n]) (c_X12_flag 0 (by (first | decide | exact ⟨by omega, by omega⟩)) σ hI) ms_X12_168 rfl dX12_feetWith_29 ⟨Nat.le_of_ble_eq_true rfl, Nat.le_of_ble_eq_true rfl⟩ ⟨Nat.le_refl _, Nat.le_refl _⟩ rfl (Nat.le_of_ble_eq_true rfl) rfl (fun z8 σ9 hz8 => ?_)
        obtain ⟨r11, rfl, hr11, rfl, q10_0⟩ := hz8
        replace q10_0 : r11 = (0 : Int) := q10_0
        refine j_st (st' := [vI r11, vI n]) rfl ?_
        refine j_iadd (pc := 32) dX12_feetWith_32 ?_
        refine j_istore_n (pc := 33) (i := 2) (ls' := [(0, vR 88), (1, vI w), (2, vI (n + r11)), (3, vI h)]) [1, 2, 0, 3] dX12_feetWith_33 rfl (Nat.le_of_ble_eq_true rfl) rfl rfl ?_
        refine j_iinc (pc := 34) (i := 3) (n := 1) (ls' := [(0, vR 88), (1, vI w), (2, vI (n + r11)), (3, vI (h + 1))]) [1, 2, 3, 0] dX12_feetWith_34 rfl (Nat.le_of_ble_eq_true rfl) rfl rfl ?_
        refine j_goto (pc := 37) (tgt := 4) dX12_feetWith_37 rfl ?_
        refine j_ls (ls' := [(0, vR 88), (1, vI w), (2, vI (n + r11)), (3, vI (h + 1))]) [0, 1, 2, 3] rfl ?_
        exact ih (n + r11) ⟨by omega, by omega⟩ (h + 1) ⟨by omega, by omega⟩ (show (n + r11) < (h + 1) from by omega) (show (41 - (h + 1)).toNat < N_ from by omega)
      · refine j_iconst (pc := 24) dX12_feetWith_24 ?_
        refine j_goto (pc := 25) (tgt := 29) dX12_feetWith_25 rfl ?_
        refine j_callS (pc := 29) (As := [vI 1]) (st := [vI n]) (c_X12_flag 1 (by (first | decide | exact ⟨by omega, by omega⟩)) σ hI) ms_X12_168 rfl dX12_feetWith_29 ⟨Nat.le_of_ble_eq_true rfl, Nat.le_of_ble_eq_true rfl⟩ ⟨Nat.le_refl _, Nat.le_refl _⟩ rfl (Nat.le_of_ble_eq_true rfl) rfl (fun z12 σ13 hz12 => ?_)
        obtain ⟨r15, rfl, hr15, rfl, q14_0⟩ := hz12
        replace q14_0 : r15 = (1 : Int) := q14_0
        refine j_st (st' := [vI r15, vI n]) rfl ?_
        refine j_iadd (pc := 32) dX12_feetWith_32 ?_
        refine j_istore_n (pc := 33) (i := 2) (ls' := [(0, vR 88), (1, vI w), (2, vI (n + r15)), (3, vI h)]) [1, 2, 0, 3] dX12_feetWith_33 rfl (Nat.le_of_ble_eq_true rfl) rfl rfl ?_
        refine j_iinc (pc := 34) (i := 3) (n := 1) (ls' := [(0, vR 88), (1, vI w), (2, vI (n + r15)), (3, vI (h + 1))]) [1, 2, 3, 0] dX12_feetWith_34 rfl (Nat.le_of_ble_eq_true rfl) rfl rfl ?_
        refine j_goto (pc := 37) (tgt := 4) dX12_feetWith_37 rfl ?_
        refine j_ls (ls' := [(0, vR 88), (1, vI w), (2, vI (n + r15)), (3, vI (h + 1))]) [0, 1, 2, 3] rfl ?_
        exact ih (n + r15) ⟨by omega, by omega⟩ (h + 1) ⟨by omega, by omega⟩ (show (n + r15) < (h + 1) from by omega) (show (41 - (h + 1)).toNat < N_ from by omega)
set_option maxHeartbeats 4000000 in
set_option maxRecDepth 100000 in
theorem c_X12_feetWith {G : tw_G} (hM : tw_isM G) (w : Int) (hw : 0 ≤ w ∧ w ≤ 4) (σ : tw_M) (hI : tw_I σ) : tw_C G yX12_feetWith cX12_feetWith 4 (some .int) 1 [vR 88, vI w] σ (q_X12_feetWith w σ) := by
  refine tw_met [(0, vR 88), (1, vI w)] (by decide +kernel) rfl (Nat.le_of_ble_eq_true rfl) ?_
  refine j_iconst (pc := 0) dX12_feetWith_0 ?_
  refine j_istore_n (pc := 1) (i := 2) (ls' := [(0, vR 88), (1, vI w), (2, vI 0)]) [1, 2, 0] dX12_feetWith_1 rfl (Nat.le_of_ble_eq_true rfl) rfl rfl ?_
  refine j_iconst (pc := 2) dX12_feetWith_2 ?_
  refine j_istore_n (pc := 3) (i := 3) (ls' := [(0, vR 88), (1, vI w), (2, vI 0), (3, vI 1)]) [1, 2, 3, 0] dX12_feetWith_3 rfl (Nat.le_of_ble_eq_true rfl) rfl rfl ?_
  refine j_ls (ls' := [(0, vR 88), (1, vI w), (2, vI 0), (3, vI 1)]) [0, 1, 2, 3] rfl ?_
  exact (l_X12_feetWith hM w hw σ hI (((41 - (1 : Int)).toNat) + 1)) 0 (by (first | decide | exact ⟨by omega, by omega⟩)) 1 (by (first | decide | exact ⟨by omega, by omega⟩)) (show (0 : Int) < (1 : Int) from by omega) (Nat.lt_succ_self _)
