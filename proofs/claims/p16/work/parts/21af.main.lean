/-! 21af.main -/
theorem dX11_slings_0 : decode cX11_slings 0 = .ok (.iload_n 1, 1) := by decide +kernel
theorem dX11_slings_1 : decode cX11_slings 1 = .ok (.ifCond .lt 16, 3) := by decide +kernel
theorem dX11_slings_4 : decode cX11_slings 4 = .ok (.iload_n 1, 1) := by decide +kernel
theorem dX11_slings_5 : decode cX11_slings 5 = .ok (.bipush 10, 2) := by decide +kernel
theorem dX11_slings_7 : decode cX11_slings 7 = .ok (.if_icmp .gt 10, 3) := by decide +kernel
theorem dX11_slings_10 : decode cX11_slings 10 = .ok (.iload_n 2, 1) := by decide +kernel
theorem dX11_slings_11 : decode cX11_slings 11 = .ok (.invokestatic 242, 3) := by decide +kernel
theorem dX11_slings_14 : decode cX11_slings 14 = .ok (.ifCond .ne 5, 3) := by decide +kernel
theorem dX11_slings_17 : decode cX11_slings 17 = .ok (.iconst (-1), 1) := by decide +kernel
theorem dX11_slings_18 : decode cX11_slings 18 = .ok (.ireturn, 1) := by decide +kernel
theorem dX11_slings_19 : decode cX11_slings 19 = .ok (.aload_n 0, 1) := by decide +kernel
theorem dX11_slings_20 : decode cX11_slings 20 = .ok (.getfield 26, 3) := by decide +kernel
theorem dX11_slings_23 : decode cX11_slings 23 = .ok (.getfield 168, 3) := by decide +kernel
theorem dX11_slings_26 : decode cX11_slings 26 = .ok (.aload_n 0, 1) := by decide +kernel
theorem dX11_slings_27 : decode cX11_slings 27 = .ok (.getfield 10, 3) := by decide +kernel
theorem dX11_slings_30 : decode cX11_slings 30 = .ok (.iload_n 1, 1) := by decide +kernel
theorem dX11_slings_31 : decode cX11_slings 31 = .ok (.invokevirtual 330, 3) := by decide +kernel
theorem dX11_slings_34 : decode cX11_slings 34 = .ok (.istore_n 3, 1) := by decide +kernel
theorem dX11_slings_35 : decode cX11_slings 35 = .ok (.iload_n 2, 1) := by decide +kernel
theorem dX11_slings_36 : decode cX11_slings 36 = .ok (.ifCond .ne 21, 3) := by decide +kernel
theorem dX11_slings_39 : decode cX11_slings 39 = .ok (.aload_n 0, 1) := by decide +kernel
theorem dX11_slings_40 : decode cX11_slings 40 = .ok (.getfield 26, 3) := by decide +kernel
theorem dX11_slings_43 : decode cX11_slings 43 = .ok (.getfield 168, 3) := by decide +kernel
theorem dX11_slings_46 : decode cX11_slings 46 = .ok (.aload_n 0, 1) := by decide +kernel
theorem dX11_slings_47 : decode cX11_slings 47 = .ok (.getfield 10, 3) := by decide +kernel
theorem dX11_slings_50 : decode cX11_slings 50 = .ok (.iload_n 3, 1) := by decide +kernel
theorem dX11_slings_51 : decode cX11_slings 51 = .ok (.invokevirtual 333, 3) := by decide +kernel
theorem dX11_slings_54 : decode cX11_slings 54 = .ok (.goto 4, 3) := by decide +kernel
theorem dX11_slings_57 : decode cX11_slings 57 = .ok (.iload_n 3, 1) := by decide +kernel
theorem dX11_slings_58 : decode cX11_slings 58 = .ok (.ireturn, 1) := by decide +kernel
abbrev q_X11_slings (n : Int) (w : Int) (σ : tw_M) : Option tw_V → tw_M → Prop := fun z τ => ∃ r : Int, z = some (vI r) ∧ (-2147483648 ≤ r ∧ r ≤ 2147483647) ∧ σ = τ ∧ True
set_option maxHeartbeats 4000000 in
set_option maxRecDepth 100000 in
theorem c_X11_slings {G : tw_G} (hX : tw_isX G) (n : Int) (hn : -2147483648 ≤ n ∧ n ≤ 2147483647) (w : Int) (hw : -2147483648 ≤ w ∧ w ≤ 2147483647) (σ : tw_M) (hI : tw_I σ) : tw_C G yX11_slings cX11_slings 4 (some .int) 4 [vR 0, vI n, vI w] σ (q_X11_slings n w σ) := by
  refine tw_met [(0, vR 0), (1, vI n), (2, vI w)] (by decide +kernel) rfl (Nat.le_of_ble_eq_true rfl) ?_
  refine j_iload_n (pc := 0) dX11_slings_0 rfl rfl ?_
  refine j_ifR_lt (pc := 1) (tgt := 17) ⟨by omega, by omega⟩ dX11_slings_1 rfl (fun h1 => ?_) (fun h1 => ?_)
  · refine j_iconst (pc := 17) dX11_slings_17 ?_
    exact j_iret (pc := 18) ⟨rfl, rfl⟩ dX11_slings_18 rfl ⟨_, rfl, ⟨by omega, by omega⟩, rfl, trivial⟩
  · refine j_iload_n (pc := 4) dX11_slings_4 rfl rfl ?_
    refine j_bipush (pc := 5) dX11_slings_5 rfl ?_
    refine j_icmpR_gt (pc := 7) (tgt := 17) ⟨by omega, by omega⟩ ⟨by omega, by omega⟩ dX11_slings_7 rfl (fun h2 => ?_) (fun h2 => ?_)
    · refine j_iconst (pc := 17) dX11_slings_17 ?_
      exact j_iret (pc := 18) ⟨rfl, rfl⟩ dX11_slings_18 rfl ⟨_, rfl, ⟨by omega, by omega⟩, rfl, trivial⟩
    · refine j_iload_n (pc := 10) dX11_slings_10 rfl rfl ?_
      refine j_callS (pc := 11) (As := [vI w]) (st := []) (c_X11_isPart w ⟨by omega, by omega⟩ σ hI) ms_X11_242 rfl dX11_slings_11 ⟨Nat.le_of_ble_eq_true rfl, Nat.le_of_ble_eq_true rfl⟩ ⟨Nat.le_refl _, Nat.le_refl _⟩ rfl (Nat.le_of_ble_eq_true rfl) rfl (fun z3 σ4 hz3 => ?_)
      obtain ⟨r6, rfl, hr6, rfl, q5_0⟩ := hz3
      replace q5_0 : (r6 = 1 ∧ (w = 0 ∨ w = 1)) ∨ (r6 = 0 ∧ ¬ w = 0 ∧ ¬ w = 1) := q5_0
      refine j_st (st' := [vI r6]) rfl ?_
      refine j_ifR_ne (pc := 14) (tgt := 19) ⟨by omega, by omega⟩ dX11_slings_14 rfl (fun h7 => ?_) (fun h7 => ?_)
      · refine j_aload_n (pc := 19) dX11_slings_19 rfl rfl ?_
        refine j_getR (pc := 20) (r := 23) fl_X11_26 dX11_slings_20 (a_0 hX) rfl ?_
        refine j_getR (pc := 23) (r := 24) fl_X11_168 dX11_slings_23 (a_23 hX) rfl ?_
        refine j_aload_n (pc := 26) dX11_slings_26 rfl rfl ?_
        refine j_getR (pc := 27) (r := 1) fl_X11_10 dX11_slings_27 (a_0 hX) rfl ?_
        refine j_iload_n (pc := 30) dX11_slings_30 rfl rfl ?_
        refine j_callV (pc := 31) (As := [vR 1, vI n]) (st := []) (c_X7_bestSlings 24 (s_Row_24 hX) 1 (s_Wall_1 hX) n ⟨by omega, by omega⟩ σ hI) mv_X11_330 rfl rfl rfl (a_24 hX) dX11_slings_31 ⟨Nat.le_of_ble_eq_true rfl, Nat.le_of_ble_eq_true rfl⟩ ⟨Nat.le_refl _, Nat.le_refl _⟩ rfl (Nat.le_of_ble_eq_true rfl) rfl (fun z8 σ9 hz8 => ?_)
        obtain ⟨r11, rfl, hr11, rfl, -⟩ := hz8
        refine j_st (st' := [vI r11]) rfl ?_
        refine j_istore_n (pc := 34) (i := 3) (ls' := [(0, vR 0), (2, vI w), (3, vI r11)]) [1, 3, 0] dX11_slings_34 rfl (Nat.le_of_ble_eq_true rfl) rfl rfl ?_
        refine j_iload_n (pc := 35) dX11_slings_35 rfl rfl ?_
        refine j_ifR_ne (pc := 36) (tgt := 57) ⟨by omega, by omega⟩ dX11_slings_36 rfl (fun h12 => ?_) (fun h12 => ?_)
        · refine j_iload_n (pc := 57) dX11_slings_57 rfl rfl ?_
          exact j_iret (pc := 58) ⟨rfl, rfl⟩ dX11_slings_58 rfl ⟨_, rfl, ⟨by omega, by omega⟩, rfl, trivial⟩
        · refine j_aload_n (pc := 39) dX11_slings_39 rfl rfl ?_
          refine j_getR (pc := 40) (r := 23) fl_X11_26 dX11_slings_40 (a_0 hX) rfl ?_
          refine j_getR (pc := 43) (r := 24) fl_X11_168 dX11_slings_43 (a_23 hX) rfl ?_
          refine j_aload_n (pc := 46) dX11_slings_46 rfl rfl ?_
          refine j_getR (pc := 47) (r := 1) fl_X11_10 dX11_slings_47 (a_0 hX) rfl ?_
          refine j_iload_n (pc := 50) dX11_slings_50 rfl rfl ?_
          refine j_callV (pc := 51) (As := [vR 1, vI r11]) (st := []) (c_X7_dragWith 24 (s_Row_24 hX) 1 (s_Wall_1 hX) r11 ⟨by omega, by omega⟩ σ hI) mv_X11_333 rfl rfl rfl (a_24 hX) dX11_slings_51 ⟨Nat.le_of_ble_eq_true rfl, Nat.le_of_ble_eq_true rfl⟩ ⟨Nat.le_refl _, Nat.le_refl _⟩ rfl (Nat.le_of_ble_eq_true rfl) rfl (fun z13 σ14 hz13 => ?_)
          obtain ⟨r16, rfl, hr16, rfl, -⟩ := hz13
          refine j_st (st' := [vI r16]) rfl ?_
          refine j_goto (pc := 54) (tgt := 58) dX11_slings_54 rfl ?_
          exact j_iret (pc := 58) ⟨rfl, rfl⟩ dX11_slings_58 rfl ⟨_, rfl, ⟨by omega, by omega⟩, rfl, trivial⟩
      · refine j_iconst (pc := 17) dX11_slings_17 ?_
        exact j_iret (pc := 18) ⟨rfl, rfl⟩ dX11_slings_18 rfl ⟨_, rfl, ⟨by omega, by omega⟩, rfl, trivial⟩
