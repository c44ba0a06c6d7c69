/-! 21ac.main -/
theorem dX11_best_0 : decode cX11_best 0 = .ok (.iload_n 1, 1) := by decide +kernel
theorem dX11_best_1 : decode cX11_best 1 = .ok (.ifCond .lt 8, 3) := by decide +kernel
theorem dX11_best_4 : decode cX11_best 4 = .ok (.iload_n 1, 1) := by decide +kernel
theorem dX11_best_5 : decode cX11_best 5 = .ok (.iconst 2, 1) := by decide +kernel
theorem dX11_best_6 : decode cX11_best 6 = .ok (.if_icmp .le 5, 3) := by decide +kernel
theorem dX11_best_9 : decode cX11_best 9 = .ok (.iconst (-1), 1) := by decide +kernel
theorem dX11_best_10 : decode cX11_best 10 = .ok (.ireturn, 1) := by decide +kernel
theorem dX11_best_11 : decode cX11_best 11 = .ok (.aload_n 0, 1) := by decide +kernel
theorem dX11_best_12 : decode cX11_best 12 = .ok (.getfield 67, 3) := by decide +kernel
theorem dX11_best_15 : decode cX11_best 15 = .ok (.invokevirtual 311, 3) := by decide +kernel
theorem dX11_best_18 : decode cX11_best 18 = .ok (.aload_n 0, 1) := by decide +kernel
theorem dX11_best_19 : decode cX11_best 19 = .ok (.getfield 67, 3) := by decide +kernel
theorem dX11_best_22 : decode cX11_best 22 = .ok (.getfield 284, 3) := by decide +kernel
theorem dX11_best_25 : decode cX11_best 25 = .ok (.ifCond .eq 13, 3) := by decide +kernel
theorem dX11_best_28 : decode cX11_best 28 = .ok (.aload_n 0, 1) := by decide +kernel
theorem dX11_best_29 : decode cX11_best 29 = .ok (.getfield 67, 3) := by decide +kernel
theorem dX11_best_32 : decode cX11_best 32 = .ok (.getfield 314, 3) := by decide +kernel
theorem dX11_best_35 : decode cX11_best 35 = .ok (.ifCond .ne 6, 3) := by decide +kernel
theorem dX11_best_38 : decode cX11_best 38 = .ok (.bipush (-4), 2) := by decide +kernel
theorem dX11_best_40 : decode cX11_best 40 = .ok (.ireturn, 1) := by decide +kernel
theorem dX11_best_41 : decode cX11_best 41 = .ok (.iload_n 1, 1) := by decide +kernel
theorem dX11_best_42 : decode cX11_best 42 = .ok (.ifCond .ne 11, 3) := by decide +kernel
theorem dX11_best_45 : decode cX11_best 45 = .ok (.aload_n 0, 1) := by decide +kernel
theorem dX11_best_46 : decode cX11_best 46 = .ok (.getfield 67, 3) := by decide +kernel
theorem dX11_best_49 : decode cX11_best 49 = .ok (.getfield 314, 3) := by decide +kernel
theorem dX11_best_52 : decode cX11_best 52 = .ok (.ireturn, 1) := by decide +kernel
theorem dX11_best_53 : decode cX11_best 53 = .ok (.iload_n 1, 1) := by decide +kernel
theorem dX11_best_54 : decode cX11_best 54 = .ok (.iconst 1, 1) := by decide +kernel
theorem dX11_best_55 : decode cX11_best 55 = .ok (.if_icmp .ne 13, 3) := by decide +kernel
theorem dX11_best_58 : decode cX11_best 58 = .ok (.aload_n 0, 1) := by decide +kernel
theorem dX11_best_59 : decode cX11_best 59 = .ok (.getfield 67, 3) := by decide +kernel
theorem dX11_best_62 : decode cX11_best 62 = .ok (.getfield 317, 3) := by decide +kernel
theorem dX11_best_65 : decode cX11_best 65 = .ok (.goto 18, 3) := by decide +kernel
theorem dX11_best_68 : decode cX11_best 68 = .ok (.aload_n 0, 1) := by decide +kernel
theorem dX11_best_69 : decode cX11_best 69 = .ok (.getfield 67, 3) := by decide +kernel
theorem dX11_best_72 : decode cX11_best 72 = .ok (.getfield 317, 3) := by decide +kernel
theorem dX11_best_75 : decode cX11_best 75 = .ok (.aload_n 0, 1) := by decide +kernel
theorem dX11_best_76 : decode cX11_best 76 = .ok (.getfield 67, 3) := by decide +kernel
theorem dX11_best_79 : decode cX11_best 79 = .ok (.getfield 294, 3) := by decide +kernel
theorem dX11_best_82 : decode cX11_best 82 = .ok (.isub, 1) := by decide +kernel
theorem dX11_best_83 : decode cX11_best 83 = .ok (.ireturn, 1) := by decide +kernel
abbrev q_X11_best (w : Int) (σ : tw_M) : Option tw_V → tw_M → Prop := fun z τ => ∃ r : Int, z = some (vI r) ∧ (-2147483648 ≤ r ∧ r ≤ 2147483647) ∧ tw_I τ ∧ tw_F (fun c j => (56 ≤ c ∧ c < 58) ∨ (c = 60 ∧ (j = 5 ∨ j = 6 ∨ j = 7 ∨ j = 8 ∨ j = 10 ∨ j = 11 ∨ j = 12 ∨ j = 13)) ∨ (61 ≤ c ∧ c < 71)) σ τ ∧ (∀ rk : Nat → Int, WOK (wW 1 σ) → (∀ s : Int, 1 ≤ s → s ≤ 10 → σ 3 s.toNat = rk s.toNat) → (¬ σ 60 6 = 0 → PLN (wW 1 σ) rk σ) → ¬ τ 60 6 = 0 → PLN (wW 1 σ) rk τ)
set_option maxHeartbeats 4000000 in
set_option maxRecDepth 100000 in
theorem c_X11_best {G : tw_G} (hX : tw_isX G) (w : Int) (hw : -2147483648 ≤ w ∧ w ≤ 2147483647) (σ : tw_M) (hI : tw_I σ) : tw_C G yX11_best cX11_best 2 (some .int) 46 [vR 0, vI w] σ (q_X11_best w σ) := by
  refine tw_met [(0, vR 0), (1, vI w)] (by decide +kernel) rfl (Nat.le_of_ble_eq_true rfl) ?_
  refine j_iload_n (pc := 0) dX11_best_0 rfl rfl ?_
  refine j_ifR_lt (pc := 1) (tgt := 9) ⟨by omega, by omega⟩ dX11_best_1 rfl (fun h1 => ?_) (fun h1 => ?_)
  · refine j_iconst (pc := 9) dX11_best_9 ?_
    exact j_iret (pc := 10) ⟨rfl, rfl⟩ dX11_best_10 rfl ⟨_, rfl, ⟨by omega, by omega⟩, hI, (tw_F_rf), (fun rk a b c d => by first | exact c d | exact pA rk a b c d)⟩
  · refine j_iload_n (pc := 4) dX11_best_4 rfl rfl ?_
    refine j_iconst (pc := 5) dX11_best_5 ?_
    refine j_icmpR_le (pc := 6) (tgt := 11) ⟨by omega, by omega⟩ ⟨by omega, by omega⟩ dX11_best_6 rfl (fun h2 => ?_) (fun h2 => ?_)
    · refine j_aload_n (pc := 11) dX11_best_11 rfl rfl ?_
      refine j_getR (pc := 12) (r := 60) fl_X11_67 dX11_best_12 (a_0 hX) rfl ?_
      refine j_callV (pc := 15) (As := []) (st := []) (c_X5_findBest hX σ hI) mv_X11_311 rfl rfl rfl (a_60 hX) dX11_best_15 ⟨Nat.le_of_ble_eq_true rfl, Nat.le_of_ble_eq_true rfl⟩ ⟨Nat.le_refl _, Nat.le_refl _⟩ rfl (Nat.le_of_ble_eq_true rfl) rfl (fun z3 σ4 hz3 => ?_)
      obtain ⟨rfl, hIσ4, hGσ4, q5_0⟩ := hz3
      replace q5_0 : ∀ rk : Nat → Int, WOK (wW 1 σ) → (∀ s : Int, 1 ≤ s → s ≤ 10 → σ 3 s.toNat = rk s.toNat) → (¬ σ 60 6 = 0 → PLN (wW 1 σ) rk σ) → ¬ σ4 60 6 = 0 → PLN (wW 1 σ) rk σ4 := q5_0
      have hFσ4 : tw_F (fun c j => (56 ≤ c ∧ c < 58) ∨ (c = 60 ∧ (j = 5 ∨ j = 6 ∨ j = 7 ∨ j = 8 ∨ j = 10 ∨ j = 11 ∨ j = 12 ∨ j = 13)) ∨ (61 ≤ c ∧ c < 71)) σ σ4 := tw_F_tr (tw_F_rf) hGσ4 (fun c j q => (show (56 ≤ c ∧ c < 58) ∨ (c = 60 ∧ (j = 5 ∨ j = 6 ∨ j = 7 ∨ j = 8 ∨ j = 10 ∨ j = 11 ∨ j = 12 ∨ j = 13)) ∨ (61 ≤ c ∧ c < 71) from by replace q : (56 ≤ c ∧ c < 58) ∨ (c = 60 ∧ (j = 5 ∨ j = 6 ∨ j = 7 ∨ j = 8 ∨ j = 10 ∨ j = 11 ∨ j = 12 ∨ j = 13)) ∨ (61 ≤ c ∧ c < 71) := q; exact q))
      refine j_st (st' := []) rfl ?_
      have pA := q5_0
      refine j_aload_n (pc := 18) dX11_best_18 rfl rfl ?_
      refine j_getR (pc := 19) (r := 60) fl_X11_67 dX11_best_19 (a_0 hX) rfl ?_
      refine j_getI (pc := 22) fl_X11_284 dX11_best_22 (a_60 hX) rfl ?_
      have f7 : (0 : Int) ≤ σ4 60 10 ∧ σ4 60 10 ≤ 1 := hIσ4 60 10
      refine j_ifR_eq (pc := 25) (tgt := 38) ⟨by omega, by omega⟩ dX11_best_25 rfl (fun h8 => ?_) (fun h8 => ?_)
      · refine j_bipush (pc := 38) dX11_best_38 rfl ?_
        exact j_iret (pc := 40) ⟨rfl, rfl⟩ dX11_best_40 rfl ⟨_, rfl, ⟨by omega, by omega⟩, hIσ4, hFσ4, (fun rk a b c d => by first | exact c d | exact pA rk a b c d)⟩
      · refine j_aload_n (pc := 28) dX11_best_28 rfl rfl ?_
        refine j_getR (pc := 29) (r := 60) fl_X11_67 dX11_best_29 (a_0 hX) rfl ?_
        refine j_getI (pc := 32) fl_X11_314 dX11_best_32 (a_60 hX) rfl ?_
        have f9 : (0 : Int) ≤ σ4 60 12 ∧ σ4 60 12 ≤ 40 := hIσ4 60 12
        refine j_ifR_ne (pc := 35) (tgt := 41) ⟨by omega, by omega⟩ dX11_best_35 rfl (fun h10 => ?_) (fun h10 => ?_)
        · refine j_iload_n (pc := 41) dX11_best_41 rfl rfl ?_
          refine j_ifR_ne (pc := 42) (tgt := 53) ⟨by omega, by omega⟩ dX11_best_42 rfl (fun h11 => ?_) (fun h11 => ?_)
          · refine j_iload_n (pc := 53) dX11_best_53 rfl rfl ?_
            refine j_iconst (pc := 54) dX11_best_54 ?_
            refine j_icmpR_ne (pc := 55) (tgt := 68) ⟨by omega, by omega⟩ ⟨by omega, by omega⟩ dX11_best_55 rfl (fun h12 => ?_) (fun h12 => ?_)
            · refine j_aload_n (pc := 68) dX11_best_68 rfl rfl ?_
              refine j_getR (pc := 69) (r := 60) fl_X11_67 dX11_best_69 (a_0 hX) rfl ?_
              refine j_getI (pc := 72) fl_X11_317 dX11_best_72 (a_60 hX) rfl ?_
              have f13 : (-2147483648 : Int) ≤ σ4 60 13 ∧ σ4 60 13 ≤ 2147483647 := hIσ4 60 13
              refine j_aload_n (pc := 75) dX11_best_75 rfl rfl ?_
              refine j_getR (pc := 76) (r := 60) fl_X11_67 dX11_best_76 (a_0 hX) rfl ?_
              refine j_getI (pc := 79) fl_X11_294 dX11_best_79 (a_60 hX) rfl ?_
              have f14 : (-2147483648 : Int) ≤ σ4 60 11 ∧ σ4 60 11 ≤ 2147483647 := hIσ4 60 11
              refine j_isub (pc := 82) dX11_best_82 ?_
              refine j_top (fun z15 ez15 hz15 => ?_)
              exact j_iret (pc := 83) ⟨rfl, rfl⟩ dX11_best_83 rfl ⟨_, rfl, ⟨by omega, by omega⟩, hIσ4, hFσ4, (fun rk a b c d => by first | exact c d | exact pA rk a b c d)⟩
            · refine j_aload_n (pc := 58) dX11_best_58 rfl rfl ?_
              refine j_getR (pc := 59) (r := 60) fl_X11_67 dX11_best_59 (a_0 hX) rfl ?_
              refine j_getI (pc := 62) fl_X11_317 dX11_best_62 (a_60 hX) rfl ?_
              have f16 : (-2147483648 : Int) ≤ σ4 60 13 ∧ σ4 60 13 ≤ 2147483647 := hIσ4 60 13
              refine j_goto (pc := 65) (tgt := 83) dX11_best_65 rfl ?_
              exact j_iret (pc := 83) ⟨rfl, rfl⟩ dX11_best_83 rfl ⟨_, rfl, ⟨by omega, by omega⟩, hIσ4, hFσ4, (fun rk a b c d => by first | exact c d | exact pA rk a b c d)⟩
          · refine j_aload_n (pc := 45) dX11_best_45 rfl rfl ?_
            refine j_getR (pc := 46) (r := 60) fl_X11_67 dX11_best_46 (a_0 hX) rfl ?_
            refine j_getI (pc := 49) fl_X11_314 dX11_best_49 (a_60 hX) rfl ?_
            exact j_iret (pc := 52) ⟨rfl, rfl⟩ dX11_best_52 rfl ⟨_, rfl, ⟨by omega, by omega⟩, hIσ4, hFσ4, (fun rk a b c d => by first | exact c d | exact pA rk a b c d)⟩
        · refine j_bipush (pc := 38) dX11_best_38 rfl ?_
          exact j_iret (pc := 40) ⟨rfl, rfl⟩ dX11_best_40 rfl ⟨_, rfl, ⟨by omega, by omega⟩, hIσ4, hFσ4, (fun rk a b c d => by first | exact c d | exact pA rk a b c d)⟩
    · refine j_iconst (pc := 9) dX11_best_9 ?_
      exact j_iret (pc := 10) ⟨rfl, rfl⟩ dX11_best_10 rfl ⟨_, rfl, ⟨by omega, by omega⟩, hI, (tw_F_rf), (fun rk a b c d => by first | exact c d | exact pA rk a b c d)⟩
