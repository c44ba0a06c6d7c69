/-! 21aq.main -/
theorem dX11_back_0 : decode cX11_back 0 = .ok (.iload_n 1, 1) := by decide +kernel
theorem dX11_back_1 : decode cX11_back 1 = .ok (.invokestatic 242, 3) := by decide +kernel
theorem dX11_back_4 : decode cX11_back 4 = .ok (.ifCond .ne 5, 3) := by decide +kernel
theorem dX11_back_7 : decode cX11_back 7 = .ok (.iconst (-1), 1) := by decide +kernel
theorem dX11_back_8 : decode cX11_back 8 = .ok (.ireturn, 1) := by decide +kernel
theorem dX11_back_9 : decode cX11_back 9 = .ok (.iload_n 1, 1) := by decide +kernel
theorem dX11_back_10 : decode cX11_back 10 = .ok (.ifCond .ne 10, 3) := by decide +kernel
theorem dX11_back_13 : decode cX11_back 13 = .ok (.aload_n 0, 1) := by decide +kernel
theorem dX11_back_14 : decode cX11_back 14 = .ok (.getfield 30, 3) := by decide +kernel
theorem dX11_back_17 : decode cX11_back 17 = .ok (.goto 7, 3) := by decide +kernel
theorem dX11_back_20 : decode cX11_back 20 = .ok (.aload_n 0, 1) := by decide +kernel
theorem dX11_back_21 : decode cX11_back 21 = .ok (.getfield 33, 3) := by decide +kernel
theorem dX11_back_24 : decode cX11_back 24 = .ok (.astore_n 2, 1) := by decide +kernel
theorem dX11_back_25 : decode cX11_back 25 = .ok (.aload_n 2, 1) := by decide +kernel
theorem dX11_back_26 : decode cX11_back 26 = .ok (.getfield 124, 3) := by decide +kernel
theorem dX11_back_29 : decode cX11_back 29 = .ok (.ifCond .ne 6, 3) := by decide +kernel
theorem dX11_back_32 : decode cX11_back 32 = .ok (.bipush (-2), 2) := by decide +kernel
theorem dX11_back_34 : decode cX11_back 34 = .ok (.ireturn, 1) := by decide +kernel
theorem dX11_back_35 : decode cX11_back 35 = .ok (.aload_n 0, 1) := by decide +kernel
theorem dX11_back_36 : decode cX11_back 36 = .ok (.getfield 26, 3) := by decide +kernel
theorem dX11_back_39 : decode cX11_back 39 = .ok (.aload_n 2, 1) := by decide +kernel
theorem dX11_back_40 : decode cX11_back 40 = .ok (.invokevirtual 398, 3) := by decide +kernel
theorem dX11_back_43 : decode cX11_back 43 = .ok (.aload_n 0, 1) := by decide +kernel
theorem dX11_back_44 : decode cX11_back 44 = .ok (.getfield 26, 3) := by decide +kernel
theorem dX11_back_47 : decode cX11_back 47 = .ok (.getfield 168, 3) := by decide +kernel
theorem dX11_back_50 : decode cX11_back 50 = .ok (.getfield 187, 3) := by decide +kernel
theorem dX11_back_53 : decode cX11_back 53 = .ok (.ireturn, 1) := by decide +kernel
abbrev q_X11_back (i : Int) (σ : tw_M) : Option tw_V → tw_M → Prop := fun z τ => ∃ r : Int, z = some (vI r) ∧ (-2147483648 ≤ r ∧ r ≤ 2147483647) ∧ tw_I τ ∧ tw_F (fun c j => (23 ≤ c ∧ c < 31)) σ τ ∧ ((τ 29 0 = σ 29 0 ∧ (¬ (i = 0 ∨ i = 1) ∨ (i = 0 ∧ σ 31 6 = 0) ∨ (i = 1 ∧ σ 39 6 = 0))) ∨ (i = 0 ∧ ¬ σ 31 6 = 0 ∧ τ 29 0 = σ 37 0) ∨ (i = 1 ∧ ¬ σ 39 6 = 0 ∧ τ 29 0 = σ 45 0)) ∧ ((τ 30 0 = σ 30 0 ∧ (¬ (i = 0 ∨ i = 1) ∨ (i = 0 ∧ σ 31 6 = 0) ∨ (i = 1 ∧ σ 39 6 = 0))) ∨ (i = 0 ∧ ¬ σ 31 6 = 0 ∧ τ 30 0 = σ 38 0) ∨ (i = 1 ∧ ¬ σ 39 6 = 0 ∧ τ 30 0 = σ 46 0)) ∧ ((τ 29 1 = σ 29 1 ∧ (¬ (i = 0 ∨ i = 1) ∨ (i = 0 ∧ σ 31 6 = 0) ∨ (i = 1 ∧ σ 39 6 = 0))) ∨ (i = 0 ∧ ¬ σ 31 6 = 0 ∧ τ 29 1 = σ 37 1) ∨ (i = 1 ∧ ¬ σ 39 6 = 0 ∧ τ 29 1 = σ 45 1)) ∧ ((τ 30 1 = σ 30 1 ∧ (¬ (i = 0 ∨ i = 1) ∨ (i = 0 ∧ σ 31 6 = 0) ∨ (i = 1 ∧ σ 39 6 = 0))) ∨ (i = 0 ∧ ¬ σ 31 6 = 0 ∧ τ 30 1 = σ 38 1) ∨ (i = 1 ∧ ¬ σ 39 6 = 0 ∧ τ 30 1 = σ 46 1)) ∧ (((r = -1 ∧ ¬ (i = 0 ∨ i = 1) ∧ ∀ c j, τ c j = σ c j) ∨ (r = -2 ∧ ((i = 0 ∧ σ 31 6 = 0) ∨ (i = 1 ∧ σ 39 6 = 0)) ∧ ∀ c j, τ c j = σ c j) ∨ (i = 0 ∧ ¬ σ 31 6 = 0 ∧ CPY 23 31 σ τ ∧ r = τ 24 0) ∨ (i = 1 ∧ ¬ σ 39 6 = 0 ∧ CPY 23 39 σ τ ∧ r = τ 24 0)))
set_option maxHeartbeats 4000000 in
set_option maxRecDepth 100000 in
theorem c_X11_back {G : tw_G} (hX : tw_isX G) (i : Int) (hi : -2147483648 ≤ i ∧ i ≤ 2147483647) (σ : tw_M) (hI : tw_I σ) : tw_C G yX11_back cX11_back 3 (some .int) 2 [vR 0, vI i] σ (q_X11_back i σ) := by
  refine tw_met [(0, vR 0), (1, vI i)] (by decide +kernel) rfl (Nat.le_of_ble_eq_true rfl) ?_
  refine j_iload_n (pc := 0) dX11_back_0 rfl rfl ?_
  refine j_callS (pc := 1) (As := [vI i]) (st := []) (c_X11_isPart i ⟨by omega, by omega⟩ σ hI) ms_X11_242 rfl dX11_back_1 ⟨Nat.le_of_ble_eq_true rfl, Nat.le_of_ble_eq_true rfl⟩ ⟨Nat.le_refl _, Nat.le_refl _⟩ rfl (Nat.le_of_ble_eq_true rfl) rfl (fun z1 σ2 hz1 => ?_)
  obtain ⟨r4, rfl, hr4, rfl, q3_0⟩ := hz1
  replace q3_0 : (r4 = 1 ∧ (i = 0 ∨ i = 1)) ∨ (r4 = 0 ∧ ¬ i = 0 ∧ ¬ i = 1) := q3_0
  refine j_st (st' := [vI r4]) rfl ?_
  refine j_ifR_ne (pc := 4) (tgt := 9) ⟨by omega, by omega⟩ dX11_back_4 rfl (fun h5 => ?_) (fun h5 => ?_)
  · refine j_iload_n (pc := 9) dX11_back_9 rfl rfl ?_
    refine j_ifR_ne (pc := 10) (tgt := 20) ⟨by omega, by omega⟩ dX11_back_10 rfl (fun h6 => ?_) (fun h6 => ?_)
    · refine j_aload_n (pc := 20) dX11_back_20 rfl rfl ?_
      refine j_getR (pc := 21) (r := 39) fl_X11_33 dX11_back_21 (a_0 hX) rfl ?_
      refine j_astore_n (pc := 24) (i := 2) (ls' := [(0, vR 0), (2, vR 39)]) [1, 0] dX11_back_24 rfl (Nat.le_of_ble_eq_true rfl) rfl rfl ?_
      refine j_aload_n (pc := 25) dX11_back_25 rfl rfl ?_
      refine j_getI (pc := 26) fl_X11_124 dX11_back_26 (a_39 hX) rfl ?_
      have f7 : (0 : Int) ≤ σ 39 6 ∧ σ 39 6 ≤ 1 := hI 39 6
      refine j_ifR_ne (pc := 29) (tgt := 35) ⟨by omega, by omega⟩ dX11_back_29 rfl (fun h8 => ?_) (fun h8 => ?_)
      · refine j_aload_n (pc := 35) dX11_back_35 rfl rfl ?_
        refine j_getR (pc := 36) (r := 23) fl_X11_26 dX11_back_36 (a_0 hX) rfl ?_
        refine j_aload_n (pc := 39) dX11_back_39 rfl rfl ?_
        refine j_callV (pc := 40) (As := [vR 39]) (st := []) (c_X3_copyOf 23 (s_Hand_23 hX) 39 (s_Hand_39 hX) σ hI (by omega)) mv_X11_398 rfl rfl rfl (a_23 hX) dX11_back_40 ⟨Nat.le_of_ble_eq_true rfl, Nat.le_of_ble_eq_true rfl⟩ ⟨Nat.le_refl _, Nat.le_refl _⟩ rfl (Nat.le_of_ble_eq_true rfl) rfl (fun z9 σ10 hz9 => ?_)
        obtain ⟨rfl, hIσ10, hGσ10, q11_0, q11_1, q11_2, q11_3, q11_4⟩ := hz9
        replace q11_0 : σ10 29 0 = σ 45 0 := q11_0
        replace q11_1 : σ10 30 0 = σ 46 0 := q11_1
        replace q11_2 : σ10 29 1 = σ 45 1 := q11_2
        replace q11_3 : σ10 30 1 = σ 46 1 := q11_3
        replace q11_4 : CPY 23 39 σ σ10 := q11_4
        have hFσ10 : tw_F (fun c j => (23 ≤ c ∧ c < 31)) σ σ10 := tw_F_tr (tw_F_rf) hGσ10 (fun c j q => (show (23 ≤ c ∧ c < 31) from by replace q : (23 ≤ c ∧ c < 31) := q; exact q))
        refine j_st (st' := []) rfl ?_
        refine j_aload_n (pc := 43) dX11_back_43 rfl rfl ?_
        refine j_getR (pc := 44) (r := 23) fl_X11_26 dX11_back_44 (a_0 hX) rfl ?_
        refine j_getR (pc := 47) (r := 24) fl_X11_168 dX11_back_47 (a_23 hX) rfl ?_
        refine j_getI (pc := 50) fl_X11_187 dX11_back_50 (a_24 hX) rfl ?_
        have f13 : (0 : Int) ≤ σ10 24 0 ∧ σ10 24 0 ≤ 10 := hIσ10 24 0
        have fin : (((σ10 24 0) = -1 ∧ ¬ (i = 0 ∨ i = 1) ∧ ∀ c j, σ10 c j = σ c j) ∨ ((σ10 24 0) = -2 ∧ ((i = 0 ∧ σ 31 6 = 0) ∨ (i = 1 ∧ σ 39 6 = 0)) ∧ ∀ c j, σ10 c j = σ c j) ∨ (i = 0 ∧ ¬ σ 31 6 = 0 ∧ CPY 23 31 σ σ10 ∧ (σ10 24 0) = σ10 24 0) ∨ (i = 1 ∧ ¬ σ 39 6 = 0 ∧ CPY 23 39 σ σ10 ∧ (σ10 24 0) = σ10 24 0)) := by
          first
          | exact Or.inr (Or.inr (Or.inl ⟨by omega, by omega, q11_4, by omega⟩))
          | exact Or.inr (Or.inr (Or.inr ⟨by omega, by omega, q11_4, by omega⟩))
        exact j_iret (pc := 53) ⟨rfl, rfl⟩ dX11_back_53 rfl ⟨_, rfl, ⟨by omega, by omega⟩, hIσ10, hFσ10, by omega, by omega, by omega, by omega, fin⟩
      · refine j_bipush (pc := 32) dX11_back_32 rfl ?_
        have fin : (((-2) = -1 ∧ ¬ (i = 0 ∨ i = 1) ∧ ∀ c j, σ c j = σ c j) ∨ ((-2) = -2 ∧ ((i = 0 ∧ σ 31 6 = 0) ∨ (i = 1 ∧ σ 39 6 = 0)) ∧ ∀ c j, σ c j = σ c j) ∨ (i = 0 ∧ ¬ σ 31 6 = 0 ∧ CPY 23 31 σ σ ∧ (-2) = σ 24 0) ∨ (i = 1 ∧ ¬ σ 39 6 = 0 ∧ CPY 23 39 σ σ ∧ (-2) = σ 24 0)) := Or.inr (Or.inl ⟨rfl, by omega, fun c j => rfl⟩)
        exact j_iret (pc := 34) ⟨rfl, rfl⟩ dX11_back_34 rfl ⟨_, rfl, ⟨by omega, by omega⟩, hI, (tw_F_rf), by omega, by omega, by omega, by omega, fin⟩
    · refine j_aload_n (pc := 13) dX11_back_13 rfl rfl ?_
      refine j_getR (pc := 14) (r := 31) fl_X11_30 dX11_back_14 (a_0 hX) rfl ?_
      refine j_goto (pc := 17) (tgt := 24) dX11_back_17 rfl ?_
      refine j_astore_n (pc := 24) (i := 2) (ls' := [(0, vR 0), (2, vR 31)]) [1, 0] dX11_back_24 rfl (Nat.le_of_ble_eq_true rfl) rfl rfl ?_
      refine j_aload_n (pc := 25) dX11_back_25 rfl rfl ?_
      refine j_getI (pc := 26) fl_X11_124 dX11_back_26 (a_31 hX) rfl ?_
      have f14 : (0 : Int) ≤ σ 31 6 ∧ σ 31 6 ≤ 1 := hI 31 6
      refine j_ifR_ne (pc := 29) (tgt := 35) ⟨by omega, by omega⟩ dX11_back_29 rfl (fun h15 => ?_) (fun h15 => ?_)
      · refine j_aload_n (pc := 35) dX11_back_35 rfl rfl ?_
        refine j_getR (pc := 36) (r := 23) fl_X11_26 dX11_back_36 (a_0 hX) rfl ?_
        refine j_aload_n (pc := 39) dX11_back_39 rfl rfl ?_
        refine j_callV (pc := 40) (As := [vR 31]) (st := []) (c_X3_copyOf 23 (s_Hand_23 hX) 31 (s_Hand_31 hX) σ hI (by omega)) mv_X11_398 rfl rfl rfl (a_23 hX) dX11_back_40 ⟨Nat.le_of_ble_eq_true rfl, Nat.le_of_ble_eq_true rfl⟩ ⟨Nat.le_refl _, Nat.le_refl _⟩ rfl (Nat.le_of_ble_eq_true rfl) rfl (fun z16 σ17 hz16 => ?_)
        obtain ⟨rfl, hIσ17, hGσ17, q18_0, q18_1, q18_2, q18_3, q18_4⟩ := hz16
        replace q18_0 : σ17 29 0 = σ 37 0 := q18_0
        replace q18_1 : σ17 30 0 = σ 38 0 := q18_1
        replace q18_2 : σ17 29 1 = σ 37 1 := q18_2
        replace q18_3 : σ17 30 1 = σ 38 1 := q18_3
        replace q18_4 : CPY 23 31 σ σ17 := q18_4
        have hFσ17 : tw_F (fun c j => (23 ≤ c ∧ c < 31)) σ σ17 := tw_F_tr (tw_F_rf) hGσ17 (fun c j q => (show (23 ≤ c ∧ c < 31) from by replace q : (23 ≤ c ∧ c < 31) := q; exact q))
        refine j_st (st' := []) rfl ?_
        refine j_aload_n (pc := 43) dX11_back_43 rfl rfl ?_
        refine j_getR (pc := 44) (r := 23) fl_X11_26 dX11_back_44 (a_0 hX) rfl ?_
        refine j_getR (pc := 47) (r := 24) fl_X11_168 dX11_back_47 (a_23 hX) rfl ?_
        refine j_getI (pc := 50) fl_X11_187 dX11_back_50 (a_24 hX) rfl ?_
        have f20 : (0 : Int) ≤ σ17 24 0 ∧ σ17 24 0 ≤ 10 := hIσ17 24 0
        have fin : (((σ17 24 0) = -1 ∧ ¬ (i = 0 ∨ i = 1) ∧ ∀ c j, σ17 c j = σ c j) ∨ ((σ17 24 0) = -2 ∧ ((i = 0 ∧ σ 31 6 = 0) ∨ (i = 1 ∧ σ 39 6 = 0)) ∧ ∀ c j, σ17 c j = σ c j) ∨ (i = 0 ∧ ¬ σ 31 6 = 0 ∧ CPY 23 31 σ σ17 ∧ (σ17 24 0) = σ17 24 0) ∨ (i = 1 ∧ ¬ σ 39 6 = 0 ∧ CPY 23 39 σ σ17 ∧ (σ17 24 0) = σ17 24 0)) := by
          first
          | exact Or.inr (Or.inr (Or.inl ⟨by omega, by omega, q18_4, by omega⟩))
          | exact Or.inr (Or.inr (Or.inr ⟨by omega, by omega, q18_4, by omega⟩))
        exact j_iret (pc := 53) ⟨rfl, rfl⟩ dX11_back_53 rfl ⟨_, rfl, ⟨by omega, by omega⟩, hIσ17, hFσ17, by omega, by omega, by omega, by omega, fin⟩
      · refine j_bipush (pc := 32) dX11_back_32 rfl ?_
        have fin : (((-2) = -1 ∧ ¬ (i = 0 ∨ i = 1) ∧ ∀ c j, σ c j = σ c j) ∨ ((-2) = -2 ∧ ((i = 0 ∧ σ 31 6 = 0) ∨ (i = 1 ∧ σ 39 6 = 0)) ∧ ∀ c j, σ c j = σ c j) ∨ (i = 0 ∧ ¬ σ 31 6 = 0 ∧ CPY 23 31 σ σ ∧ (-2) = σ 24 0) ∨ (i = 1 ∧ ¬ σ 39 6 = 0 ∧ CPY 23 39 σ σ ∧ (-2) = σ 24 0)) := Or.inr (Or.inl ⟨rfl, by omega, fun c j => rfl⟩)
        exact j_iret (pc := 34) ⟨rfl, rfl⟩ dX11_back_34 rfl ⟨_, rfl, ⟨by omega, by omega⟩, hI, (tw_F_rf), by omega, by omega, by omega, by omega, fin⟩
  · refine j_iconst (pc := 7) dX11_back_7 ?_
    have fin : (((-1) = -1 ∧ ¬ (i = 0 ∨ i = 1) ∧ ∀ c j, σ c j = σ c j) ∨ ((-1) = -2 ∧ ((i = 0 ∧ σ 31 6 = 0) ∨ (i = 1 ∧ σ 39 6 = 0)) ∧ ∀ c j, σ c j = σ c j) ∨ (i = 0 ∧ ¬ σ 31 6 = 0 ∧ CPY 23 31 σ σ ∧ (-1) = σ 24 0) ∨ (i = 1 ∧ ¬ σ 39 6 = 0 ∧ CPY 23 39 σ σ ∧ (-1) = σ 24 0)) := Or.inl ⟨rfl, by omega, fun c j => rfl⟩
    exact j_iret (pc := 8) ⟨rfl, rfl⟩ dX11_back_8 rfl ⟨_, rfl, ⟨by omega, by omega⟩, hI, (tw_F_rf), by omega, by omega, by omega, by omega, fin⟩
