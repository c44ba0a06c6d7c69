/-! 21ag.main -/
theorem dX11_pitches_0 : decode cX11_pitches 0 = .ok (.aload_n 0, 1) := by decide +kernel
theorem dX11_pitches_1 : decode cX11_pitches 1 = .ok (.getfield 74, 3) := by decide +kernel
theorem dX11_pitches_4 : decode cX11_pitches 4 = .ok (.invokevirtual 336, 3) := by decide +kernel
theorem dX11_pitches_7 : decode cX11_pitches 7 = .ok (.iload_n 1, 1) := by decide +kernel
theorem dX11_pitches_8 : decode cX11_pitches 8 = .ok (.iconst 1, 1) := by decide +kernel
theorem dX11_pitches_9 : decode cX11_pitches 9 = .ok (.aload_n 0, 1) := by decide +kernel
theorem dX11_pitches_10 : decode cX11_pitches 10 = .ok (.getfield 74, 3) := by decide +kernel
theorem dX11_pitches_13 : decode cX11_pitches 13 = .ok (.getfield 339, 3) := by decide +kernel
theorem dX11_pitches_16 : decode cX11_pitches 16 = .ok (.invokestatic 290, 3) := by decide +kernel
theorem dX11_pitches_19 : decode cX11_pitches 19 = .ok (.ifCond .ne 5, 3) := by decide +kernel
theorem dX11_pitches_22 : decode cX11_pitches 22 = .ok (.iconst (-1), 1) := by decide +kernel
theorem dX11_pitches_23 : decode cX11_pitches 23 = .ok (.ireturn, 1) := by decide +kernel
theorem dX11_pitches_24 : decode cX11_pitches 24 = .ok (.aload_n 0, 1) := by decide +kernel
theorem dX11_pitches_25 : decode cX11_pitches 25 = .ok (.getfield 74, 3) := by decide +kernel
theorem dX11_pitches_28 : decode cX11_pitches 28 = .ok (.getfield 339, 3) := by decide +kernel
theorem dX11_pitches_31 : decode cX11_pitches 31 = .ok (.ifCond .ne 6, 3) := by decide +kernel
theorem dX11_pitches_34 : decode cX11_pitches 34 = .ok (.bipush (-4), 2) := by decide +kernel
theorem dX11_pitches_36 : decode cX11_pitches 36 = .ok (.ireturn, 1) := by decide +kernel
theorem dX11_pitches_37 : decode cX11_pitches 37 = .ok (.iload_n 1, 1) := by decide +kernel
theorem dX11_pitches_38 : decode cX11_pitches 38 = .ok (.ifCond .ne 13, 3) := by decide +kernel
theorem dX11_pitches_41 : decode cX11_pitches 41 = .ok (.aload_n 0, 1) := by decide +kernel
theorem dX11_pitches_42 : decode cX11_pitches 42 = .ok (.getfield 74, 3) := by decide +kernel
theorem dX11_pitches_45 : decode cX11_pitches 45 = .ok (.getfield 339, 3) := by decide +kernel
theorem dX11_pitches_48 : decode cX11_pitches 48 = .ok (.goto 15, 3) := by decide +kernel
theorem dX11_pitches_51 : decode cX11_pitches 51 = .ok (.aload_n 0, 1) := by decide +kernel
theorem dX11_pitches_52 : decode cX11_pitches 52 = .ok (.getfield 74, 3) := by decide +kernel
theorem dX11_pitches_55 : decode cX11_pitches 55 = .ok (.getfield 340, 3) := by decide +kernel
theorem dX11_pitches_58 : decode cX11_pitches 58 = .ok (.iload_n 1, 1) := by decide +kernel
theorem dX11_pitches_59 : decode cX11_pitches 59 = .ok (.bipush 10, 2) := by decide +kernel
theorem dX11_pitches_61 : decode cX11_pitches 61 = .ok (.isub, 1) := by decide +kernel
theorem dX11_pitches_62 : decode cX11_pitches 62 = .ok (.iaload, 1) := by decide +kernel
theorem dX11_pitches_63 : decode cX11_pitches 63 = .ok (.ireturn, 1) := by decide +kernel
abbrev q_X11_pitches (w : Int) (σ : tw_M) : Option tw_V → tw_M → Prop := fun z τ => ∃ r : Int, z = some (vI r) ∧ (-2147483648 ≤ r ∧ r ≤ 2147483647) ∧ tw_I τ ∧ tw_F (fun c j => (c = 71 ∧ (j = 1 ∨ j = 6)) ∨ c = 72 ∨ c = 74) σ τ ∧ True
set_option maxHeartbeats 4000000 in
set_option maxRecDepth 100000 in
theorem c_X11_pitches {G : tw_G} (hX : tw_isX G) (w : Int) (hw : -2147483648 ≤ w ∧ w ≤ 2147483647) (σ : tw_M) (hI : tw_I σ) : tw_C G yX11_pitches cX11_pitches 2 (some .int) 4 [vR 0, vI w] σ (q_X11_pitches w σ) := by
  refine tw_met [(0, vR 0), (1, vI w)] (by decide +kernel) rfl (Nat.le_of_ble_eq_true rfl) ?_
  refine j_aload_n (pc := 0) dX11_pitches_0 rfl rfl ?_
  refine j_getR (pc := 1) (r := 71) fl_X11_74 dX11_pitches_1 (a_0 hX) rfl ?_
  refine j_callV (pc := 4) (As := []) (st := []) (c_X6_findPitches hX σ hI) mv_X11_336 rfl rfl rfl (a_71 hX) dX11_pitches_4 ⟨Nat.le_of_ble_eq_true rfl, Nat.le_of_ble_eq_true rfl⟩ ⟨Nat.le_refl _, Nat.le_refl _⟩ rfl (Nat.le_of_ble_eq_true rfl) rfl (fun z1 σ2 hz1 => ?_)
  obtain ⟨rfl, hIσ2, hGσ2, -⟩ := hz1
  have hFσ2 : tw_F (fun c j => (c = 71 ∧ (j = 1 ∨ j = 6)) ∨ c = 72 ∨ c = 74) σ σ2 := tw_F_tr (tw_F_rf) hGσ2 (fun c j q => (show (c = 71 ∧ (j = 1 ∨ j = 6)) ∨ c = 72 ∨ c = 74 from by replace q : (c = 71 ∧ (j = 1 ∨ j = 6)) ∨ c = 72 ∨ c = 74 := q; exact q))
  refine j_st (st' := []) rfl ?_
  refine j_iload_n (pc := 7) dX11_pitches_7 rfl rfl ?_
  refine j_iconst (pc := 8) dX11_pitches_8 ?_
  refine j_aload_n (pc := 9) dX11_pitches_9 rfl rfl ?_
  refine j_getR (pc := 10) (r := 71) fl_X11_74 dX11_pitches_10 (a_0 hX) rfl ?_
  refine j_getI (pc := 13) fl_X11_339 dX11_pitches_13 (a_71 hX) rfl ?_
  have f5 : (0 : Int) ≤ σ2 71 6 ∧ σ2 71 6 ≤ 40 := hIσ2 71 6
  refine j_callS (pc := 16) (As := [vI w, vI 1, vI (σ2 71 6)]) (st := []) (c_X11_isOf w ⟨by omega, by omega⟩ 1 (by (first | decide | exact ⟨by omega, by omega⟩)) (σ2 71 6) ⟨by omega, by omega⟩ σ2 hIσ2) ms_X11_290 rfl dX11_pitches_16 ⟨Nat.le_of_ble_eq_true rfl, Nat.le_of_ble_eq_true rfl⟩ ⟨Nat.le_refl _, Nat.le_refl _⟩ rfl (Nat.le_of_ble_eq_true rfl) rfl (fun z6 σ7 hz6 => ?_)
  obtain ⟨r9, rfl, hr9, rfl, q8_0⟩ := hz6
  replace q8_0 : (r9 = 1 ∧ ((0 ≤ w ∧ w < (1 : Int)) ∨ (10 ≤ w ∧ w - 10 < (σ2 71 6)))) ∨ (r9 = 0 ∧ ¬ ((0 ≤ w ∧ w < (1 : Int)) ∨ (10 ≤ w ∧ w - 10 < (σ2 71 6)))) := q8_0
  refine j_st (st' := [vI r9]) rfl ?_
  refine j_ifR_ne (pc := 19) (tgt := 24) ⟨by omega, by omega⟩ dX11_pitches_19 rfl (fun h10 => ?_) (fun h10 => ?_)
  · refine j_aload_n (pc := 24) dX11_pitches_24 rfl rfl ?_
    refine j_getR (pc := 25) (r := 71) fl_X11_74 dX11_pitches_25 (a_0 hX) rfl ?_
    refine j_getI (pc := 28) fl_X11_339 dX11_pitches_28 (a_71 hX) rfl ?_
    refine j_ifR_ne (pc := 31) (tgt := 37) ⟨by omega, by omega⟩ dX11_pitches_31 rfl (fun h11 => ?_) (fun h11 => ?_)
    · refine j_iload_n (pc := 37) dX11_pitches_37 rfl rfl ?_
      refine j_ifR_ne (pc := 38) (tgt := 51) ⟨by omega, by omega⟩ dX11_pitches_38 rfl (fun h12 => ?_) (fun h12 => ?_)
      · refine j_aload_n (pc := 51) dX11_pitches_51 rfl rfl ?_
        refine j_getR (pc := 52) (r := 71) fl_X11_74 dX11_pitches_52 (a_0 hX) rfl ?_
        refine j_getR (pc := 55) (r := 74) fl_X11_340 dX11_pitches_55 (a_71 hX) rfl ?_
        refine j_iload_n (pc := 58) dX11_pitches_58 rfl rfl ?_
        refine j_bipush (pc := 59) dX11_pitches_59 rfl ?_
        refine j_isub (pc := 61) dX11_pitches_61 ?_
        refine j_iald (pc := 62) dX11_pitches_62 (a_74 hX) (by omega) (by omega) (by decide) ?_
        have f13 : (0 : Int) ≤ σ2 74 ((w - 10).toNat) ∧ σ2 74 ((w - 10).toNat) ≤ 40 := hIσ2 74 ((w - 10).toNat)
        exact j_iret (pc := 63) ⟨rfl, rfl⟩ dX11_pitches_63 rfl ⟨_, rfl, ⟨by omega, by omega⟩, hIσ2, hFσ2, trivial⟩
      · refine j_aload_n (pc := 41) dX11_pitches_41 rfl rfl ?_
        refine j_getR (pc := 42) (r := 71) fl_X11_74 dX11_pitches_42 (a_0 hX) rfl ?_
        refine j_getI (pc := 45) fl_X11_339 dX11_pitches_45 (a_71 hX) rfl ?_
        refine j_goto (pc := 48) (tgt := 63) dX11_pitches_48 rfl ?_
        exact j_iret (pc := 63) ⟨rfl, rfl⟩ dX11_pitches_63 rfl ⟨_, rfl, ⟨by omega, by omega⟩, hIσ2, hFσ2, trivial⟩
    · refine j_bipush (pc := 34) dX11_pitches_34 rfl ?_
      exact j_iret (pc := 36) ⟨rfl, rfl⟩ dX11_pitches_36 rfl ⟨_, rfl, ⟨by omega, by omega⟩, hIσ2, hFσ2, trivial⟩
  · refine j_iconst (pc := 22) dX11_pitches_22 ?_
    exact j_iret (pc := 23) ⟨rfl, rfl⟩ dX11_pitches_23 rfl ⟨_, rfl, ⟨by omega, by omega⟩, hIσ2, hFσ2, trivial⟩
