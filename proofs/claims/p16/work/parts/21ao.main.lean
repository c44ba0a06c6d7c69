/-! 21ao.main -/
theorem dX11_bolts_0 : decode cX11_bolts 0 = .ok (.aload_n 0, 1) := by decide +kernel
theorem dX11_bolts_1 : decode cX11_bolts 1 = .ok (.getfield 81, 3) := by decide +kernel
theorem dX11_bolts_4 : decode cX11_bolts 4 = .ok (.invokevirtual 388, 3) := by decide +kernel
theorem dX11_bolts_7 : decode cX11_bolts 7 = .ok (.iload_n 1, 1) := by decide +kernel
theorem dX11_bolts_8 : decode cX11_bolts 8 = .ok (.iconst 1, 1) := by decide +kernel
theorem dX11_bolts_9 : decode cX11_bolts 9 = .ok (.aload_n 0, 1) := by decide +kernel
theorem dX11_bolts_10 : decode cX11_bolts 10 = .ok (.getfield 81, 3) := by decide +kernel
theorem dX11_bolts_13 : decode cX11_bolts 13 = .ok (.getfield 391, 3) := by decide +kernel
theorem dX11_bolts_16 : decode cX11_bolts 16 = .ok (.invokestatic 290, 3) := by decide +kernel
theorem dX11_bolts_19 : decode cX11_bolts 19 = .ok (.ifCond .ne 5, 3) := by decide +kernel
theorem dX11_bolts_22 : decode cX11_bolts 22 = .ok (.iconst (-1), 1) := by decide +kernel
theorem dX11_bolts_23 : decode cX11_bolts 23 = .ok (.ireturn, 1) := by decide +kernel
theorem dX11_bolts_24 : decode cX11_bolts 24 = .ok (.aload_n 0, 1) := by decide +kernel
theorem dX11_bolts_25 : decode cX11_bolts 25 = .ok (.getfield 81, 3) := by decide +kernel
theorem dX11_bolts_28 : decode cX11_bolts 28 = .ok (.getfield 392, 3) := by decide +kernel
theorem dX11_bolts_31 : decode cX11_bolts 31 = .ok (.ifCond .ne 6, 3) := by decide +kernel
theorem dX11_bolts_34 : decode cX11_bolts 34 = .ok (.bipush (-4), 2) := by decide +kernel
theorem dX11_bolts_36 : decode cX11_bolts 36 = .ok (.ireturn, 1) := by decide +kernel
theorem dX11_bolts_37 : decode cX11_bolts 37 = .ok (.iload_n 1, 1) := by decide +kernel
theorem dX11_bolts_38 : decode cX11_bolts 38 = .ok (.ifCond .ne 13, 3) := by decide +kernel
theorem dX11_bolts_41 : decode cX11_bolts 41 = .ok (.aload_n 0, 1) := by decide +kernel
theorem dX11_bolts_42 : decode cX11_bolts 42 = .ok (.getfield 81, 3) := by decide +kernel
theorem dX11_bolts_45 : decode cX11_bolts 45 = .ok (.getfield 391, 3) := by decide +kernel
theorem dX11_bolts_48 : decode cX11_bolts 48 = .ok (.goto 15, 3) := by decide +kernel
theorem dX11_bolts_51 : decode cX11_bolts 51 = .ok (.aload_n 0, 1) := by decide +kernel
theorem dX11_bolts_52 : decode cX11_bolts 52 = .ok (.getfield 81, 3) := by decide +kernel
theorem dX11_bolts_55 : decode cX11_bolts 55 = .ok (.getfield 395, 3) := by decide +kernel
theorem dX11_bolts_58 : decode cX11_bolts 58 = .ok (.iload_n 1, 1) := by decide +kernel
theorem dX11_bolts_59 : decode cX11_bolts 59 = .ok (.bipush 10, 2) := by decide +kernel
theorem dX11_bolts_61 : decode cX11_bolts 61 = .ok (.isub, 1) := by decide +kernel
theorem dX11_bolts_62 : decode cX11_bolts 62 = .ok (.iaload, 1) := by decide +kernel
theorem dX11_bolts_63 : decode cX11_bolts 63 = .ok (.ireturn, 1) := by decide +kernel
abbrev q_X11_bolts (w : Int) (σ : tw_M) : Option tw_V → tw_M → Prop := fun z τ => ∃ r : Int, z = some (vI r) ∧ (-2147483648 ≤ r ∧ r ≤ 2147483647) ∧ tw_I τ ∧ tw_F (fun c j => (c = 76 ∧ (j = 1 ∨ j = 4 ∨ j = 5)) ∨ (77 ≤ c ∧ c < 79)) σ τ ∧ True
set_option maxHeartbeats 4000000 in
set_option maxRecDepth 100000 in
theorem c_X11_bolts {G : tw_G} (hX : tw_isX G) (w : Int) (hw : -2147483648 ≤ w ∧ w ≤ 2147483647) (σ : tw_M) (hI : tw_I σ) : tw_C G yX11_bolts cX11_bolts 2 (some .int) 6 [vR 0, vI w] σ (q_X11_bolts w σ) := by
  refine tw_met [(0, vR 0), (1, vI w)] (by decide +kernel) rfl (Nat.le_of_ble_eq_true rfl) ?_
  refine j_aload_n (pc := 0) dX11_bolts_0 rfl rfl ?_
  refine j_getR (pc := 1) (r := 76) fl_X11_81 dX11_bolts_1 (a_0 hX) rfl ?_
  refine j_callV (pc := 4) (As := []) (st := []) (c_X0_find hX σ hI) mv_X11_388 rfl rfl rfl (a_76 hX) dX11_bolts_4 ⟨Nat.le_of_ble_eq_true rfl, Nat.le_of_ble_eq_true rfl⟩ ⟨Nat.le_refl _, Nat.le_refl _⟩ rfl (Nat.le_of_ble_eq_true rfl) rfl (fun z1 σ2 hz1 => ?_)
  obtain ⟨rfl, hIσ2, hGσ2, -⟩ := hz1
  have hFσ2 : tw_F (fun c j => (c = 76 ∧ (j = 1 ∨ j = 4 ∨ j = 5)) ∨ (77 ≤ c ∧ c < 79)) σ σ2 := tw_F_tr (tw_F_rf) hGσ2 (fun c j q => (show (c = 76 ∧ (j = 1 ∨ j = 4 ∨ j = 5)) ∨ (77 ≤ c ∧ c < 79) from by replace q : (c = 76 ∧ (j = 1 ∨ j = 4 ∨ j = 5)) ∨ (77 ≤ c ∧ c < 79) := q; exact q))
  refine j_st (st' := []) rfl ?_
  refine j_iload_n (pc := 7) dX11_bolts_7 rfl rfl ?_
  refine j_iconst (pc := 8) dX11_bolts_8 ?_
  refine j_aload_n (pc := 9) dX11_bolts_9 rfl rfl ?_
  refine j_getR (pc := 10) (r := 76) fl_X11_81 dX11_bolts_10 (a_0 hX) rfl ?_
  refine j_getI (pc := 13) fl_X11_391 dX11_bolts_13 (a_76 hX) rfl ?_
  have f5 : (0 : Int) ≤ σ2 76 4 ∧ σ2 76 4 ≤ 40 := hIσ2 76 4
  refine j_callS (pc := 16) (As := [vI w, vI 1, vI (σ2 76 4)]) (st := []) (c_X11_isOf w ⟨by omega, by omega⟩ 1 (by (first | decide | exact ⟨by omega, by omega⟩)) (σ2 76 4) ⟨by omega, by omega⟩ σ2 hIσ2) ms_X11_290 rfl dX11_bolts_16 ⟨Nat.le_of_ble_eq_true rfl, Nat.le_of_ble_eq_true rfl⟩ ⟨Nat.le_refl _, Nat.le_refl _⟩ rfl (Nat.le_of_ble_eq_true rfl) rfl (fun z6 σ7 hz6 => ?_)
  obtain ⟨r9, rfl, hr9, rfl, q8_0⟩ := hz6
  replace q8_0 : (r9 = 1 ∧ ((0 ≤ w ∧ w < (1 : Int)) ∨ (10 ≤ w ∧ w - 10 < (σ2 76 4)))) ∨ (r9 = 0 ∧ ¬ ((0 ≤ w ∧ w < (1 : Int)) ∨ (10 ≤ w ∧ w - 10 < (σ2 76 4)))) := q8_0
  refine j_st (st' := [vI r9]) rfl ?_
  refine j_ifR_ne (pc := 19) (tgt := 24) ⟨by omega, by omega⟩ dX11_bolts_19 rfl (fun h10 => ?_) (fun h10 => ?_)
  · refine j_aload_n (pc := 24) dX11_bolts_24 rfl rfl ?_
    refine j_getR (pc := 25) (r := 76) fl_X11_81 dX11_bolts_25 (a_0 hX) rfl ?_
    refine j_getI (pc := 28) fl_X11_392 dX11_bolts_28 (a_76 hX) rfl ?_
    have f11 : (0 : Int) ≤ σ2 76 5 ∧ σ2 76 5 ≤ 1 := hIσ2 76 5
    refine j_ifR_ne (pc := 31) (tgt := 37) ⟨by omega, by omega⟩ dX11_bolts_31 rfl (fun h12 => ?_) (fun h12 => ?_)
    · refine j_iload_n (pc := 37) dX11_bolts_37 rfl rfl ?_
      refine j_ifR_ne (pc := 38) (tgt := 51) ⟨by omega, by omega⟩ dX11_bolts_38 rfl (fun h13 => ?_) (fun h13 => ?_)
      · refine j_aload_n (pc := 51) dX11_bolts_51 rfl rfl ?_
        refine j_getR (pc := 52) (r := 76) fl_X11_81 dX11_bolts_52 (a_0 hX) rfl ?_
        refine j_getR (pc := 55) (r := 78) fl_X11_395 dX11_bolts_55 (a_76 hX) rfl ?_
        refine j_iload_n (pc := 58) dX11_bolts_58 rfl rfl ?_
        refine j_bipush (pc := 59) dX11_bolts_59 rfl ?_
        refine j_isub (pc := 61) dX11_bolts_61 ?_
        refine j_iald (pc := 62) dX11_bolts_62 (a_78 hX) (by omega) (by omega) (by decide) ?_
        have f14 : (0 : Int) ≤ σ2 78 ((w - 10).toNat) ∧ σ2 78 ((w - 10).toNat) ≤ 40 := hIσ2 78 ((w - 10).toNat)
        exact j_iret (pc := 63) ⟨rfl, rfl⟩ dX11_bolts_63 rfl ⟨_, rfl, ⟨by omega, by omega⟩, hIσ2, hFσ2, trivial⟩
      · refine j_aload_n (pc := 41) dX11_bolts_41 rfl rfl ?_
        refine j_getR (pc := 42) (r := 76) fl_X11_81 dX11_bolts_42 (a_0 hX) rfl ?_
        refine j_getI (pc := 45) fl_X11_391 dX11_bolts_45 (a_76 hX) rfl ?_
        refine j_goto (pc := 48) (tgt := 63) dX11_bolts_48 rfl ?_
        exact j_iret (pc := 63) ⟨rfl, rfl⟩ dX11_bolts_63 rfl ⟨_, rfl, ⟨by omega, by omega⟩, hIσ2, hFσ2, trivial⟩
    · refine j_bipush (pc := 34) dX11_bolts_34 rfl ?_
      exact j_iret (pc := 36) ⟨rfl, rfl⟩ dX11_bolts_36 rfl ⟨_, rfl, ⟨by omega, by omega⟩, hIσ2, hFσ2, trivial⟩
  · refine j_iconst (pc := 22) dX11_bolts_22 ?_
    exact j_iret (pc := 23) ⟨rfl, rfl⟩ dX11_bolts_23 rfl ⟨_, rfl, ⟨by omega, by omega⟩, hIσ2, hFσ2, trivial⟩
