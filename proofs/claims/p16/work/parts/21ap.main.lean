/-! 21ap.main -/
theorem dX11_image_0 : decode cX11_image 0 = .ok (.iload_n 1, 1) := by decide +kernel
theorem dX11_image_1 : decode cX11_image 1 = .ok (.invokestatic 242, 3) := by decide +kernel
theorem dX11_image_4 : decode cX11_image 4 = .ok (.ifCond .ne 5, 3) := by decide +kernel
theorem dX11_image_7 : decode cX11_image 7 = .ok (.iconst (-1), 1) := by decide +kernel
theorem dX11_image_8 : decode cX11_image 8 = .ok (.ireturn, 1) := by decide +kernel
theorem dX11_image_9 : decode cX11_image 9 = .ok (.iload_n 1, 1) := by decide +kernel
theorem dX11_image_10 : decode cX11_image 10 = .ok (.ifCond .ne 10, 3) := by decide +kernel
theorem dX11_image_13 : decode cX11_image 13 = .ok (.aload_n 0, 1) := by decide +kernel
theorem dX11_image_14 : decode cX11_image 14 = .ok (.getfield 30, 3) := by decide +kernel
theorem dX11_image_17 : decode cX11_image 17 = .ok (.goto 7, 3) := by decide +kernel
theorem dX11_image_20 : decode cX11_image 20 = .ok (.aload_n 0, 1) := by decide +kernel
theorem dX11_image_21 : decode cX11_image 21 = .ok (.getfield 33, 3) := by decide +kernel
theorem dX11_image_24 : decode cX11_image 24 = .ok (.astore_n 2, 1) := by decide +kernel
theorem dX11_image_25 : decode cX11_image 25 = .ok (.aload_n 2, 1) := by decide +kernel
theorem dX11_image_26 : decode cX11_image 26 = .ok (.getfield 124, 3) := by decide +kernel
theorem dX11_image_29 : decode cX11_image 29 = .ok (.ifCond .eq 7, 3) := by decide +kernel
theorem dX11_image_32 : decode cX11_image 32 = .ok (.iconst 1, 1) := by decide +kernel
theorem dX11_image_33 : decode cX11_image 33 = .ok (.goto 4, 3) := by decide +kernel
theorem dX11_image_36 : decode cX11_image 36 = .ok (.iconst 0, 1) := by decide +kernel
theorem dX11_image_37 : decode cX11_image 37 = .ok (.istore_n 3, 1) := by decide +kernel
theorem dX11_image_38 : decode cX11_image 38 = .ok (.aload_n 2, 1) := by decide +kernel
theorem dX11_image_39 : decode cX11_image 39 = .ok (.aload_n 0, 1) := by decide +kernel
theorem dX11_image_40 : decode cX11_image 40 = .ok (.getfield 26, 3) := by decide +kernel
theorem dX11_image_43 : decode cX11_image 43 = .ok (.invokevirtual 398, 3) := by decide +kernel
theorem dX11_image_46 : decode cX11_image 46 = .ok (.aload_n 2, 1) := by decide +kernel
theorem dX11_image_47 : decode cX11_image 47 = .ok (.iconst 1, 1) := by decide +kernel
theorem dX11_image_48 : decode cX11_image 48 = .ok (.putfield 124, 3) := by decide +kernel
theorem dX11_image_51 : decode cX11_image 51 = .ok (.iload_n 3, 1) := by decide +kernel
theorem dX11_image_52 : decode cX11_image 52 = .ok (.ireturn, 1) := by decide +kernel
abbrev q_X11_image (i : Int) (σ : tw_M) : Option tw_V → tw_M → Prop := fun z τ => ∃ r : Int, z = some (vI r) ∧ (-2147483648 ≤ r ∧ r ≤ 2147483647) ∧ tw_I τ ∧ tw_F (fun c j => (31 ≤ c ∧ c < 47)) σ τ ∧ ((r = -1 ∧ ¬ (i = 0 ∨ i = 1) ∧ τ 31 6 = σ 31 6 ∧ τ 39 6 = σ 39 6) ∨ (i = 0 ∧ r = σ 31 6 ∧ τ 31 6 = 1 ∧ τ 39 6 = σ 39 6) ∨ (i = 1 ∧ r = σ 39 6 ∧ τ 39 6 = 1 ∧ τ 31 6 = σ 31 6)) ∧ ((i = 0 ∧ τ 37 0 = σ 29 0) ∨ (¬ i = 0 ∧ τ 37 0 = σ 37 0)) ∧ ((i = 0 ∧ τ 38 0 = σ 30 0) ∨ (¬ i = 0 ∧ τ 38 0 = σ 38 0)) ∧ ((i = 0 ∧ τ 37 1 = σ 29 1) ∨ (¬ i = 0 ∧ τ 37 1 = σ 37 1)) ∧ ((i = 0 ∧ τ 38 1 = σ 30 1) ∨ (¬ i = 0 ∧ τ 38 1 = σ 38 1)) ∧ ((i = 1 ∧ τ 45 0 = σ 29 0) ∨ (¬ i = 1 ∧ τ 45 0 = σ 45 0)) ∧ ((i = 1 ∧ τ 46 0 = σ 30 0) ∨ (¬ i = 1 ∧ τ 46 0 = σ 46 0)) ∧ ((i = 1 ∧ τ 45 1 = σ 29 1) ∨ (¬ i = 1 ∧ τ 45 1 = σ 45 1)) ∧ ((i = 1 ∧ τ 46 1 = σ 30 1) ∨ (¬ i = 1 ∧ τ 46 1 = σ 46 1)) ∧ (((i = 0 ∧ CPY 31 23 σ τ ∧ ∀ c j : Nat, 39 ≤ c → τ c j = σ c j) ∨ (i = 1 ∧ CPY 39 23 σ τ ∧ ∀ c j : Nat, c < 39 → τ c j = σ c j) ∨ (¬ (i = 0 ∨ i = 1) ∧ ∀ c j, τ c j = σ c j)))
set_option maxHeartbeats 4000000 in
set_option maxRecDepth 100000 in
theorem c_X11_image {G : tw_G} (hX : tw_isX G) (i : Int) (hi : -2147483648 ≤ i ∧ i ≤ 2147483647) (σ : tw_M) (hI : tw_I σ) : tw_C G yX11_image cX11_image 4 (some .int) 2 [vR 0, vI i] σ (q_X11_image i σ) := by
  refine tw_met [(0, vR 0), (1, vI i)] (by decide +kernel) rfl (Nat.le_of_ble_eq_true rfl) ?_
  refine j_iload_n (pc := 0) dX11_image_0 rfl rfl ?_
  refine j_callS (pc := 1) (As := [vI i]) (st := []) (c_X11_isPart i ⟨by omega, by omega⟩ σ hI) ms_X11_242 rfl dX11_image_1 ⟨Nat.le_of_ble_eq_true rfl, Nat.le_of_ble_eq_true rfl⟩ ⟨Nat.le_refl _, Nat.le_refl _⟩ rfl (Nat.le_of_ble_eq_true rfl) rfl (fun z1 σ2 hz1 => ?_)
  obtain ⟨r4, rfl, hr4, rfl, q3_0⟩ := hz1
  replace q3_0 : (r4 = 1 ∧ (i = 0 ∨ i = 1)) ∨ (r4 = 0 ∧ ¬ i = 0 ∧ ¬ i = 1) := q3_0
  refine j_st (st' := [vI r4]) rfl ?_
  refine j_ifR_ne (pc := 4) (tgt := 9) ⟨by omega, by omega⟩ dX11_image_4 rfl (fun h5 => ?_) (fun h5 => ?_)
  · refine j_iload_n (pc := 9) dX11_image_9 rfl rfl ?_
    refine j_ifR_ne (pc := 10) (tgt := 20) ⟨by omega, by omega⟩ dX11_image_10 rfl (fun h6 => ?_) (fun h6 => ?_)
    · refine j_aload_n (pc := 20) dX11_image_20 rfl rfl ?_
      refine j_getR (pc := 21) (r := 39) fl_X11_33 dX11_image_21 (a_0 hX) rfl ?_
      refine j_astore_n (pc := 24) (i := 2) (ls' := [(0, vR 0), (2, vR 39)]) [1, 0] dX11_image_24 rfl (Nat.le_of_ble_eq_true rfl) rfl rfl ?_
      refine j_aload_n (pc := 25) dX11_image_25 rfl rfl ?_
      refine j_getI (pc := 26) fl_X11_124 dX11_image_26 (a_39 hX) rfl ?_
      have f7 : (0 : Int) ≤ σ 39 6 ∧ σ 39 6 ≤ 1 := hI 39 6
      refine j_ifR_eq (pc := 29) (tgt := 36) ⟨by omega, by omega⟩ dX11_image_29 rfl (fun h8 => ?_) (fun h8 => ?_)
      · refine j_iconst (pc := 36) dX11_image_36 ?_
        refine j_istore_n (pc := 37) (i := 3) (ls' := [(0, vR 0), (2, vR 39), (3, vI 0)]) [1, 2, 0] dX11_image_37 rfl (Nat.le_of_ble_eq_true rfl) rfl rfl ?_
        refine j_aload_n (pc := 38) dX11_image_38 rfl rfl ?_
        refine j_aload_n (pc := 39) dX11_image_39 rfl rfl ?_
        refine j_getR (pc := 40) (r := 23) fl_X11_26 dX11_image_40 (a_0 hX) rfl ?_
        refine j_callV (pc := 43) (As := [vR 23]) (st := []) (c_X3_copyOf 39 (s_Hand_39 hX) 23 (s_Hand_23 hX) σ hI (by omega)) mv_X11_398 rfl rfl rfl (a_39 hX) dX11_image_43 ⟨Nat.le_of_ble_eq_true rfl, Nat.le_of_ble_eq_true rfl⟩ ⟨Nat.le_refl _, Nat.le_refl _⟩ rfl (Nat.le_of_ble_eq_true rfl) rfl (fun z9 σ10 hz9 => ?_)
        obtain ⟨rfl, hIσ10, hGσ10, q11_0, q11_1, q11_2, q11_3, q11_4⟩ := hz9
        replace q11_0 : σ10 45 0 = σ 29 0 := q11_0
        replace q11_1 : σ10 46 0 = σ 30 0 := q11_1
        replace q11_2 : σ10 45 1 = σ 29 1 := q11_2
        replace q11_3 : σ10 46 1 = σ 30 1 := q11_3
        replace q11_4 : CPY 39 23 σ σ10 := q11_4
        have hFσ10 : tw_F (fun c j => (31 ≤ c ∧ c < 47)) σ σ10 := tw_F_tr (tw_F_rf) hGσ10 (fun c j q => (show (31 ≤ c ∧ c < 47) from by replace q : (39 ≤ c ∧ c < 47) := q; exact ⟨Nat.le_trans (by decide) q.1, Nat.lt_of_lt_of_le q.2 (by decide)⟩))
        refine j_st (st' := []) rfl ?_
        have cpy9 := q11_4
        refine j_aload_n (pc := 46) dX11_image_46 rfl rfl ?_
        refine j_iconst (pc := 47) dX11_image_47 ?_
        refine j_putZ (pc := 48) (by omega) fl_X11_124 fp_X3_6 dX11_image_48 (a_39 hX) rfl (j_nm (fun σ13 (eσ13 : σ13 = tw_up σ10 39 6 1) => ?_))
        have hIσ13 : tw_I σ13 := tw_I_up hIσ10 eσ13 (show (0 : Int) ≤ 1 ∧ 1 ≤ 1 from by decide)
        have hFσ13 : tw_F (fun c j => (31 ≤ c ∧ c < 47)) σ σ13 := tw_F_up hFσ10 eσ13 (show (31 ≤ 39 ∧ 39 < 47) from (by decide))
        refine j_iload_n (pc := 51) dX11_image_51 rfl rfl ?_
        have fin : ((i = 0 ∧ CPY 31 23 σ σ13 ∧ ∀ c j : Nat, 39 ≤ c → σ13 c j = σ c j) ∨ (i = 1 ∧ CPY 39 23 σ σ13 ∧ ∀ c j : Nat, c < 39 → σ13 c j = σ c j) ∨ (¬ (i = 0 ∨ i = 1) ∧ ∀ c j, σ13 c j = σ c j)) := by
          first
          | exact Or.inl ⟨by omega, ⟨(tw_ne1 eσ13 (by (first | decide | omega))).trans cpy9.1, fun k j k1 k2 k3 => (tw_ne1 eσ13 (by (first | decide | omega))).trans (cpy9.2.1 k j k1 k2 k3), fun j hj => (tw_ne1 eσ13 (by (first | decide | omega))).trans (cpy9.2.2.1 j hj), (tw_ne1 eσ13 (by (first | decide | omega))).trans cpy9.2.2.2.1, (tw_ne1 eσ13 (by (first | decide | omega))).trans cpy9.2.2.2.2⟩, fun c j h => (tw_ne1 eσ13 (by (first | decide | omega))).trans (hGσ10 c j (show ¬ ((39 ≤ c ∧ c < 47)) from by omega))⟩
          | exact Or.inr (Or.inl ⟨by omega, ⟨(tw_ne1 eσ13 (by (first | decide | omega))).trans cpy9.1, fun k j k1 k2 k3 => (tw_ne1 eσ13 (by (first | decide | omega))).trans (cpy9.2.1 k j k1 k2 k3), fun j hj => (tw_ne1 eσ13 (by (first | decide | omega))).trans (cpy9.2.2.1 j hj), (tw_ne1 eσ13 (by (first | decide | omega))).trans cpy9.2.2.2.1, (tw_ne1 eσ13 (by (first | decide | omega))).trans cpy9.2.2.2.2⟩, fun c j h => (tw_ne1 eσ13 (by (first | decide | omega))).trans (hGσ10 c j (show ¬ ((39 ≤ c ∧ c < 47)) from by omega))⟩)
        have y14 : σ13 31 6 = σ 31 6 := ((tw_ne1 eσ13 (by (first | decide | omega)))).trans (hGσ10 31 6 (show ¬ ((39 ≤ 31 ∧ 31 < 47)) from by decide))
        have f15 : (0 : Int) ≤ σ 31 6 ∧ σ 31 6 ≤ 1 := hI 31 6
        have y16 : σ13 39 6 = 1 := (tw_eq1 eσ13)
        have y17 : σ13 37 0 = σ 37 0 := ((tw_ne1 eσ13 (by (first | decide | omega)))).trans (hGσ10 37 0 (show ¬ ((39 ≤ 37 ∧ 37 < 47)) from by decide))
        have f18 : (0 : Int) ≤ σ 37 0 ∧ σ 37 0 ≤ 999 := hI 37 0
        have y19 : σ13 38 0 = σ 38 0 := ((tw_ne1 eσ13 (by (first | decide | omega)))).trans (hGσ10 38 0 (show ¬ ((39 ≤ 38 ∧ 38 < 47)) from by decide))
        have f20 : (-2147483648 : Int) ≤ σ 38 0 ∧ σ 38 0 ≤ 2147483647 := hI 38 0
        have y21 : σ13 37 1 = σ 37 1 := ((tw_ne1 eσ13 (by (first | decide | omega)))).trans (hGσ10 37 1 (show ¬ ((39 ≤ 37 ∧ 37 < 47)) from by decide))
        have f22 : (0 : Int) ≤ σ 37 1 ∧ σ 37 1 ≤ 999 := hI 37 1
        have y23 : σ13 38 1 = σ 38 1 := ((tw_ne1 eσ13 (by (first | decide | omega)))).trans (hGσ10 38 1 (show ¬ ((39 ≤ 38 ∧ 38 < 47)) from by decide))
        have f24 : (-2147483648 : Int) ≤ σ 38 1 ∧ σ 38 1 ≤ 2147483647 := hI 38 1
        have y25 : σ13 45 0 = σ10 45 0 := (tw_ne1 eσ13 (by (first | decide | omega)))
        have f26 : (0 : Int) ≤ σ10 45 0 ∧ σ10 45 0 ≤ 999 := hIσ10 45 0
        have y27 : σ13 46 0 = σ10 46 0 := (tw_ne1 eσ13 (by (first | decide | omega)))
        have f28 : (-2147483648 : Int) ≤ σ10 46 0 ∧ σ10 46 0 ≤ 2147483647 := hIσ10 46 0
        have y29 : σ13 45 1 = σ10 45 1 := (tw_ne1 eσ13 (by (first | decide | omega)))
        have f30 : (0 : Int) ≤ σ10 45 1 ∧ σ10 45 1 ≤ 999 := hIσ10 45 1
        have y31 : σ13 46 1 = σ10 46 1 := (tw_ne1 eσ13 (by (first | decide | omega)))
        have f32 : (-2147483648 : Int) ≤ σ10 46 1 ∧ σ10 46 1 ≤ 2147483647 := hIσ10 46 1
        exact j_iret (pc := 52) ⟨rfl, rfl⟩ dX11_image_52 rfl ⟨_, rfl, ⟨by omega, by omega⟩, hIσ13, hFσ13, by omega, by omega, by omega, by omega, by omega, by omega, by omega, by omega, by omega, fin⟩
      · refine j_iconst (pc := 32) dX11_image_32 ?_
        refine j_goto (pc := 33) (tgt := 37) dX11_image_33 rfl ?_
        refine j_istore_n (pc := 37) (i := 3) (ls' := [(0, vR 0), (2, vR 39), (3, vI 1)]) [1, 2, 0] dX11_image_37 rfl (Nat.le_of_ble_eq_true rfl) rfl rfl ?_
        refine j_aload_n (pc := 38) dX11_image_38 rfl rfl ?_
        refine j_aload_n (pc := 39) dX11_image_39 rfl rfl ?_
        refine j_getR (pc := 40) (r := 23) fl_X11_26 dX11_image_40 (a_0 hX) rfl ?_
        refine j_callV (pc := 43) (As := [vR 23]) (st := []) (c_X3_copyOf 39 (s_Hand_39 hX) 23 (s_Hand_23 hX) σ hI (by omega)) mv_X11_398 rfl rfl rfl (a_39 hX) dX11_image_43 ⟨Nat.le_of_ble_eq_true rfl, Nat.le_of_ble_eq_true rfl⟩ ⟨Nat.le_refl _, Nat.le_refl _⟩ rfl (Nat.le_of_ble_eq_true rfl) rfl (fun z33 σ34 hz33 => ?_)
        obtain ⟨rfl, hIσ34, hGσ34, q35_0, q35_1, q35_2, q35_3, q35_4⟩ := hz33
        replace q35_0 : σ34 45 0 = σ 29 0 := q35_0
        replace q35_1 : σ34 46 0 = σ 30 0 := q35_1
        replace q35_2 : σ34 45 1 = σ 29 1 := q35_2
        replace q35_3 : σ34 46 1 = σ 30 1 := q35_3
        replace q35_4 : CPY 39 23 σ σ34 := q35_4
        have hFσ34 : tw_F (fun c j => (31 ≤ c ∧ c < 47)) σ σ34 := tw_F_tr (tw_F_rf) hGσ34 (fun c j q => (show (31 ≤ c ∧ c < 47) from by replace q : (39 ≤ c ∧ c < 47) := q; exact ⟨Nat.le_trans (by decide) q.1, Nat.lt_of_lt_of_le q.2 (by decide)⟩))
        refine j_st (st' := []) rfl ?_
        have cpy9 := q35_4
        refine j_aload_n (pc := 46) dX11_image_46 rfl rfl ?_
        refine j_iconst (pc := 47) dX11_image_47 ?_
        refine j_putZ (pc := 48) (by omega) fl_X11_124 fp_X3_6 dX11_image_48 (a_39 hX) rfl (j_nm (fun σ37 (eσ37 : σ37 = tw_up σ34 39 6 1) => ?_))
        have hIσ37 : tw_I σ37 := tw_I_up hIσ34 eσ37 (show (0 : Int) ≤ 1 ∧ 1 ≤ 1 from by decide)
        have hFσ37 : tw_F (fun c j => (31 ≤ c ∧ c < 47)) σ σ37 := tw_F_up hFσ34 eσ37 (show (31 ≤ 39 ∧ 39 < 47) from (by decide))
        refine j_iload_n (pc := 51) dX11_image_51 rfl rfl ?_
        have fin : ((i = 0 ∧ CPY 31 23 σ σ37 ∧ ∀ c j : Nat, 39 ≤ c → σ37 c j = σ c j) ∨ (i = 1 ∧ CPY 39 23 σ σ37 ∧ ∀ c j : Nat, c < 39 → σ37 c j = σ c j) ∨ (¬ (i = 0 ∨ i = 1) ∧ ∀ c j, σ37 c j = σ c j)) := by
          first
          | exact Or.inl ⟨by omega, ⟨(tw_ne1 eσ37 (by (first | decide | omega))).trans cpy9.1, fun k j k1 k2 k3 => (tw_ne1 eσ37 (by (first | decide | omega))).trans (cpy9.2.1 k j k1 k2 k3), fun j hj => (tw_ne1 eσ37 (by (first | decide | omega))).trans (cpy9.2.2.1 j hj), (tw_ne1 eσ37 (by (first | decide | omega))).trans cpy9.2.2.2.1, (tw_ne1 eσ37 (by (first | decide | omega))).trans cpy9.2.2.2.2⟩, fun c j h => (tw_ne1 eσ37 (by (first | decide | omega))).trans (hGσ34 c j (show ¬ ((39 ≤ c ∧ c < 47)) from by omega))⟩
          | exact Or.inr (Or.inl ⟨by omega, ⟨(tw_ne1 eσ37 (by (first | decide | omega))).trans cpy9.1, fun k j k1 k2 k3 => (tw_ne1 eσ37 (by (first | decide | omega))).trans (cpy9.2.1 k j k1 k2 k3), fun j hj => (tw_ne1 eσ37 (by (first | decide | omega))).trans (cpy9.2.2.1 j hj), (tw_ne1 eσ37 (by (first | decide | omega))).trans cpy9.2.2.2.1, (tw_ne1 eσ37 (by (first | decide | omega))).trans cpy9.2.2.2.2⟩, fun c j h => (tw_ne1 eσ37 (by (first | decide | omega))).trans (hGσ34 c j (show ¬ ((39 ≤ c ∧ c < 47)) from by omega))⟩)
        have y38 : σ37 31 6 = σ 31 6 := ((tw_ne1 eσ37 (by (first | decide | omega)))).trans (hGσ34 31 6 (show ¬ ((39 ≤ 31 ∧ 31 < 47)) from by decide))
        have f39 : (0 : Int) ≤ σ 31 6 ∧ σ 31 6 ≤ 1 := hI 31 6
        have y40 : σ37 39 6 = 1 := (tw_eq1 eσ37)
        have y41 : σ37 37 0 = σ 37 0 := ((tw_ne1 eσ37 (by (first | decide | omega)))).trans (hGσ34 37 0 (show ¬ ((39 ≤ 37 ∧ 37 < 47)) from by decide))
        have f42 : (0 : Int) ≤ σ 37 0 ∧ σ 37 0 ≤ 999 := hI 37 0
        have y43 : σ37 38 0 = σ 38 0 := ((tw_ne1 eσ37 (by (first | decide | omega)))).trans (hGσ34 38 0 (show ¬ ((39 ≤ 38 ∧ 38 < 47)) from by decide))
        have f44 : (-2147483648 : Int) ≤ σ 38 0 ∧ σ 38 0 ≤ 2147483647 := hI 38 0
        have y45 : σ37 37 1 = σ 37 1 := ((tw_ne1 eσ37 (by (first | decide | omega)))).trans (hGσ34 37 1 (show ¬ ((39 ≤ 37 ∧ 37 < 47)) from by decide))
        have f46 : (0 : Int) ≤ σ 37 1 ∧ σ 37 1 ≤ 999 := hI 37 1
        have y47 : σ37 38 1 = σ 38 1 := ((tw_ne1 eσ37 (by (first | decide | omega)))).trans (hGσ34 38 1 (show ¬ ((39 ≤ 38 ∧ 38 < 47)) from by decide))
        have f48 : (-2147483648 : Int) ≤ σ 38 1 ∧ σ 38 1 ≤ 2147483647 := hI 38 1
        have y49 : σ37 45 0 = σ34 45 0 := (tw_ne1 eσ37 (by (first | decide | omega)))
        have f50 : (0 : Int) ≤ σ34 45 0 ∧ σ34 45 0 ≤ 999 := hIσ34 45 0
        have y51 : σ37 46 0 = σ34 46 0 := (tw_ne1 eσ37 (by (first | decide | omega)))
        have f52 : (-2147483648 : Int) ≤ σ34 46 0 ∧ σ34 46 0 ≤ 2147483647 := hIσ34 46 0
        have y53 : σ37 45 1 = σ34 45 1 := (tw_ne1 eσ37 (by (first | decide | omega)))
        have f54 : (0 : Int) ≤ σ34 45 1 ∧ σ34 45 1 ≤ 999 := hIσ34 45 1
        have y55 : σ37 46 1 = σ34 46 1 := (tw_ne1 eσ37 (by (first | decide | omega)))
        have f56 : (-2147483648 : Int) ≤ σ34 46 1 ∧ σ34 46 1 ≤ 2147483647 := hIσ34 46 1
        exact j_iret (pc := 52) ⟨rfl, rfl⟩ dX11_image_52 rfl ⟨_, rfl, ⟨by omega, by omega⟩, hIσ37, hFσ37, by omega, by omega, by omega, by omega, by omega, by omega, by omega, by omega, by omega, fin⟩
    · refine j_aload_n (pc := 13) dX11_image_13 rfl rfl ?_
      refine j_getR (pc := 14) (r := 31) fl_X11_30 dX11_image_14 (a_0 hX) rfl ?_
      refine j_goto (pc := 17) (tgt := 24) dX11_image_17 rfl ?_
      refine j_astore_n (pc := 24) (i := 2) (ls' := [(0, vR 0), (2, vR 31)]) [1, 0] dX11_image_24 rfl (Nat.le_of_ble_eq_true rfl) rfl rfl ?_
      refine j_aload_n (pc := 25) dX11_image_25 rfl rfl ?_
      refine j_getI (pc := 26) fl_X11_124 dX11_image_26 (a_31 hX) rfl ?_
      have f57 : (0 : Int) ≤ σ 31 6 ∧ σ 31 6 ≤ 1 := hI 31 6
      refine j_ifR_eq (pc := 29) (tgt := 36) ⟨by omega, by omega⟩ dX11_image_29 rfl (fun h58 => ?_) (fun h58 => ?_)
      · refine j_iconst (pc := 36) dX11_image_36 ?_
        refine j_istore_n (pc := 37) (i := 3) (ls' := [(0, vR 0), (2, vR 31), (3, vI 0)]) [1, 2, 0] dX11_image_37 rfl (Nat.le_of_ble_eq_true rfl) rfl rfl ?_
        refine j_aload_n (pc := 38) dX11_image_38 rfl rfl ?_
        refine j_aload_n (pc := 39) dX11_image_39 rfl rfl ?_
        refine j_getR (pc := 40) (r := 23) fl_X11_26 dX11_image_40 (a_0 hX) rfl ?_
        refine j_callV (pc := 43) (As := [vR 23]) (st := []) (c_X3_copyOf 31 (s_Hand_31 hX) 23 (s_Hand_23 hX) σ hI (by omega)) mv_X11_398 rfl rfl rfl (a_31 hX) dX11_image_43 ⟨Nat.le_of_ble_eq_true rfl, Nat.le_of_ble_eq_true rfl⟩ ⟨Nat.le_refl _, Nat.le_refl _⟩ rfl (Nat.le_of_ble_eq_true rfl) rfl (fun z59 σ60 hz59 => ?_)
        obtain ⟨rfl, hIσ60, hGσ60, q61_0, q61_1, q61_2, q61_3, q61_4⟩ := hz59
        replace q61_0 : σ60 37 0 = σ 29 0 := q61_0
        replace q61_1 : σ60 38 0 = σ 30 0 := q61_1
        replace q61_2 : σ60 37 1 = σ 29 1 := q61_2
        replace q61_3 : σ60 38 1 = σ 30 1 := q61_3
        replace q61_4 : CPY 31 23 σ σ60 := q61_4
        have hFσ60 : tw_F (fun c j => (31 ≤ c ∧ c < 47)) σ σ60 := tw_F_tr (tw_F_rf) hGσ60 (fun c j q => (show (31 ≤ c ∧ c < 47) from by replace q : (31 ≤ c ∧ c < 39) := q; exact ⟨Nat.le_trans (by decide) q.1, Nat.lt_of_lt_of_le q.2 (by decide)⟩))
        refine j_st (st' := []) rfl ?_
        have cpy9 := q61_4
        refine j_aload_n (pc := 46) dX11_image_46 rfl rfl ?_
        refine j_iconst (pc := 47) dX11_image_47 ?_
        refine j_putZ (pc := 48) (by omega) fl_X11_124 fp_X3_6 dX11_image_48 (a_31 hX) rfl (j_nm (fun σ63 (eσ63 : σ63 = tw_up σ60 31 6 1) => ?_))
        have hIσ63 : tw_I σ63 := tw_I_up hIσ60 eσ63 (show (0 : Int) ≤ 1 ∧ 1 ≤ 1 from by decide)
        have hFσ63 : tw_F (fun c j => (31 ≤ c ∧ c < 47)) σ σ63 := tw_F_up hFσ60 eσ63 (show (31 ≤ 31 ∧ 31 < 47) from (by decide))
        refine j_iload_n (pc := 51) dX11_image_51 rfl rfl ?_
        have fin : ((i = 0 ∧ CPY 31 23 σ σ63 ∧ ∀ c j : Nat, 39 ≤ c → σ63 c j = σ c j) ∨ (i = 1 ∧ CPY 39 23 σ σ63 ∧ ∀ c j : Nat, c < 39 → σ63 c j = σ c j) ∨ (¬ (i = 0 ∨ i = 1) ∧ ∀ c j, σ63 c j = σ c j)) := by
          first
          | exact Or.inl ⟨by omega, ⟨(tw_ne1 eσ63 (by (first | decide | omega))).trans cpy9.1, fun k j k1 k2 k3 => (tw_ne1 eσ63 (by (first | decide | omega))).trans (cpy9.2.1 k j k1 k2 k3), fun j hj => (tw_ne1 eσ63 (by (first | decide | omega))).trans (cpy9.2.2.1 j hj), (tw_ne1 eσ63 (by (first | decide | omega))).trans cpy9.2.2.2.1, (tw_ne1 eσ63 (by (first | decide | omega))).trans cpy9.2.2.2.2⟩, fun c j h => (tw_ne1 eσ63 (by (first | decide | omega))).trans (hGσ60 c j (show ¬ ((31 ≤ c ∧ c < 39)) from by omega))⟩
          | exact Or.inr (Or.inl ⟨by omega, ⟨(tw_ne1 eσ63 (by (first | decide | omega))).trans cpy9.1, fun k j k1 k2 k3 => (tw_ne1 eσ63 (by (first | decide | omega))).trans (cpy9.2.1 k j k1 k2 k3), fun j hj => (tw_ne1 eσ63 (by (first | decide | omega))).trans (cpy9.2.2.1 j hj), (tw_ne1 eσ63 (by (first | decide | omega))).trans cpy9.2.2.2.1, (tw_ne1 eσ63 (by (first | decide | omega))).trans cpy9.2.2.2.2⟩, fun c j h => (tw_ne1 eσ63 (by (first | decide | omega))).trans (hGσ60 c j (show ¬ ((31 ≤ c ∧ c < 39)) from by omega))⟩)
        have y64 : σ63 31 6 = 1 := (tw_eq1 eσ63)
        have y65 : σ63 39 6 = σ 39 6 := ((tw_ne1 eσ63 (by (first | decide | omega)))).trans (hGσ60 39 6 (show ¬ ((31 ≤ 39 ∧ 39 < 39)) from by decide))
        have f66 : (0 : Int) ≤ σ 39 6 ∧ σ 39 6 ≤ 1 := hI 39 6
        have y67 : σ63 37 0 = σ60 37 0 := (tw_ne1 eσ63 (by (first | decide | omega)))
        have f68 : (0 : Int) ≤ σ60 37 0 ∧ σ60 37 0 ≤ 999 := hIσ60 37 0
        have y69 : σ63 38 0 = σ60 38 0 := (tw_ne1 eσ63 (by (first | decide | omega)))
        have f70 : (-2147483648 : Int) ≤ σ60 38 0 ∧ σ60 38 0 ≤ 2147483647 := hIσ60 38 0
        have y71 : σ63 37 1 = σ60 37 1 := (tw_ne1 eσ63 (by (first | decide | omega)))
        have f72 : (0 : Int) ≤ σ60 37 1 ∧ σ60 37 1 ≤ 999 := hIσ60 37 1
        have y73 : σ63 38 1 = σ60 38 1 := (tw_ne1 eσ63 (by (first | decide | omega)))
        have f74 : (-2147483648 : Int) ≤ σ60 38 1 ∧ σ60 38 1 ≤ 2147483647 := hIσ60 38 1
        have y75 : σ63 45 0 = σ 45 0 := ((tw_ne1 eσ63 (by (first | decide | omega)))).trans (hGσ60 45 0 (show ¬ ((31 ≤ 45 ∧ 45 < 39)) from by decide))
        have f76 : (0 : Int) ≤ σ 45 0 ∧ σ 45 0 ≤ 999 := hI 45 0
        have y77 : σ63 46 0 = σ 46 0 := ((tw_ne1 eσ63 (by (first | decide | omega)))).trans (hGσ60 46 0 (show ¬ ((31 ≤ 46 ∧ 46 < 39)) from by decide))
        have f78 : (-2147483648 : Int) ≤ σ 46 0 ∧ σ 46 0 ≤ 2147483647 := hI 46 0
        have y79 : σ63 45 1 = σ 45 1 := ((tw_ne1 eσ63 (by (first | decide | omega)))).trans (hGσ60 45 1 (show ¬ ((31 ≤ 45 ∧ 45 < 39)) from by decide))
        have f80 : (0 : Int) ≤ σ 45 1 ∧ σ 45 1 ≤ 999 := hI 45 1
        have y81 : σ63 46 1 = σ 46 1 := ((tw_ne1 eσ63 (by (first | decide | omega)))).trans (hGσ60 46 1 (show ¬ ((31 ≤ 46 ∧ 46 < 39)) from by decide))
        have f82 : (-2147483648 : Int) ≤ σ 46 1 ∧ σ 46 1 ≤ 2147483647 := hI 46 1
        exact j_iret (pc := 52) ⟨rfl, rfl⟩ dX11_image_52 rfl ⟨_, rfl, ⟨by omega, by omega⟩, hIσ63, hFσ63, by omega, by omega, by omega, by omega, by omega, by omega, by omega, by omega, by omega, fin⟩
      · refine j_iconst (pc := 32) dX11_image_32 ?_
        refine j_goto (pc := 33) (tgt := 37) dX11_image_33 rfl ?_
        refine j_istore_n (pc := 37) (i := 3) (ls' := [(0, vR 0), (2, vR 31), (3, vI 1)]) [1, 2, 0] dX11_image_37 rfl (Nat.le_of_ble_eq_true rfl) rfl rfl ?_
        refine j_aload_n (pc := 38) dX11_image_38 rfl rfl ?_
        refine j_aload_n (pc := 39) dX11_image_39 rfl rfl ?_
        refine j_getR (pc := 40) (r := 23) fl_X11_26 dX11_image_40 (a_0 hX) rfl ?_
        refine j_callV (pc := 43) (As := [vR 23]) (st := []) (c_X3_copyOf 31 (s_Hand_31 hX) 23 (s_Hand_23 hX) σ hI (by omega)) mv_X11_398 rfl rfl rfl (a_31 hX) dX11_image_43 ⟨Nat.le_of_ble_eq_true rfl, Nat.le_of_ble_eq_true rfl⟩ ⟨Nat.le_refl _, Nat.le_refl _⟩ rfl (Nat.le_of_ble_eq_true rfl) rfl (fun z83 σ84 hz83 => ?_)
        obtain ⟨rfl, hIσ84, hGσ84, q85_0, q85_1, q85_2, q85_3, q85_4⟩ := hz83
        replace q85_0 : σ84 37 0 = σ 29 0 := q85_0
        replace q85_1 : σ84 38 0 = σ 30 0 := q85_1
        replace q85_2 : σ84 37 1 = σ 29 1 := q85_2
        replace q85_3 : σ84 38 1 = σ 30 1 := q85_3
        replace q85_4 : CPY 31 23 σ σ84 := q85_4
        have hFσ84 : tw_F (fun c j => (31 ≤ c ∧ c < 47)) σ σ84 := tw_F_tr (tw_F_rf) hGσ84 (fun c j q => (show (31 ≤ c ∧ c < 47) from by replace q : (31 ≤ c ∧ c < 39) := q; exact ⟨Nat.le_trans (by decide) q.1, Nat.lt_of_lt_of_le q.2 (by decide)⟩))
        refine j_st (st' := []) rfl ?_
        have cpy9 := q85_4
        refine j_aload_n (pc := 46) dX11_image_46 rfl rfl ?_
        refine j_iconst (pc := 47) dX11_image_47 ?_
        refine j_putZ (pc := 48) (by omega) fl_X11_124 fp_X3_6 dX11_image_48 (a_31 hX) rfl (j_nm (fun σ87 (eσ87 : σ87 = tw_up σ84 31 6 1) => ?_))
        have hIσ87 : tw_I σ87 := tw_I_up hIσ84 eσ87 (show (0 : Int) ≤ 1 ∧ 1 ≤ 1 from by decide)
        have hFσ87 : tw_F (fun c j => (31 ≤ c ∧ c < 47)) σ σ87 := tw_F_up hFσ84 eσ87 (show (31 ≤ 31 ∧ 31 < 47) from (by decide))
        refine j_iload_n (pc := 51) dX11_image_51 rfl rfl ?_
        have fin : ((i = 0 ∧ CPY 31 23 σ σ87 ∧ ∀ c j : Nat, 39 ≤ c → σ87 c j = σ c j) ∨ (i = 1 ∧ CPY 39 23 σ σ87 ∧ ∀ c j : Nat, c < 39 → σ87 c j = σ c j) ∨ (¬ (i = 0 ∨ i = 1) ∧ ∀ c j, σ87 c j = σ c j)) := by
          first
          | exact Or.inl ⟨by omega, ⟨(tw_ne1 eσ87 (by (first | decide | omega))).trans cpy9.1, fun k j k1 k2 k3 => (tw_ne1 eσ87 (by (first | decide | omega))).trans (cpy9.2.1 k j k1 k2 k3), fun j hj => (tw_ne1 eσ87 (by (first | decide | omega))).trans (cpy9.2.2.1 j hj), (tw_ne1 eσ87 (by (first | decide | omega))).trans cpy9.2.2.2.1, (tw_ne1 eσ87 (by (first | decide | omega))).trans cpy9.2.2.2.2⟩, fun c j h => (tw_ne1 eσ87 (by (first | decide | omega))).trans (hGσ84 c j (show ¬ ((31 ≤ c ∧ c < 39)) from by omega))⟩
          | exact Or.inr (Or.inl ⟨by omega, ⟨(tw_ne1 eσ87 (by (first | decide | omega))).trans cpy9.1, fun k j k1 k2 k3 => (tw_ne1 eσ87 (by (first | decide | omega))).trans (cpy9.2.1 k j k1 k2 k3), fun j hj => (tw_ne1 eσ87 (by (first | decide | omega))).trans (cpy9.2.2.1 j hj), (tw_ne1 eσ87 (by (first | decide | omega))).trans cpy9.2.2.2.1, (tw_ne1 eσ87 (by (first | decide | omega))).trans cpy9.2.2.2.2⟩, fun c j h => (tw_ne1 eσ87 (by (first | decide | omega))).trans (hGσ84 c j (show ¬ ((31 ≤ c ∧ c < 39)) from by omega))⟩)
        have y88 : σ87 31 6 = 1 := (tw_eq1 eσ87)
        have y89 : σ87 39 6 = σ 39 6 := ((tw_ne1 eσ87 (by (first | decide | omega)))).trans (hGσ84 39 6 (show ¬ ((31 ≤ 39 ∧ 39 < 39)) from by decide))
        have f90 : (0 : Int) ≤ σ 39 6 ∧ σ 39 6 ≤ 1 := hI 39 6
        have y91 : σ87 37 0 = σ84 37 0 := (tw_ne1 eσ87 (by (first | decide | omega)))
        have f92 : (0 : Int) ≤ σ84 37 0 ∧ σ84 37 0 ≤ 999 := hIσ84 37 0
        have y93 : σ87 38 0 = σ84 38 0 := (tw_ne1 eσ87 (by (first | decide | omega)))
        have f94 : (-2147483648 : Int) ≤ σ84 38 0 ∧ σ84 38 0 ≤ 2147483647 := hIσ84 38 0
        have y95 : σ87 37 1 = σ84 37 1 := (tw_ne1 eσ87 (by (first | decide | omega)))
        have f96 : (0 : Int) ≤ σ84 37 1 ∧ σ84 37 1 ≤ 999 := hIσ84 37 1
        have y97 : σ87 38 1 = σ84 38 1 := (tw_ne1 eσ87 (by (first | decide | omega)))
        have f98 : (-2147483648 : Int) ≤ σ84 38 1 ∧ σ84 38 1 ≤ 2147483647 := hIσ84 38 1
        have y99 : σ87 45 0 = σ 45 0 := ((tw_ne1 eσ87 (by (first | decide | omega)))).trans (hGσ84 45 0 (show ¬ ((31 ≤ 45 ∧ 45 < 39)) from by decide))
        have f100 : (0 : Int) ≤ σ 45 0 ∧ σ 45 0 ≤ 999 := hI 45 0
        have y101 : σ87 46 0 = σ 46 0 := ((tw_ne1 eσ87 (by (first | decide | omega)))).trans (hGσ84 46 0 (show ¬ ((31 ≤ 46 ∧ 46 < 39)) from by decide))
        have f102 : (-2147483648 : Int) ≤ σ 46 0 ∧ σ 46 0 ≤ 2147483647 := hI 46 0
        have y103 : σ87 45 1 = σ 45 1 := ((tw_ne1 eσ87 (by (first | decide | omega)))).trans (hGσ84 45 1 (show ¬ ((31 ≤ 45 ∧ 45 < 39)) from by decide))
        have f104 : (0 : Int) ≤ σ 45 1 ∧ σ 45 1 ≤ 999 := hI 45 1
        have y105 : σ87 46 1 = σ 46 1 := ((tw_ne1 eσ87 (by (first | decide | omega)))).trans (hGσ84 46 1 (show ¬ ((31 ≤ 46 ∧ 46 < 39)) from by decide))
        have f106 : (-2147483648 : Int) ≤ σ 46 1 ∧ σ 46 1 ≤ 2147483647 := hI 46 1
        exact j_iret (pc := 52) ⟨rfl, rfl⟩ dX11_image_52 rfl ⟨_, rfl, ⟨by omega, by omega⟩, hIσ87, hFσ87, by omega, by omega, by omega, by omega, by omega, by omega, by omega, by omega, by omega, fin⟩
  · refine j_iconst (pc := 7) dX11_image_7 ?_
    have fin : ((i = 0 ∧ CPY 31 23 σ σ ∧ ∀ c j : Nat, 39 ≤ c → σ c j = σ c j) ∨ (i = 1 ∧ CPY 39 23 σ σ ∧ ∀ c j : Nat, c < 39 → σ c j = σ c j) ∨ (¬ (i = 0 ∨ i = 1) ∧ ∀ c j, σ c j = σ c j)) := Or.inr (Or.inr ⟨by omega, fun c j => rfl⟩)
    exact j_iret (pc := 8) ⟨rfl, rfl⟩ dX11_image_8 rfl ⟨_, rfl, ⟨by omega, by omega⟩, hI, (tw_F_rf), by omega, by omega, by omega, by omega, by omega, by omega, by omega, by omega, by omega, fin⟩
