/-! 21aj.main -/
theorem dX11_tried_0 : decode cX11_tried 0 = .ok (.iload_n 1, 1) := by decide +kernel
theorem dX11_tried_1 : decode cX11_tried 1 = .ok (.invokestatic 242, 3) := by decide +kernel
theorem dX11_tried_4 : decode cX11_tried 4 = .ok (.ifCond .ne 5, 3) := by decide +kernel
theorem dX11_tried_7 : decode cX11_tried 7 = .ok (.iconst (-1), 1) := by decide +kernel
theorem dX11_tried_8 : decode cX11_tried 8 = .ok (.ireturn, 1) := by decide +kernel
theorem dX11_tried_9 : decode cX11_tried 9 = .ok (.aload_n 0, 1) := by decide +kernel
theorem dX11_tried_10 : decode cX11_tried 10 = .ok (.getfield 26, 3) := by decide +kernel
theorem dX11_tried_13 : decode cX11_tried 13 = .ok (.invokevirtual 359, 3) := by decide +kernel
theorem dX11_tried_16 : decode cX11_tried 16 = .ok (.sipush 999, 3) := by decide +kernel
theorem dX11_tried_19 : decode cX11_tried 19 = .ok (.if_icmp .lt 6, 3) := by decide +kernel
theorem dX11_tried_22 : decode cX11_tried 22 = .ok (.bipush (-3), 2) := by decide +kernel
theorem dX11_tried_24 : decode cX11_tried 24 = .ok (.ireturn, 1) := by decide +kernel
theorem dX11_tried_25 : decode cX11_tried 25 = .ok (.aload_n 0, 1) := by decide +kernel
theorem dX11_tried_26 : decode cX11_tried 26 = .ok (.getfield 26, 3) := by decide +kernel
theorem dX11_tried_29 : decode cX11_tried 29 = .ok (.getfield 362, 3) := by decide +kernel
theorem dX11_tried_32 : decode cX11_tried 32 = .ok (.iload_n 1, 1) := by decide +kernel
theorem dX11_tried_33 : decode cX11_tried 33 = .ok (.dup2, 1) := by decide +kernel
theorem dX11_tried_34 : decode cX11_tried 34 = .ok (.iaload, 1) := by decide +kernel
theorem dX11_tried_35 : decode cX11_tried 35 = .ok (.iconst 1, 1) := by decide +kernel
theorem dX11_tried_36 : decode cX11_tried 36 = .ok (.iadd, 1) := by decide +kernel
theorem dX11_tried_37 : decode cX11_tried 37 = .ok (.iastore, 1) := by decide +kernel
theorem dX11_tried_38 : decode cX11_tried 38 = .ok (.iload_n 2, 1) := by decide +kernel
theorem dX11_tried_39 : decode cX11_tried 39 = .ok (.ifCond .eq 16, 3) := by decide +kernel
theorem dX11_tried_42 : decode cX11_tried 42 = .ok (.aload_n 0, 1) := by decide +kernel
theorem dX11_tried_43 : decode cX11_tried 43 = .ok (.getfield 26, 3) := by decide +kernel
theorem dX11_tried_46 : decode cX11_tried 46 = .ok (.getfield 365, 3) := by decide +kernel
theorem dX11_tried_49 : decode cX11_tried 49 = .ok (.iload_n 1, 1) := by decide +kernel
theorem dX11_tried_50 : decode cX11_tried 50 = .ok (.dup2, 1) := by decide +kernel
theorem dX11_tried_51 : decode cX11_tried 51 = .ok (.iaload, 1) := by decide +kernel
theorem dX11_tried_52 : decode cX11_tried 52 = .ok (.iconst 1, 1) := by decide +kernel
theorem dX11_tried_53 : decode cX11_tried 53 = .ok (.iadd, 1) := by decide +kernel
theorem dX11_tried_54 : decode cX11_tried 54 = .ok (.iastore, 1) := by decide +kernel
theorem dX11_tried_55 : decode cX11_tried 55 = .ok (.aload_n 0, 1) := by decide +kernel
theorem dX11_tried_56 : decode cX11_tried 56 = .ok (.getfield 26, 3) := by decide +kernel
theorem dX11_tried_59 : decode cX11_tried 59 = .ok (.getfield 362, 3) := by decide +kernel
theorem dX11_tried_62 : decode cX11_tried 62 = .ok (.iload_n 1, 1) := by decide +kernel
theorem dX11_tried_63 : decode cX11_tried 63 = .ok (.iaload, 1) := by decide +kernel
theorem dX11_tried_64 : decode cX11_tried 64 = .ok (.ireturn, 1) := by decide +kernel
abbrev q_X11_tried (s : Int) (b : Int) (σ : tw_M) : Option tw_V → tw_M → Prop := fun z τ => ∃ r : Int, z = some (vI r) ∧ (-2147483648 ≤ r ∧ r ≤ 2147483647) ∧ tw_I τ ∧ tw_F (fun c j => (29 ≤ c ∧ c < 31)) σ τ ∧ ((r = -1 ∧ ¬ (s = 0 ∨ s = 1) ∧ τ 29 0 = σ 29 0 ∧ τ 30 0 = σ 30 0 ∧ τ 29 1 = σ 29 1 ∧ τ 30 1 = σ 30 1) ∨ (r = -3 ∧ (s = 0 ∨ s = 1) ∧ 999 ≤ σ 29 0 + σ 29 1 ∧ τ 29 0 = σ 29 0 ∧ τ 30 0 = σ 30 0 ∧ τ 29 1 = σ 29 1 ∧ τ 30 1 = σ 30 1) ∨ (s = 0 ∧ σ 29 0 + σ 29 1 < 999 ∧ r = σ 29 0 + 1 ∧ τ 29 0 = σ 29 0 + 1 ∧ (2147483647 ≤ σ 30 0 ∨ τ 30 0 = σ 30 0 + b) ∧ τ 29 1 = σ 29 1 ∧ τ 30 1 = σ 30 1) ∨ (s = 1 ∧ σ 29 0 + σ 29 1 < 999 ∧ r = σ 29 1 + 1 ∧ τ 29 1 = σ 29 1 + 1 ∧ (2147483647 ≤ σ 30 1 ∨ τ 30 1 = σ 30 1 + b) ∧ τ 29 0 = σ 29 0 ∧ τ 30 0 = σ 30 0))
set_option maxHeartbeats 4000000 in
set_option maxRecDepth 100000 in
theorem c_X11_tried {G : tw_G} (hX : tw_isX G) (s : Int) (hs : -2147483648 ≤ s ∧ s ≤ 2147483647) (b : Int) (hb : 0 ≤ b ∧ b ≤ 1) (σ : tw_M) (hI : tw_I σ) : tw_C G yX11_tried cX11_tried 3 (some .int) 1 [vR 0, vI s, vI b] σ (q_X11_tried s b σ) := by
  refine tw_met [(0, vR 0), (1, vI s), (2, vI b)] (by decide +kernel) rfl (Nat.le_of_ble_eq_true rfl) ?_
  refine j_iload_n (pc := 0) dX11_tried_0 rfl rfl ?_
  refine j_callS (pc := 1) (As := [vI s]) (st := []) (c_X11_isPart s ⟨by omega, by omega⟩ σ hI) ms_X11_242 rfl dX11_tried_1 ⟨Nat.le_of_ble_eq_true rfl, Nat.le_of_ble_eq_true rfl⟩ ⟨Nat.le_refl _, Nat.le_refl _⟩ rfl (Nat.le_of_ble_eq_true rfl) rfl (fun z1 σ2 hz1 => ?_)
  obtain ⟨r4, rfl, hr4, rfl, q3_0⟩ := hz1
  replace q3_0 : (r4 = 1 ∧ (s = 0 ∨ s = 1)) ∨ (r4 = 0 ∧ ¬ s = 0 ∧ ¬ s = 1) := q3_0
  refine j_st (st' := [vI r4]) rfl ?_
  refine j_ifR_ne (pc := 4) (tgt := 9) ⟨by omega, by omega⟩ dX11_tried_4 rfl (fun h5 => ?_) (fun h5 => ?_)
  · refine j_aload_n (pc := 9) dX11_tried_9 rfl rfl ?_
    refine j_getR (pc := 10) (r := 23) fl_X11_26 dX11_tried_10 (a_0 hX) rfl ?_
    refine j_callV (pc := 13) (As := []) (st := []) (c_X3_tries 23 (s_Hand_23 hX) σ hI) mv_X11_359 rfl rfl rfl (a_23 hX) dX11_tried_13 ⟨Nat.le_of_ble_eq_true rfl, Nat.le_of_ble_eq_true rfl⟩ ⟨Nat.le_refl _, Nat.le_refl _⟩ rfl (Nat.le_of_ble_eq_true rfl) rfl (fun z6 σ7 hz6 => ?_)
    obtain ⟨r9, rfl, hr9, rfl, q8_0⟩ := hz6
    replace q8_0 : r9 = σ 29 0 + σ 29 1 := q8_0
    refine j_st (st' := [vI r9]) rfl ?_
    refine j_sipush (pc := 16) dX11_tried_16 rfl ?_
    refine j_icmpR_lt (pc := 19) (tgt := 25) ⟨by omega, by omega⟩ ⟨by omega, by omega⟩ dX11_tried_19 rfl (fun h10 => ?_) (fun h10 => ?_)
    · refine j_aload_n (pc := 25) dX11_tried_25 rfl rfl ?_
      refine j_getR (pc := 26) (r := 23) fl_X11_26 dX11_tried_26 (a_0 hX) rfl ?_
      refine j_getR (pc := 29) (r := 29) fl_X11_362 dX11_tried_29 (a_23 hX) rfl ?_
      refine j_iload_n (pc := 32) dX11_tried_32 rfl rfl ?_
      refine j_dup2 (pc := 33) dX11_tried_33 rfl rfl ?_
      have hx : σ 29 s.toNat ≤ σ 29 0 + σ 29 1 := by
          have x0 : (0 : Int) ≤ σ 29 0 ∧ σ 29 0 ≤ 999 := hI 29 0
          have x1 : (0 : Int) ≤ σ 29 1 ∧ σ 29 1 ≤ 999 := hI 29 1
          rcases (show s = 0 ∨ s = 1 by omega) with h | h <;> subst h
          · show σ 29 0 ≤ _; omega
          · show σ 29 1 ≤ _; omega
      refine j_iald (pc := 34) dX11_tried_34 (a_29 hX) (by omega) (by omega) (by decide) ?_
      have f11 : (0 : Int) ≤ σ 29 (s.toNat) ∧ σ 29 (s.toNat) ≤ 999 := hI 29 (s.toNat)
      refine j_iconst (pc := 35) dX11_tried_35 ?_
      refine j_iadd (pc := 36) dX11_tried_36 ?_
      refine j_iast (pc := 37) dX11_tried_37 (a_29 hX) (by omega) (by omega) (by decide) (j_nm (fun σ12 (eσ12 : σ12 = tw_up σ 29 (s.toNat) ((σ 29 (s.toNat)) + 1)) => ?_))
      have hIσ12 : tw_I σ12 := tw_I_up hI eσ12 (show (0 : Int) ≤ (σ 29 (s.toNat)) + 1 ∧ (σ 29 (s.toNat)) + 1 ≤ 999 from ⟨by omega, by omega⟩)
      have hFσ12 : tw_F (fun c j => (29 ≤ c ∧ c < 31)) σ σ12 := tw_F_up (tw_F_rf) eσ12 (show (29 ≤ 29 ∧ 29 < 31) from (by decide))
      have y1 := tri4 (p := 0) (q := 1) (a := 7) (b := 8) (s := s) eσ12 (by omega) (by decide)
      refine j_iload_n (pc := 38) dX11_tried_38 rfl rfl ?_
      refine j_ifR_eq (pc := 39) (tgt := 55) ⟨by omega, by omega⟩ dX11_tried_39 rfl (fun h13 => ?_) (fun h13 => ?_)
      · refine j_aload_n (pc := 55) dX11_tried_55 rfl rfl ?_
        refine j_getR (pc := 56) (r := 23) fl_X11_26 dX11_tried_56 (a_0 hX) rfl ?_
        refine j_getR (pc := 59) (r := 29) fl_X11_362 dX11_tried_59 (a_23 hX) rfl ?_
        refine j_iload_n (pc := 62) dX11_tried_62 rfl rfl ?_
        refine j_iald (pc := 63) dX11_tried_63 (a_29 hX) (by omega) (by omega) (by decide) ?_
        refine j_topV (show σ12 29 (s.toNat) = (σ 29 (s.toNat)) + 1 from (tw_eq1 eσ12)) ?_
        have y3 := tri_at (τ := σ12) (c := 29) (s := s) (p := 0) (q := 1) (j := s.toNat) (by omega)
        have y6 := tri_at (τ := σ) (c := 29) (s := s) (p := 0) (q := 1) (j := s.toNat) (by omega)
        have y7 := tri_at (τ := σ) (c := 30) (s := s) (p := 0) (q := 1) (j := s.toNat) (by omega)
        skip
        skip
        have y14 : σ12 30 0 = σ 30 0 := (tw_ne1 eσ12 (by (first | decide | omega)))
        have y15 : σ12 30 1 = σ 30 1 := (tw_ne1 eσ12 (by (first | decide | omega)))
        have kk : (s = 0 ∧ σ 29 0 + σ 29 1 < 999 ∧ ((σ 29 (s.toNat)) + 1) = σ 29 0 + 1 ∧ σ12 29 0 = σ 29 0 + 1 ∧ (2147483647 ≤ σ 30 0 ∨ σ12 30 0 = σ 30 0 + b) ∧ σ12 29 1 = σ 29 1 ∧ σ12 30 1 = σ 30 1) ∨ (s = 1 ∧ σ 29 0 + σ 29 1 < 999 ∧ ((σ 29 (s.toNat)) + 1) = σ 29 1 + 1 ∧ σ12 29 1 = σ 29 1 + 1 ∧ (2147483647 ≤ σ 30 1 ∨ σ12 30 1 = σ 30 1 + b) ∧ σ12 29 0 = σ 29 0 ∧ σ12 30 0 = σ 30 0) := by
          rcases (show s = 0 ∨ s = 1 by omega) with q | q
          · exact Or.inl ⟨q, by omega, by omega, by omega, by omega, by omega, by omega⟩
          · exact Or.inr ⟨q, by omega, by omega, by omega, by omega, by omega, by omega⟩
        have y16 : σ12 30 0 = σ 30 0 := (tw_ne1 eσ12 (by (first | decide | omega)))
        have f17 : (-2147483648 : Int) ≤ σ 30 0 ∧ σ 30 0 ≤ 2147483647 := hI 30 0
        have y18 : σ12 30 1 = σ 30 1 := (tw_ne1 eσ12 (by (first | decide | omega)))
        have f19 : (-2147483648 : Int) ≤ σ 30 1 ∧ σ 30 1 ≤ 2147483647 := hI 30 1
        exact j_iret (pc := 64) ⟨rfl, rfl⟩ dX11_tried_64 rfl ⟨_, rfl, ⟨by omega, by omega⟩, hIσ12, hFσ12, (by first | exact Or.inr (Or.inr kk) | omega)⟩
      · refine j_aload_n (pc := 42) dX11_tried_42 rfl rfl ?_
        refine j_getR (pc := 43) (r := 23) fl_X11_26 dX11_tried_43 (a_0 hX) rfl ?_
        refine j_getR (pc := 46) (r := 30) fl_X11_365 dX11_tried_46 (a_23 hX) rfl ?_
        refine j_iload_n (pc := 49) dX11_tried_49 rfl rfl ?_
        refine j_dup2 (pc := 50) dX11_tried_50 rfl rfl ?_
        refine j_iald (pc := 51) dX11_tried_51 (a_30 hX) (by omega) (by omega) (by decide) ?_
        refine j_topV (show σ12 30 (s.toNat) = σ 30 (s.toNat) from (tw_ne1 eσ12 (by (first | decide | omega)))) ?_
        have f20 : (-2147483648 : Int) ≤ σ 30 (s.toNat) ∧ σ 30 (s.toNat) ≤ 2147483647 := hI 30 (s.toNat)
        refine j_iconst (pc := 52) dX11_tried_52 ?_
        refine j_iadd (pc := 53) dX11_tried_53 ?_
        refine j_top (fun z21 ez21 hz21 => ?_)
        have gz21 : (σ 30 (s.toNat)) + 1 < -2147483648 ∨ 2147483647 < (σ 30 (s.toNat)) + 1 ∨ z21 = (σ 30 (s.toNat)) + 1 := by rw [ez21]; exact w32_or _
        refine j_iast (pc := 54) dX11_tried_54 (a_30 hX) (by omega) (by omega) (by decide) (j_nm (fun σ22 (eσ22 : σ22 = tw_up σ12 30 (s.toNat) z21) => ?_))
        have hIσ22 : tw_I σ22 := tw_I_up hIσ12 eσ22 (show (-2147483648 : Int) ≤ z21 ∧ z21 ≤ 2147483647 from ⟨by omega, by omega⟩)
        have hFσ22 : tw_F (fun c j => (29 ≤ c ∧ c < 31)) σ σ22 := tw_F_up hFσ12 eσ22 (show (29 ≤ 30 ∧ 30 < 31) from (by decide))
        have y2 := tri4 (p := 0) (q := 1) (a := 7) (b := 8) (s := s) eσ22 (by omega) (by decide)
        have y4 : σ12 30 0 = σ 30 0 := (tw_ne1 eσ12 (by (first | decide | omega)))
        have y5 : σ12 30 1 = σ 30 1 := (tw_ne1 eσ12 (by (first | decide | omega)))
        refine j_aload_n (pc := 55) dX11_tried_55 rfl rfl ?_
        refine j_getR (pc := 56) (r := 23) fl_X11_26 dX11_tried_56 (a_0 hX) rfl ?_
        refine j_getR (pc := 59) (r := 29) fl_X11_362 dX11_tried_59 (a_23 hX) rfl ?_
        refine j_iload_n (pc := 62) dX11_tried_62 rfl rfl ?_
        refine j_iald (pc := 63) dX11_tried_63 (a_29 hX) (by omega) (by omega) (by decide) ?_
        refine j_topV (show σ22 29 (s.toNat) = (σ 29 (s.toNat)) + 1 from ((tw_ne1 eσ22 (by (first | decide | omega)))).trans (tw_eq1 eσ12)) ?_
        have y3 := tri_at (τ := σ22) (c := 29) (s := s) (p := 0) (q := 1) (j := s.toNat) (by omega)
        have y6 := tri_at (τ := σ) (c := 29) (s := s) (p := 0) (q := 1) (j := s.toNat) (by omega)
        have y7 := tri_at (τ := σ) (c := 30) (s := s) (p := 0) (q := 1) (j := s.toNat) (by omega)
        have y23 : σ22 29 0 = σ12 29 0 := (tw_ne1 eσ22 (by (first | decide | omega)))
        have y24 : σ22 29 1 = σ12 29 1 := (tw_ne1 eσ22 (by (first | decide | omega)))
        skip
        skip
        have kk : (s = 0 ∧ σ 29 0 + σ 29 1 < 999 ∧ ((σ 29 (s.toNat)) + 1) = σ 29 0 + 1 ∧ σ22 29 0 = σ 29 0 + 1 ∧ (2147483647 ≤ σ 30 0 ∨ σ22 30 0 = σ 30 0 + b) ∧ σ22 29 1 = σ 29 1 ∧ σ22 30 1 = σ 30 1) ∨ (s = 1 ∧ σ 29 0 + σ 29 1 < 999 ∧ ((σ 29 (s.toNat)) + 1) = σ 29 1 + 1 ∧ σ22 29 1 = σ 29 1 + 1 ∧ (2147483647 ≤ σ 30 1 ∨ σ22 30 1 = σ 30 1 + b) ∧ σ22 29 0 = σ 29 0 ∧ σ22 30 0 = σ 30 0) := by
          rcases (show s = 0 ∨ s = 1 by omega) with q | q
          · exact Or.inl ⟨q, by omega, by omega, by omega, by omega, by omega, by omega⟩
          · exact Or.inr ⟨q, by omega, by omega, by omega, by omega, by omega, by omega⟩
        have y25 : σ22 29 0 = σ12 29 0 := (tw_ne1 eσ22 (by (first | decide | omega)))
        have f26 : (0 : Int) ≤ σ12 29 0 ∧ σ12 29 0 ≤ 999 := hIσ12 29 0
        have y27 : σ22 29 1 = σ12 29 1 := (tw_ne1 eσ22 (by (first | decide | omega)))
        have f28 : (0 : Int) ≤ σ12 29 1 ∧ σ12 29 1 ≤ 999 := hIσ12 29 1
        exact j_iret (pc := 64) ⟨rfl, rfl⟩ dX11_tried_64 rfl ⟨_, rfl, ⟨by omega, by omega⟩, hIσ22, hFσ22, (by first | exact Or.inr (Or.inr kk) | omega)⟩
    · refine j_bipush (pc := 22) dX11_tried_22 rfl ?_
      exact j_iret (pc := 24) ⟨rfl, rfl⟩ dX11_tried_24 rfl ⟨_, rfl, ⟨by omega, by omega⟩, hI, (tw_F_rf), (by first | exact Or.inr (Or.inr kk) | omega)⟩
  · refine j_iconst (pc := 7) dX11_tried_7 ?_
    exact j_iret (pc := 8) ⟨rfl, rfl⟩ dX11_tried_8 rfl ⟨_, rfl, ⟨by omega, by omega⟩, hI, (tw_F_rf), (by first | exact Or.inr (Or.inr kk) | omega)⟩
