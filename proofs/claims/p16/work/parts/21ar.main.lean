/-! 21ar.main -/
theorem dX11_sheet_0 : decode cX11_sheet 0 = .ok (.aload_n 0, 1) := by decide +kernel
theorem dX11_sheet_1 : decode cX11_sheet 1 = .ok (.iload_n 1, 1) := by decide +kernel
theorem dX11_sheet_2 : decode cX11_sheet 2 = .ok (.invokevirtual 401, 3) := by decide +kernel
theorem dX11_sheet_5 : decode cX11_sheet 5 = .ok (.ifCond .eq 16, 3) := by decide +kernel
theorem dX11_sheet_8 : decode cX11_sheet 8 = .ok (.iload_n 2, 1) := by decide +kernel
theorem dX11_sheet_9 : decode cX11_sheet 9 = .ok (.invokestatic 404, 3) := by decide +kernel
theorem dX11_sheet_12 : decode cX11_sheet 12 = .ok (.ifCond .eq 9, 3) := by decide +kernel
theorem dX11_sheet_15 : decode cX11_sheet 15 = .ok (.iload_n 3, 1) := by decide +kernel
theorem dX11_sheet_16 : decode cX11_sheet 16 = .ok (.bipush 40, 2) := by decide +kernel
theorem dX11_sheet_18 : decode cX11_sheet 18 = .ok (.if_icmp .le 5, 3) := by decide +kernel
theorem dX11_sheet_21 : decode cX11_sheet 21 = .ok (.iconst (-1), 1) := by decide +kernel
theorem dX11_sheet_22 : decode cX11_sheet 22 = .ok (.ireturn, 1) := by decide +kernel
theorem dX11_sheet_23 : decode cX11_sheet 23 = .ok (.iload_n 3, 1) := by decide +kernel
theorem dX11_sheet_24 : decode cX11_sheet 24 = .ok (.ifCond .ge 6, 3) := by decide +kernel
theorem dX11_sheet_27 : decode cX11_sheet 27 = .ok (.bipush (-14), 2) := by decide +kernel
theorem dX11_sheet_29 : decode cX11_sheet 29 = .ok (.ireturn, 1) := by decide +kernel
theorem dX11_sheet_30 : decode cX11_sheet 30 = .ok (.aload_n 0, 1) := by decide +kernel
theorem dX11_sheet_31 : decode cX11_sheet 31 = .ok (.getfield 87, 3) := by decide +kernel
theorem dX11_sheet_34 : decode cX11_sheet 34 = .ok (.iload_n 1, 1) := by decide +kernel
theorem dX11_sheet_35 : decode cX11_sheet 35 = .ok (.aaload, 1) := by decide +kernel
theorem dX11_sheet_36 : decode cX11_sheet 36 = .ok (.iload_n 2, 1) := by decide +kernel
theorem dX11_sheet_37 : decode cX11_sheet 37 = .ok (.iload_n 3, 1) := by decide +kernel
theorem dX11_sheet_38 : decode cX11_sheet 38 = .ok (.invokevirtual 407, 3) := by decide +kernel
theorem dX11_sheet_41 : decode cX11_sheet 41 = .ok (.iconst 1, 1) := by decide +kernel
theorem dX11_sheet_42 : decode cX11_sheet 42 = .ok (.ireturn, 1) := by decide +kernel
abbrev q_X11_sheet (k : Int) (l : Int) (n : Int) (σ : tw_M) : Option tw_V → tw_M → Prop := fun z τ => ∃ r : Int, z = some (vI r) ∧ (-2147483648 ≤ r ∧ r ≤ 2147483647) ∧ tw_I τ ∧ tw_F (fun c j => (80 ≤ c ∧ c < 88)) σ τ ∧ ((r = -1 ∧ (¬ (0 ≤ k ∧ k ≤ 3 ∧ 0 ≤ l ∧ l ≤ 2) ∨ 40 < n)) ∨ (r = -14 ∧ 0 ≤ k ∧ k ≤ 3 ∧ 0 ≤ l ∧ l ≤ 2 ∧ n < 0) ∨ (r = 1 ∧ 0 ≤ k ∧ k ≤ 3 ∧ 0 ≤ l ∧ l ≤ 2 ∧ 0 ≤ n ∧ n ≤ 40)) ∧ ((k = 0 ∧ r = 1 ∧ τ 80 1 = 1 ∧ τ 80 3 = n) ∨ (¬ (k = 0 ∧ r = 1) ∧ τ 80 1 = σ 80 1 ∧ τ 80 3 = σ 80 3)) ∧ ((k = 1 ∧ r = 1 ∧ τ 82 1 = 1 ∧ τ 82 3 = n) ∨ (¬ (k = 1 ∧ r = 1) ∧ τ 82 1 = σ 82 1 ∧ τ 82 3 = σ 82 3)) ∧ ((k = 2 ∧ r = 1 ∧ τ 84 1 = 1 ∧ τ 84 3 = n) ∨ (¬ (k = 2 ∧ r = 1) ∧ τ 84 1 = σ 84 1 ∧ τ 84 3 = σ 84 3)) ∧ ((k = 3 ∧ r = 1 ∧ τ 86 1 = 1 ∧ τ 86 3 = n) ∨ (¬ (k = 3 ∧ r = 1) ∧ τ 86 1 = σ 86 1 ∧ τ 86 3 = σ 86 3)) ∧ ((k = 0 ∧ r = 1 ∧ τ 80 2 = l ∧ ∀ j : Nat, j < 40 → τ 81 j = 0) ∨ (¬ (k = 0 ∧ r = 1) ∧ τ 80 2 = σ 80 2 ∧ ∀ j : Nat, τ 81 j = σ 81 j)) ∧ ((k = 1 ∧ r = 1 ∧ τ 82 2 = l ∧ ∀ j : Nat, j < 40 → τ 83 j = 0) ∨ (¬ (k = 1 ∧ r = 1) ∧ τ 82 2 = σ 82 2 ∧ ∀ j : Nat, τ 83 j = σ 83 j)) ∧ ((k = 2 ∧ r = 1 ∧ τ 84 2 = l ∧ ∀ j : Nat, j < 40 → τ 85 j = 0) ∨ (¬ (k = 2 ∧ r = 1) ∧ τ 84 2 = σ 84 2 ∧ ∀ j : Nat, τ 85 j = σ 85 j)) ∧ ((k = 3 ∧ r = 1 ∧ τ 86 2 = l ∧ ∀ j : Nat, j < 40 → τ 87 j = 0) ∨ (¬ (k = 3 ∧ r = 1) ∧ τ 86 2 = σ 86 2 ∧ ∀ j : Nat, τ 87 j = σ 87 j))
set_option maxHeartbeats 4000000 in
set_option maxRecDepth 100000 in
theorem c_X11_sheet {G : tw_G} (hX : tw_isX G) (k : Int) (hk : -2147483648 ≤ k ∧ k ≤ 2147483647) (l : Int) (hl : -2147483648 ≤ l ∧ l ≤ 2147483647) (n : Int) (hn : -2147483648 ≤ n ∧ n ≤ 2147483647) (σ : tw_M) (hI : tw_I σ) : tw_C G yX11_sheet cX11_sheet 4 (some .int) 1 [vR 0, vI k, vI l, vI n] σ (q_X11_sheet k l n σ) := by
  refine tw_met [(0, vR 0), (1, vI k), (2, vI l), (3, vI n)] (by decide +kernel) rfl (Nat.le_of_ble_eq_true rfl) ?_
  refine j_aload_n (pc := 0) dX11_sheet_0 rfl rfl ?_
  refine j_iload_n (pc := 1) dX11_sheet_1 rfl rfl ?_
  refine j_callV (pc := 2) (As := [vI k]) (st := []) (c_X11_isSheet hX k ⟨by omega, by omega⟩ σ hI) mv_X11_401 rfl rfl rfl (a_0 hX) dX11_sheet_2 ⟨Nat.le_of_ble_eq_true rfl, Nat.le_of_ble_eq_true rfl⟩ ⟨Nat.le_refl _, Nat.le_refl _⟩ rfl (Nat.le_of_ble_eq_true rfl) rfl (fun z1 σ2 hz1 => ?_)
  obtain ⟨r4, rfl, hr4, rfl, q3_0⟩ := hz1
  replace q3_0 : (r4 = 1 ∧ 0 ≤ k ∧ k < 4) ∨ (r4 = 0 ∧ ¬ (0 ≤ k ∧ k < 4)) := q3_0
  refine j_st (st' := [vI r4]) rfl ?_
  refine j_ifR_eq (pc := 5) (tgt := 21) ⟨by omega, by omega⟩ dX11_sheet_5 rfl (fun h5 => ?_) (fun h5 => ?_)
  · refine j_iconst (pc := 21) dX11_sheet_21 ?_
    exact j_iret (pc := 22) ⟨rfl, rfl⟩ dX11_sheet_22 rfl ⟨_, rfl, ⟨by omega, by omega⟩, hI, (tw_F_rf), by omega, by omega, by omega, by omega, by omega, (by first | exact Or.inl ⟨by omega, rfl, by omega, q3_3⟩ | exact Or.inr ⟨by omega, by omega, fun j => hG_ 81 j _⟩ | exact Or.inr ⟨by omega, rfl, fun j => rfl⟩), (by first | exact Or.inl ⟨by omega, rfl, by omega, q3_3⟩ | exact Or.inr ⟨by omega, by omega, fun j => hG_ 83 j _⟩ | exact Or.inr ⟨by omega, rfl, fun j => rfl⟩), (by first | exact Or.inl ⟨by omega, rfl, by omega, q3_3⟩ | exact Or.inr ⟨by omega, by omega, fun j => hG_ 85 j _⟩ | exact Or.inr ⟨by omega, rfl, fun j => rfl⟩), (by first | exact Or.inl ⟨by omega, rfl, by omega, q3_3⟩ | exact Or.inr ⟨by omega, by omega, fun j => hG_ 87 j _⟩ | exact Or.inr ⟨by omega, rfl, fun j => rfl⟩)⟩
  · refine j_iload_n (pc := 8) dX11_sheet_8 rfl rfl ?_
    refine j_callS (pc := 9) (As := [vI l]) (st := []) (c_X11_isLane l ⟨by omega, by omega⟩ σ hI) ms_X11_404 rfl dX11_sheet_9 ⟨Nat.le_of_ble_eq_true rfl, Nat.le_of_ble_eq_true rfl⟩ ⟨Nat.le_refl _, Nat.le_refl _⟩ rfl (Nat.le_of_ble_eq_true rfl) rfl (fun z6 σ7 hz6 => ?_)
    obtain ⟨r9, rfl, hr9, rfl, q8_0⟩ := hz6
    replace q8_0 : (r9 = 1 ∧ 0 ≤ l ∧ l ≤ 2) ∨ (r9 = 0 ∧ ¬ (0 ≤ l ∧ l ≤ 2)) := q8_0
    refine j_st (st' := [vI r9]) rfl ?_
    refine j_ifR_eq (pc := 12) (tgt := 21) ⟨by omega, by omega⟩ dX11_sheet_12 rfl (fun h10 => ?_) (fun h10 => ?_)
    · refine j_iconst (pc := 21) dX11_sheet_21 ?_
      exact j_iret (pc := 22) ⟨rfl, rfl⟩ dX11_sheet_22 rfl ⟨_, rfl, ⟨by omega, by omega⟩, hI, (tw_F_rf), by omega, by omega, by omega, by omega, by omega, (by first | exact Or.inl ⟨by omega, rfl, by omega, q8_3⟩ | exact Or.inr ⟨by omega, by omega, fun j => hG_ 81 j _⟩ | exact Or.inr ⟨by omega, rfl, fun j => rfl⟩), (by first | exact Or.inl ⟨by omega, rfl, by omega, q8_3⟩ | exact Or.inr ⟨by omega, by omega, fun j => hG_ 83 j _⟩ | exact Or.inr ⟨by omega, rfl, fun j => rfl⟩), (by first | exact Or.inl ⟨by omega, rfl, by omega, q8_3⟩ | exact Or.inr ⟨by omega, by omega, fun j => hG_ 85 j _⟩ | exact Or.inr ⟨by omega, rfl, fun j => rfl⟩), (by first | exact Or.inl ⟨by omega, rfl, by omega, q8_3⟩ | exact Or.inr ⟨by omega, by omega, fun j => hG_ 87 j _⟩ | exact Or.inr ⟨by omega, rfl, fun j => rfl⟩)⟩
    · refine j_iload_n (pc := 15) dX11_sheet_15 rfl rfl ?_
      refine j_bipush (pc := 16) dX11_sheet_16 rfl ?_
      refine j_icmpR_le (pc := 18) (tgt := 23) ⟨by omega, by omega⟩ ⟨by omega, by omega⟩ dX11_sheet_18 rfl (fun h11 => ?_) (fun h11 => ?_)
      · refine j_iload_n (pc := 23) dX11_sheet_23 rfl rfl ?_
        refine j_ifR_ge (pc := 24) (tgt := 30) ⟨by omega, by omega⟩ dX11_sheet_24 rfl (fun h12 => ?_) (fun h12 => ?_)
        · refine j_aload_n (pc := 30) dX11_sheet_30 rfl rfl ?_
          refine j_getR (pc := 31) (r := 79) fl_X11_87 dX11_sheet_31 (a_0 hX) rfl ?_
          refine j_iload_n (pc := 34) dX11_sheet_34 rfl rfl ?_
          rcases (show k = 0 ∨ k = 1 ∨ k = 2 ∨ k = 3 from by omega) with h13 | h13 | h13 | h13
          · refine j_aald (pc := 35) (r := 80) dX11_sheet_35 (a_79 hX) (by omega) (by rw [h13]; decide) (by rw [h13]; rfl) (by decide) ?_
            refine j_iload_n (pc := 36) dX11_sheet_36 rfl rfl ?_
            refine j_iload_n (pc := 37) dX11_sheet_37 rfl rfl ?_
            refine j_callV (pc := 38) (As := [vI l, vI n]) (st := []) (c_X8_begin 80 (s_Sheet_80 hX) l ⟨by omega, by omega⟩ n ⟨by omega, by omega⟩ σ hI) mv_X11_407 rfl rfl rfl (a_80 hX) dX11_sheet_38 ⟨Nat.le_of_ble_eq_true rfl, Nat.le_of_ble_eq_true rfl⟩ ⟨Nat.le_refl _, Nat.le_refl _⟩ rfl (Nat.le_of_ble_eq_true rfl) rfl (fun z14 σ15 hz14 => ?_)
            obtain ⟨rfl, hIσ15, hGσ15, q16_0, q16_1, q16_2, q16_3⟩ := hz14
            replace q16_0 : σ15 80 1 = 1 := q16_0
            replace q16_1 : σ15 80 2 = l := q16_1
            replace q16_2 : σ15 80 3 = n := q16_2
            replace q16_3 : ∀ j : Nat, j < 40 → σ15 81 j = 0 := q16_3
            have hFσ15 : tw_F (fun c j => (80 ≤ c ∧ c < 88)) σ σ15 := tw_F_tr (tw_F_rf) hGσ15 (fun c j q => (show (80 ≤ c ∧ c < 88) from by replace q : (80 ≤ c ∧ c < 82) := q; exact ⟨Nat.le_trans (by decide) q.1, Nat.lt_of_lt_of_le q.2 (by decide)⟩))
            refine j_st (st' := []) rfl ?_
            refine j_iconst (pc := 41) dX11_sheet_41 ?_
            have y18 : σ15 82 1 = σ 82 1 := (hGσ15 82 1 (show ¬ ((80 ≤ 82 ∧ 82 < 82)) from by decide))
            have f19 : (0 : Int) ≤ σ 82 1 ∧ σ 82 1 ≤ 1 := hI 82 1
            have y20 : σ15 82 3 = σ 82 3 := (hGσ15 82 3 (show ¬ ((80 ≤ 82 ∧ 82 < 82)) from by decide))
            have f21 : (0 : Int) ≤ σ 82 3 ∧ σ 82 3 ≤ 40 := hI 82 3
            have y22 : σ15 84 1 = σ 84 1 := (hGσ15 84 1 (show ¬ ((80 ≤ 84 ∧ 84 < 82)) from by decide))
            have f23 : (0 : Int) ≤ σ 84 1 ∧ σ 84 1 ≤ 1 := hI 84 1
            have y24 : σ15 84 3 = σ 84 3 := (hGσ15 84 3 (show ¬ ((80 ≤ 84 ∧ 84 < 82)) from by decide))
            have f25 : (0 : Int) ≤ σ 84 3 ∧ σ 84 3 ≤ 40 := hI 84 3
            have y26 : σ15 86 1 = σ 86 1 := (hGσ15 86 1 (show ¬ ((80 ≤ 86 ∧ 86 < 82)) from by decide))
            have f27 : (0 : Int) ≤ σ 86 1 ∧ σ 86 1 ≤ 1 := hI 86 1
            have y28 : σ15 86 3 = σ 86 3 := (hGσ15 86 3 (show ¬ ((80 ≤ 86 ∧ 86 < 82)) from by decide))
            have f29 : (0 : Int) ≤ σ 86 3 ∧ σ 86 3 ≤ 40 := hI 86 3
            have y30 : σ15 82 2 = σ 82 2 := (hGσ15 82 2 (show ¬ ((80 ≤ 82 ∧ 82 < 82)) from by decide))
            have f31 : (-2147483648 : Int) ≤ σ 82 2 ∧ σ 82 2 ≤ 2147483647 := hI 82 2
            have y32 : σ15 84 2 = σ 84 2 := (hGσ15 84 2 (show ¬ ((80 ≤ 84 ∧ 84 < 82)) from by decide))
            have f33 : (-2147483648 : Int) ≤ σ 84 2 ∧ σ 84 2 ≤ 2147483647 := hI 84 2
            have y34 : σ15 86 2 = σ 86 2 := (hGσ15 86 2 (show ¬ ((80 ≤ 86 ∧ 86 < 82)) from by decide))
            have f35 : (-2147483648 : Int) ≤ σ 86 2 ∧ σ 86 2 ≤ 2147483647 := hI 86 2
            exact j_iret (pc := 42) ⟨rfl, rfl⟩ dX11_sheet_42 rfl ⟨_, rfl, ⟨by omega, by omega⟩, hIσ15, hFσ15, by omega, by omega, by omega, by omega, by omega, (by first | exact Or.inl ⟨by omega, rfl, by omega, q16_3⟩ | exact Or.inr ⟨by omega, by omega, fun j => hGσ15 81 j (show ¬ ((80 ≤ 81 ∧ 81 < 82)) from by decide)⟩ | exact Or.inr ⟨by omega, rfl, fun j => rfl⟩), (by first | exact Or.inl ⟨by omega, rfl, by omega, q16_3⟩ | exact Or.inr ⟨by omega, by omega, fun j => hGσ15 83 j (show ¬ ((80 ≤ 83 ∧ 83 < 82)) from by decide)⟩ | exact Or.inr ⟨by omega, rfl, fun j => rfl⟩), (by first | exact Or.inl ⟨by omega, rfl, by omega, q16_3⟩ | exact Or.inr ⟨by omega, by omega, fun j => hGσ15 85 j (show ¬ ((80 ≤ 85 ∧ 85 < 82)) from by decide)⟩ | exact Or.inr ⟨by omega, rfl, fun j => rfl⟩), (by first | exact Or.inl ⟨by omega, rfl, by omega, q16_3⟩ | exact Or.inr ⟨by omega, by omega, fun j => hGσ15 87 j (show ¬ ((80 ≤ 87 ∧ 87 < 82)) from by decide)⟩ | exact Or.inr ⟨by omega, rfl, fun j => rfl⟩)⟩
          · refine j_aald (pc := 35) (r := 82) dX11_sheet_35 (a_79 hX) (by omega) (by rw [h13]; decide) (by rw [h13]; rfl) (by decide) ?_
            refine j_iload_n (pc := 36) dX11_sheet_36 rfl rfl ?_
            refine j_iload_n (pc := 37) dX11_sheet_37 rfl rfl ?_
            refine j_callV (pc := 38) (As := [vI l, vI n]) (st := []) (c_X8_begin 82 (s_Sheet_82 hX) l ⟨by omega, by omega⟩ n ⟨by omega, by omega⟩ σ hI) mv_X11_407 rfl rfl rfl (a_82 hX) dX11_sheet_38 ⟨Nat.le_of_ble_eq_true rfl, Nat.le_of_ble_eq_true rfl⟩ ⟨Nat.le_refl _, Nat.le_refl _⟩ rfl (Nat.le_of_ble_eq_true rfl) rfl (fun z36 σ37 hz36 => ?_)
            obtain ⟨rfl, hIσ37, hGσ37, q38_0, q38_1, q38_2, q38_3⟩ := hz36
            replace q38_0 : σ37 82 1 = 1 := q38_0
            replace q38_1 : σ37 82 2 = l := q38_1
            replace q38_2 : σ37 82 3 = n := q38_2
            replace q38_3 : ∀ j : Nat, j < 40 → σ37 83 j = 0 := q38_3
            have hFσ37 : tw_F (fun c j => (80 ≤ c ∧ c < 88)) σ σ37 := tw_F_tr (tw_F_rf) hGσ37 (fun c j q => (show (80 ≤ c ∧ c < 88) from by replace q : (82 ≤ c ∧ c < 84) := q; exact ⟨Nat.le_trans (by decide) q.1, Nat.lt_of_lt_of_le q.2 (by decide)⟩))
            refine j_st (st' := []) rfl ?_
            refine j_iconst (pc := 41) dX11_sheet_41 ?_
            have y40 : σ37 80 1 = σ 80 1 := (hGσ37 80 1 (show ¬ ((82 ≤ 80 ∧ 80 < 84)) from by decide))
            have f41 : (0 : Int) ≤ σ 80 1 ∧ σ 80 1 ≤ 1 := hI 80 1
            have y42 : σ37 80 3 = σ 80 3 := (hGσ37 80 3 (show ¬ ((82 ≤ 80 ∧ 80 < 84)) from by decide))
            have f43 : (0 : Int) ≤ σ 80 3 ∧ σ 80 3 ≤ 40 := hI 80 3
            have y44 : σ37 84 1 = σ 84 1 := (hGσ37 84 1 (show ¬ ((82 ≤ 84 ∧ 84 < 84)) from by decide))
            have f45 : (0 : Int) ≤ σ 84 1 ∧ σ 84 1 ≤ 1 := hI 84 1
            have y46 : σ37 84 3 = σ 84 3 := (hGσ37 84 3 (show ¬ ((82 ≤ 84 ∧ 84 < 84)) from by decide))
            have f47 : (0 : Int) ≤ σ 84 3 ∧ σ 84 3 ≤ 40 := hI 84 3
            have y48 : σ37 86 1 = σ 86 1 := (hGσ37 86 1 (show ¬ ((82 ≤ 86 ∧ 86 < 84)) from by decide))
            have f49 : (0 : Int) ≤ σ 86 1 ∧ σ 86 1 ≤ 1 := hI 86 1
            have y50 : σ37 86 3 = σ 86 3 := (hGσ37 86 3 (show ¬ ((82 ≤ 86 ∧ 86 < 84)) from by decide))
            have f51 : (0 : Int) ≤ σ 86 3 ∧ σ 86 3 ≤ 40 := hI 86 3
            have y52 : σ37 80 2 = σ 80 2 := (hGσ37 80 2 (show ¬ ((82 ≤ 80 ∧ 80 < 84)) from by decide))
            have f53 : (-2147483648 : Int) ≤ σ 80 2 ∧ σ 80 2 ≤ 2147483647 := hI 80 2
            have y54 : σ37 84 2 = σ 84 2 := (hGσ37 84 2 (show ¬ ((82 ≤ 84 ∧ 84 < 84)) from by decide))
            have f55 : (-2147483648 : Int) ≤ σ 84 2 ∧ σ 84 2 ≤ 2147483647 := hI 84 2
            have y56 : σ37 86 2 = σ 86 2 := (hGσ37 86 2 (show ¬ ((82 ≤ 86 ∧ 86 < 84)) from by decide))
            have f57 : (-2147483648 : Int) ≤ σ 86 2 ∧ σ 86 2 ≤ 2147483647 := hI 86 2
            exact j_iret (pc := 42) ⟨rfl, rfl⟩ dX11_sheet_42 rfl ⟨_, rfl, ⟨by omega, by omega⟩, hIσ37, hFσ37, by omega, by omega, by omega, by omega, by omega, (by first | exact Or.inl ⟨by omega, rfl, by omega, q38_3⟩ | exact Or.inr ⟨by omega, by omega, fun j => hGσ37 81 j (show ¬ ((82 ≤ 81 ∧ 81 < 84)) from by decide)⟩ | exact Or.inr ⟨by omega, rfl, fun j => rfl⟩), (by first | exact Or.inl ⟨by omega, rfl, by omega, q38_3⟩ | exact Or.inr ⟨by omega, by omega, fun j => hGσ37 83 j (show ¬ ((82 ≤ 83 ∧ 83 < 84)) from by decide)⟩ | exact Or.inr ⟨by omega, rfl, fun j => rfl⟩), (by first | exact Or.inl ⟨by omega, rfl, by omega, q38_3⟩ | exact Or.inr ⟨by omega, by omega, fun j => hGσ37 85 j (show ¬ ((82 ≤ 85 ∧ 85 < 84)) from by decide)⟩ | exact Or.inr ⟨by omega, rfl, fun j => rfl⟩), (by first | exact Or.inl ⟨by omega, rfl, by omega, q38_3⟩ | exact Or.inr ⟨by omega, by omega, fun j => hGσ37 87 j (show ¬ ((82 ≤ 87 ∧ 87 < 84)) from by decide)⟩ | exact Or.inr ⟨by omega, rfl, fun j => rfl⟩)⟩
          · refine j_aald (pc := 35) (r := 84) dX11_sheet_35 (a_79 hX) (by omega) (by rw [h13]; decide) (by rw [h13]; rfl) (by decide) ?_
            refine j_iload_n (pc := 36) dX11_sheet_36 rfl rfl ?_
            refine j_iload_n (pc := 37) dX11_sheet_37 rfl rfl ?_
            refine j_callV (pc := 38) (As := [vI l, vI n]) (st := []) (c_X8_begin 84 (s_Sheet_84 hX) l ⟨by omega, by omega⟩ n ⟨by omega, by omega⟩ σ hI) mv_X11_407 rfl rfl rfl (a_84 hX) dX11_sheet_38 ⟨Nat.le_of_ble_eq_true rfl, Nat.le_of_ble_eq_true rfl⟩ ⟨Nat.le_refl _, Nat.le_refl _⟩ rfl (Nat.le_of_ble_eq_true rfl) rfl (fun z58 σ59 hz58 => ?_)
            obtain ⟨rfl, hIσ59, hGσ59, q60_0, q60_1, q60_2, q60_3⟩ := hz58
            replace q60_0 : σ59 84 1 = 1 := q60_0
            replace q60_1 : σ59 84 2 = l := q60_1
            replace q60_2 : σ59 84 3 = n := q60_2
            replace q60_3 : ∀ j : Nat, j < 40 → σ59 85 j = 0 := q60_3
            have hFσ59 : tw_F (fun c j => (80 ≤ c ∧ c < 88)) σ σ59 := tw_F_tr (tw_F_rf) hGσ59 (fun c j q => (show (80 ≤ c ∧ c < 88) from by replace q : (84 ≤ c ∧ c < 86) := q; exact ⟨Nat.le_trans (by decide) q.1, Nat.lt_of_lt_of_le q.2 (by decide)⟩))
            refine j_st (st' := []) rfl ?_
            refine j_iconst (pc := 41) dX11_sheet_41 ?_
            have y62 : σ59 80 1 = σ 80 1 := (hGσ59 80 1 (show ¬ ((84 ≤ 80 ∧ 80 < 86)) from by decide))
            have f63 : (0 : Int) ≤ σ 80 1 ∧ σ 80 1 ≤ 1 := hI 80 1
            have y64 : σ59 80 3 = σ 80 3 := (hGσ59 80 3 (show ¬ ((84 ≤ 80 ∧ 80 < 86)) from by decide))
            have f65 : (0 : Int) ≤ σ 80 3 ∧ σ 80 3 ≤ 40 := hI 80 3
            have y66 : σ59 82 1 = σ 82 1 := (hGσ59 82 1 (show ¬ ((84 ≤ 82 ∧ 82 < 86)) from by decide))
            have f67 : (0 : Int) ≤ σ 82 1 ∧ σ 82 1 ≤ 1 := hI 82 1
            have y68 : σ59 82 3 = σ 82 3 := (hGσ59 82 3 (show ¬ ((84 ≤ 82 ∧ 82 < 86)) from by decide))
            have f69 : (0 : Int) ≤ σ 82 3 ∧ σ 82 3 ≤ 40 := hI 82 3
            have y70 : σ59 86 1 = σ 86 1 := (hGσ59 86 1 (show ¬ ((84 ≤ 86 ∧ 86 < 86)) from by decide))
            have f71 : (0 : Int) ≤ σ 86 1 ∧ σ 86 1 ≤ 1 := hI 86 1
            have y72 : σ59 86 3 = σ 86 3 := (hGσ59 86 3 (show ¬ ((84 ≤ 86 ∧ 86 < 86)) from by decide))
            have f73 : (0 : Int) ≤ σ 86 3 ∧ σ 86 3 ≤ 40 := hI 86 3
            have y74 : σ59 80 2 = σ 80 2 := (hGσ59 80 2 (show ¬ ((84 ≤ 80 ∧ 80 < 86)) from by decide))
            have f75 : (-2147483648 : Int) ≤ σ 80 2 ∧ σ 80 2 ≤ 2147483647 := hI 80 2
            have y76 : σ59 82 2 = σ 82 2 := (hGσ59 82 2 (show ¬ ((84 ≤ 82 ∧ 82 < 86)) from by decide))
            have f77 : (-2147483648 : Int) ≤ σ 82 2 ∧ σ 82 2 ≤ 2147483647 := hI 82 2
            have y78 : σ59 86 2 = σ 86 2 := (hGσ59 86 2 (show ¬ ((84 ≤ 86 ∧ 86 < 86)) from by decide))
            have f79 : (-2147483648 : Int) ≤ σ 86 2 ∧ σ 86 2 ≤ 2147483647 := hI 86 2
            exact j_iret (pc := 42) ⟨rfl, rfl⟩ dX11_sheet_42 rfl ⟨_, rfl, ⟨by omega, by omega⟩, hIσ59, hFσ59, by omega, by omega, by omega, by omega, by omega, (by first | exact Or.inl ⟨by omega, rfl, by omega, q60_3⟩ | exact Or.inr ⟨by omega, by omega, fun j => hGσ59 81 j (show ¬ ((84 ≤ 81 ∧ 81 < 86)) from by decide)⟩ | exact Or.inr ⟨by omega, rfl, fun j => rfl⟩), (by first | exact Or.inl ⟨by omega, rfl, by omega, q60_3⟩ | exact Or.inr ⟨by omega, by omega, fun j => hGσ59 83 j (show ¬ ((84 ≤ 83 ∧ 83 < 86)) from by decide)⟩ | exact Or.inr ⟨by omega, rfl, fun j => rfl⟩), (by first | exact Or.inl ⟨by omega, rfl, by omega, q60_3⟩ | exact Or.inr ⟨by omega, by omega, fun j => hGσ59 85 j (show ¬ ((84 ≤ 85 ∧ 85 < 86)) from by decide)⟩ | exact Or.inr ⟨by omega, rfl, fun j => rfl⟩), (by first | exact Or.inl ⟨by omega, rfl, by omega, q60_3⟩ | exact Or.inr ⟨by omega, by omega, fun j => hGσ59 87 j (show ¬ ((84 ≤ 87 ∧ 87 < 86)) from by decide)⟩ | exact Or.inr ⟨by omega, rfl, fun j => rfl⟩)⟩
          · refine j_aald (pc := 35) (r := 86) dX11_sheet_35 (a_79 hX) (by omega) (by rw [h13]; decide) (by rw [h13]; rfl) (by decide) ?_
            refine j_iload_n (pc := 36) dX11_sheet_36 rfl rfl ?_
            refine j_iload_n (pc := 37) dX11_sheet_37 rfl rfl ?_
            refine j_callV (pc := 38) (As := [vI l, vI n]) (st := []) (c_X8_begin 86 (s_Sheet_86 hX) l ⟨by omega, by omega⟩ n ⟨by omega, by omega⟩ σ hI) mv_X11_407 rfl rfl rfl (a_86 hX) dX11_sheet_38 ⟨Nat.le_of_ble_eq_true rfl, Nat.le_of_ble_eq_true rfl⟩ ⟨Nat.le_refl _, Nat.le_refl _⟩ rfl (Nat.le_of_ble_eq_true rfl) rfl (fun z80 σ81 hz80 => ?_)
            obtain ⟨rfl, hIσ81, hGσ81, q82_0, q82_1, q82_2, q82_3⟩ := hz80
            replace q82_0 : σ81 86 1 = 1 := q82_0
            replace q82_1 : σ81 86 2 = l := q82_1
            replace q82_2 : σ81 86 3 = n := q82_2
            replace q82_3 : ∀ j : Nat, j < 40 → σ81 87 j = 0 := q82_3
            have hFσ81 : tw_F (fun c j => (80 ≤ c ∧ c < 88)) σ σ81 := tw_F_tr (tw_F_rf) hGσ81 (fun c j q => (show (80 ≤ c ∧ c < 88) from by replace q : (86 ≤ c ∧ c < 88) := q; exact ⟨Nat.le_trans (by decide) q.1, Nat.lt_of_lt_of_le q.2 (by decide)⟩))
            refine j_st (st' := []) rfl ?_
            refine j_iconst (pc := 41) dX11_sheet_41 ?_
            have y84 : σ81 80 1 = σ 80 1 := (hGσ81 80 1 (show ¬ ((86 ≤ 80 ∧ 80 < 88)) from by decide))
            have f85 : (0 : Int) ≤ σ 80 1 ∧ σ 80 1 ≤ 1 := hI 80 1
            have y86 : σ81 80 3 = σ 80 3 := (hGσ81 80 3 (show ¬ ((86 ≤ 80 ∧ 80 < 88)) from by decide))
            have f87 : (0 : Int) ≤ σ 80 3 ∧ σ 80 3 ≤ 40 := hI 80 3
            have y88 : σ81 82 1 = σ 82 1 := (hGσ81 82 1 (show ¬ ((86 ≤ 82 ∧ 82 < 88)) from by decide))
            have f89 : (0 : Int) ≤ σ 82 1 ∧ σ 82 1 ≤ 1 := hI 82 1
            have y90 : σ81 82 3 = σ 82 3 := (hGσ81 82 3 (show ¬ ((86 ≤ 82 ∧ 82 < 88)) from by decide))
            have f91 : (0 : Int) ≤ σ 82 3 ∧ σ 82 3 ≤ 40 := hI 82 3
            have y92 : σ81 84 1 = σ 84 1 := (hGσ81 84 1 (show ¬ ((86 ≤ 84 ∧ 84 < 88)) from by decide))
            have f93 : (0 : Int) ≤ σ 84 1 ∧ σ 84 1 ≤ 1 := hI 84 1
            have y94 : σ81 84 3 = σ 84 3 := (hGσ81 84 3 (show ¬ ((86 ≤ 84 ∧ 84 < 88)) from by decide))
            have f95 : (0 : Int) ≤ σ 84 3 ∧ σ 84 3 ≤ 40 := hI 84 3
            have y96 : σ81 80 2 = σ 80 2 := (hGσ81 80 2 (show ¬ ((86 ≤ 80 ∧ 80 < 88)) from by decide))
            have f97 : (-2147483648 : Int) ≤ σ 80 2 ∧ σ 80 2 ≤ 2147483647 := hI 80 2
            have y98 : σ81 82 2 = σ 82 2 := (hGσ81 82 2 (show ¬ ((86 ≤ 82 ∧ 82 < 88)) from by decide))
            have f99 : (-2147483648 : Int) ≤ σ 82 2 ∧ σ 82 2 ≤ 2147483647 := hI 82 2
            have y100 : σ81 84 2 = σ 84 2 := (hGσ81 84 2 (show ¬ ((86 ≤ 84 ∧ 84 < 88)) from by decide))
            have f101 : (-2147483648 : Int) ≤ σ 84 2 ∧ σ 84 2 ≤ 2147483647 := hI 84 2
            exact j_iret (pc := 42) ⟨rfl, rfl⟩ dX11_sheet_42 rfl ⟨_, rfl, ⟨by omega, by omega⟩, hIσ81, hFσ81, by omega, by omega, by omega, by omega, by omega, (by first | exact Or.inl ⟨by omega, rfl, by omega, q82_3⟩ | exact Or.inr ⟨by omega, by omega, fun j => hGσ81 81 j (show ¬ ((86 ≤ 81 ∧ 81 < 88)) from by decide)⟩ | exact Or.inr ⟨by omega, rfl, fun j => rfl⟩), (by first | exact Or.inl ⟨by omega, rfl, by omega, q82_3⟩ | exact Or.inr ⟨by omega, by omega, fun j => hGσ81 83 j (show ¬ ((86 ≤ 83 ∧ 83 < 88)) from by decide)⟩ | exact Or.inr ⟨by omega, rfl, fun j => rfl⟩), (by first | exact Or.inl ⟨by omega, rfl, by omega, q82_3⟩ | exact Or.inr ⟨by omega, by omega, fun j => hGσ81 85 j (show ¬ ((86 ≤ 85 ∧ 85 < 88)) from by decide)⟩ | exact Or.inr ⟨by omega, rfl, fun j => rfl⟩), (by first | exact Or.inl ⟨by omega, rfl, by omega, q82_3⟩ | exact Or.inr ⟨by omega, by omega, fun j => hGσ81 87 j (show ¬ ((86 ≤ 87 ∧ 87 < 88)) from by decide)⟩ | exact Or.inr ⟨by omega, rfl, fun j => rfl⟩)⟩
        · refine j_bipush (pc := 27) dX11_sheet_27 rfl ?_
          exact j_iret (pc := 29) ⟨rfl, rfl⟩ dX11_sheet_29 rfl ⟨_, rfl, ⟨by omega, by omega⟩, hI, (tw_F_rf), by omega, by omega, by omega, by omega, by omega, (by first | exact Or.inl ⟨by omega, rfl, by omega, q8_3⟩ | exact Or.inr ⟨by omega, by omega, fun j => hG_ 81 j _⟩ | exact Or.inr ⟨by omega, rfl, fun j => rfl⟩), (by first | exact Or.inl ⟨by omega, rfl, by omega, q8_3⟩ | exact Or.inr ⟨by omega, by omega, fun j => hG_ 83 j _⟩ | exact Or.inr ⟨by omega, rfl, fun j => rfl⟩), (by first | exact Or.inl ⟨by omega, rfl, by omega, q8_3⟩ | exact Or.inr ⟨by omega, by omega, fun j => hG_ 85 j _⟩ | exact Or.inr ⟨by omega, rfl, fun j => rfl⟩), (by first | exact Or.inl ⟨by omega, rfl, by omega, q8_3⟩ | exact Or.inr ⟨by omega, by omega, fun j => hG_ 87 j _⟩ | exact Or.inr ⟨by omega, rfl, fun j => rfl⟩)⟩
      · refine j_iconst (pc := 21) dX11_sheet_21 ?_
        exact j_iret (pc := 22) ⟨rfl, rfl⟩ dX11_sheet_22 rfl ⟨_, rfl, ⟨by omega, by omega⟩, hI, (tw_F_rf), by omega, by omega, by omega, by omega, by omega, (by first | exact Or.inl ⟨by omega, rfl, by omega, q8_3⟩ | exact Or.inr ⟨by omega, by omega, fun j => hG_ 81 j _⟩ | exact Or.inr ⟨by omega, rfl, fun j => rfl⟩), (by first | exact Or.inl ⟨by omega, rfl, by omega, q8_3⟩ | exact Or.inr ⟨by omega, by omega, fun j => hG_ 83 j _⟩ | exact Or.inr ⟨by omega, rfl, fun j => rfl⟩), (by first | exact Or.inl ⟨by omega, rfl, by omega, q8_3⟩ | exact Or.inr ⟨by omega, by omega, fun j => hG_ 85 j _⟩ | exact Or.inr ⟨by omega, rfl, fun j => rfl⟩), (by first | exact Or.inl ⟨by omega, rfl, by omega, q8_3⟩ | exact Or.inr ⟨by omega, by omega, fun j => hG_ 87 j _⟩ | exact Or.inr ⟨by omega, rfl, fun j => rfl⟩)⟩
