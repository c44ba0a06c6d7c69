/-! 20an.main -/
theorem dX11_sling_0 : decode cX11_sling 0 = .ok (.aload_n 0, 1) := by decide +kernel
theorem dX11_sling_1 : decode cX11_sling 1 = .ok (.getfield 10, 3) := by decide +kernel
theorem dX11_sling_4 : decode cX11_sling 4 = .ok (.iload_n 1, 1) := by decide +kernel
theorem dX11_sling_5 : decode cX11_sling 5 = .ok (.invokevirtual 149, 3) := by decide +kernel
theorem dX11_sling_8 : decode cX11_sling 8 = .ok (.ifCond .ne 5, 3) := by decide +kernel
theorem dX11_sling_11 : decode cX11_sling 11 = .ok (.iconst (-1), 1) := by decide +kernel
theorem dX11_sling_12 : decode cX11_sling 12 = .ok (.ireturn, 1) := by decide +kernel
theorem dX11_sling_13 : decode cX11_sling 13 = .ok (.aload_n 0, 1) := by decide +kernel
theorem dX11_sling_14 : decode cX11_sling 14 = .ok (.getfield 26, 3) := by decide +kernel
theorem dX11_sling_17 : decode cX11_sling 17 = .ok (.getfield 168, 3) := by decide +kernel
theorem dX11_sling_20 : decode cX11_sling 20 = .ok (.iload_n 1, 1) := by decide +kernel
theorem dX11_sling_21 : decode cX11_sling 21 = .ok (.invokevirtual 172, 3) := by decide +kernel
theorem dX11_sling_24 : decode cX11_sling 24 = .ok (.istore_n 3, 1) := by decide +kernel
theorem dX11_sling_25 : decode cX11_sling 25 = .ok (.iload_n 3, 1) := by decide +kernel
theorem dX11_sling_26 : decode cX11_sling 26 = .ok (.ifCond .ge 6, 3) := by decide +kernel
theorem dX11_sling_29 : decode cX11_sling 29 = .ok (.bipush (-4), 2) := by decide +kernel
theorem dX11_sling_31 : decode cX11_sling 31 = .ok (.ireturn, 1) := by decide +kernel
theorem dX11_sling_32 : decode cX11_sling 32 = .ok (.aload_n 0, 1) := by decide +kernel
theorem dX11_sling_33 : decode cX11_sling 33 = .ok (.getfield 26, 3) := by decide +kernel
theorem dX11_sling_36 : decode cX11_sling 36 = .ok (.getfield 168, 3) := by decide +kernel
theorem dX11_sling_39 : decode cX11_sling 39 = .ok (.getfield 184, 3) := by decide +kernel
theorem dX11_sling_42 : decode cX11_sling 42 = .ok (.iload_n 3, 1) := by decide +kernel
theorem dX11_sling_43 : decode cX11_sling 43 = .ok (.iaload, 1) := by decide +kernel
theorem dX11_sling_44 : decode cX11_sling 44 = .ok (.istore 4, 2) := by decide +kernel
theorem dX11_sling_46 : decode cX11_sling 46 = .ok (.aload_n 0, 1) := by decide +kernel
theorem dX11_sling_47 : decode cX11_sling 47 = .ok (.getfield 26, 3) := by decide +kernel
theorem dX11_sling_50 : decode cX11_sling 50 = .ok (.getfield 168, 3) := by decide +kernel
theorem dX11_sling_53 : decode cX11_sling 53 = .ok (.getfield 184, 3) := by decide +kernel
theorem dX11_sling_56 : decode cX11_sling 56 = .ok (.iload_n 3, 1) := by decide +kernel
theorem dX11_sling_57 : decode cX11_sling 57 = .ok (.iload_n 2, 1) := by decide +kernel
theorem dX11_sling_58 : decode cX11_sling 58 = .ok (.ifCond .eq 7, 3) := by decide +kernel
theorem dX11_sling_61 : decode cX11_sling 61 = .ok (.iconst 1, 1) := by decide +kernel
theorem dX11_sling_62 : decode cX11_sling 62 = .ok (.goto 4, 3) := by decide +kernel
theorem dX11_sling_65 : decode cX11_sling 65 = .ok (.iconst 0, 1) := by decide +kernel
theorem dX11_sling_66 : decode cX11_sling 66 = .ok (.iastore, 1) := by decide +kernel
theorem dX11_sling_67 : decode cX11_sling 67 = .ok (.iload 4, 2) := by decide +kernel
theorem dX11_sling_69 : decode cX11_sling 69 = .ok (.ireturn, 1) := by decide +kernel
abbrev q_X11_sling (h : Int) (b : Int) (σ : tw_M) : Option tw_V → tw_M → Prop := fun z τ => ∃ r : Int, z = some (vI r) ∧ (-2147483648 ≤ r ∧ r ≤ 2147483647) ∧ tw_I τ ∧ tw_F (fun c j => c = 27) σ τ ∧ (∀ gg qq : Nat → Int, RG 24 gg qq σ → (r = -1 ∧ ¬ (1 ≤ h ∧ h ≤ σ 2 0) ∧ ∀ c j, τ c j = σ c j) ∨ (r = -4 ∧ (1 ≤ h ∧ h ≤ σ 2 0) ∧ gg h.toNat = 0 ∧ ∀ c j, τ c j = σ c j) ∨ ((1 ≤ h ∧ h ≤ σ 2 0) ∧ 0 < gg h.toNat ∧ r = qq h.toNat ∧ RG 24 gg (pg qq h.toNat b) τ))
set_option maxHeartbeats 4000000 in
set_option maxRecDepth 100000 in
theorem c_X11_sling {G : tw_G} (hX : tw_isX G) (h : Int) (hh : -2147483648 ≤ h ∧ h ≤ 2147483647) (b : Int) (hb : 0 ≤ b ∧ b ≤ 1) (σ : tw_M) (hI : tw_I σ) : tw_C G yX11_sling cX11_sling 5 (some .int) 1 [vR 0, vI h, vI b] σ (q_X11_sling h b σ) := by
  refine tw_met [(0, vR 0), (1, vI h), (2, vI b)] (by decide +kernel) rfl (Nat.le_of_ble_eq_true rfl) ?_
  refine j_aload_n (pc := 0) dX11_sling_0 rfl rfl ?_
  refine j_getR (pc := 1) (r := 1) fl_X11_10 dX11_sling_1 (a_0 hX) rfl ?_
  refine j_iload_n (pc := 4) dX11_sling_4 rfl rfl ?_
  refine j_callV (pc := 5) (As := [vI h]) (st := []) (c_X10_isFoot 1 (s_Wall_1 hX) h ⟨by omega, by omega⟩ σ hI) mv_X11_149 rfl rfl rfl (a_1 hX) dX11_sling_5 ⟨Nat.le_of_ble_eq_true rfl, Nat.le_of_ble_eq_true rfl⟩ ⟨Nat.le_refl _, Nat.le_refl _⟩ rfl (Nat.le_of_ble_eq_true rfl) rfl (fun z1 σ2 hz1 => ?_)
  obtain ⟨r4, rfl, hr4, rfl, q3_0⟩ := hz1
  replace q3_0 : (r4 = 1 ∧ 1 ≤ h ∧ h ≤ σ 2 0 ∧ h ≤ 40) ∨ (r4 = 0 ∧ ¬ (1 ≤ h ∧ h ≤ σ 2 0)) := q3_0
  refine j_st (st' := [vI r4]) rfl ?_
  refine j_ifR_ne (pc := 8) (tgt := 13) ⟨by omega, by omega⟩ dX11_sling_8 rfl (fun h5 => ?_) (fun h5 => ?_)
  · refine j_aload_n (pc := 13) dX11_sling_13 rfl rfl ?_
    refine j_getR (pc := 14) (r := 23) fl_X11_26 dX11_sling_14 (a_0 hX) rfl ?_
    refine j_getR (pc := 17) (r := 24) fl_X11_168 dX11_sling_17 (a_23 hX) rfl ?_
    refine j_iload_n (pc := 20) dX11_sling_20 rfl rfl ?_
    refine j_callV (pc := 21) (As := [vI h]) (st := []) (c_X7_at 24 (s_Row_24 hX) h ⟨by omega, by omega⟩ σ hI) mv_X11_172 rfl rfl rfl (a_24 hX) dX11_sling_21 ⟨Nat.le_of_ble_eq_true rfl, Nat.le_of_ble_eq_true rfl⟩ ⟨Nat.le_refl _, Nat.le_refl _⟩ rfl (Nat.le_of_ble_eq_true rfl) rfl (fun z6 σ7 hz6 => ?_)
    obtain ⟨r9, rfl, hr9, rfl, q8_0, q8_1, q8_2⟩ := hz6
    replace q8_0 : r9 < σ 24 0 := q8_0
    replace q8_1 : -1 < r9 ∨ r9 = -4 := q8_1
    replace q8_2 : (0 ≤ r9 ∧ r9 < σ 24 0 ∧ σ 25 r9.toNat = h) ∨ (r9 = -4 ∧ ∀ k : Nat, (k : Int) < σ 24 0 → ¬ σ 25 k = h) := q8_2
    refine j_st (st' := [vI r9]) rfl ?_
    refine j_istore_n (pc := 24) (i := 3) (ls' := [(0, vR 0), (2, vI b), (3, vI r9)]) [1, 3, 0] dX11_sling_24 rfl (Nat.le_of_ble_eq_true rfl) rfl rfl ?_
    have lk := q8_2
    refine j_iload_n (pc := 25) dX11_sling_25 rfl rfl ?_
    refine j_ifR_ge (pc := 26) (tgt := 32) ⟨by omega, by omega⟩ dX11_sling_26 rfl (fun h10 => ?_) (fun h10 => ?_)
    · refine j_aload_n (pc := 32) dX11_sling_32 rfl rfl ?_
      refine j_getR (pc := 33) (r := 23) fl_X11_26 dX11_sling_33 (a_0 hX) rfl ?_
      refine j_getR (pc := 36) (r := 24) fl_X11_168 dX11_sling_36 (a_23 hX) rfl ?_
      refine j_getR (pc := 39) (r := 27) fl_X11_184 dX11_sling_39 (a_24 hX) rfl ?_
      refine j_iload_n (pc := 42) dX11_sling_42 rfl rfl ?_
      refine j_iald (pc := 43) dX11_sling_43 (a_27 hX) (by omega) (by omega) (by decide) ?_
      have f11 : (0 : Int) ≤ σ 27 (r9.toNat) ∧ σ 27 (r9.toNat) ≤ 1 := hI 27 (r9.toNat)
      refine j_istore (pc := 44) (i := 4) (ls' := [(0, vR 0), (2, vI b), (3, vI r9), (4, vI (σ 27 (r9.toNat)))]) [1, 2, 3, 0] dX11_sling_44 (Nat.le_of_ble_eq_true rfl) rfl rfl ?_
      refine j_aload_n (pc := 46) dX11_sling_46 rfl rfl ?_
      refine j_getR (pc := 47) (r := 23) fl_X11_26 dX11_sling_47 (a_0 hX) rfl ?_
      refine j_getR (pc := 50) (r := 24) fl_X11_168 dX11_sling_50 (a_23 hX) rfl ?_
      refine j_getR (pc := 53) (r := 27) fl_X11_184 dX11_sling_53 (a_24 hX) rfl ?_
      refine j_iload_n (pc := 56) dX11_sling_56 rfl rfl ?_
      refine j_iload_n (pc := 57) dX11_sling_57 rfl rfl ?_
      refine j_ifR_eq (pc := 58) (tgt := 65) ⟨by omega, by omega⟩ dX11_sling_58 rfl (fun h12 => ?_) (fun h12 => ?_)
      · refine j_iconst (pc := 65) dX11_sling_65 ?_
        refine j_iast (pc := 66) dX11_sling_66 (a_27 hX) (by omega) (by omega) (by decide) (j_nm (fun σ13 (eσ13 : σ13 = tw_up σ 27 (r9.toNat) 0) => ?_))
        have hIσ13 : tw_I σ13 := tw_I_up hI eσ13 (show (0 : Int) ≤ 0 ∧ 0 ≤ 1 from by decide)
        have hFσ13 : tw_F (fun c j => c = 27) σ σ13 := tw_F_up (tw_F_rf) eσ13 (show 27 = 27 from rfl)
        refine j_iload (pc := 67) dX11_sling_67 rfl ?_
        have fin : ∀ gg qq : Nat → Int, RG 24 gg qq σ → ((σ 27 (r9.toNat)) = -1 ∧ ¬ (1 ≤ h ∧ h ≤ σ 2 0) ∧ ∀ c j, σ13 c j = σ c j) ∨ ((σ 27 (r9.toNat)) = -4 ∧ (1 ≤ h ∧ h ≤ σ 2 0) ∧ gg h.toNat = 0 ∧ ∀ c j, σ13 c j = σ c j) ∨ ((1 ≤ h ∧ h ≤ σ 2 0) ∧ 0 < gg h.toNat ∧ (σ 27 (r9.toNat)) = qq h.toNat ∧ RG 24 gg (pg qq h.toNat b) σ13) := fun gg qq H => by
          have l := RG_look H lk (by omega)
          have t := RG_sl H (h := h) (by omega) (show r9 = cnt gg h.toNat - 1 from by omega) eσ13
          rw [show b = 0 from by omega]
          exact Or.inr (Or.inr ⟨by omega, by omega, t.2, t.1⟩)
        exact j_iret (pc := 69) ⟨rfl, rfl⟩ dX11_sling_69 rfl ⟨_, rfl, ⟨by omega, by omega⟩, hIσ13, hFσ13, fin⟩
      · refine j_iconst (pc := 61) dX11_sling_61 ?_
        refine j_goto (pc := 62) (tgt := 66) dX11_sling_62 rfl ?_
        refine j_iast (pc := 66) dX11_sling_66 (a_27 hX) (by omega) (by omega) (by decide) (j_nm (fun σ14 (eσ14 : σ14 = tw_up σ 27 (r9.toNat) 1) => ?_))
        have hIσ14 : tw_I σ14 := tw_I_up hI eσ14 (show (0 : Int) ≤ 1 ∧ 1 ≤ 1 from by decide)
        have hFσ14 : tw_F (fun c j => c = 27) σ σ14 := tw_F_up (tw_F_rf) eσ14 (show 27 = 27 from rfl)
        refine j_iload (pc := 67) dX11_sling_67 rfl ?_
        have fin : ∀ gg qq : Nat → Int, RG 24 gg qq σ → ((σ 27 (r9.toNat)) = -1 ∧ ¬ (1 ≤ h ∧ h ≤ σ 2 0) ∧ ∀ c j, σ14 c j = σ c j) ∨ ((σ 27 (r9.toNat)) = -4 ∧ (1 ≤ h ∧ h ≤ σ 2 0) ∧ gg h.toNat = 0 ∧ ∀ c j, σ14 c j = σ c j) ∨ ((1 ≤ h ∧ h ≤ σ 2 0) ∧ 0 < gg h.toNat ∧ (σ 27 (r9.toNat)) = qq h.toNat ∧ RG 24 gg (pg qq h.toNat b) σ14) := fun gg qq H => by
          have l := RG_look H lk (by omega)
          have t := RG_sl H (h := h) (by omega) (show r9 = cnt gg h.toNat - 1 from by omega) eσ14
          rw [show b = 1 from by omega]
          exact Or.inr (Or.inr ⟨by omega, by omega, t.2, t.1⟩)
        exact j_iret (pc := 69) ⟨rfl, rfl⟩ dX11_sling_69 rfl ⟨_, rfl, ⟨by omega, by omega⟩, hIσ14, hFσ14, fin⟩
    · refine j_bipush (pc := 29) dX11_sling_29 rfl ?_
      have fin : ∀ gg qq : Nat → Int, RG 24 gg qq σ → ((-4) = -1 ∧ ¬ (1 ≤ h ∧ h ≤ σ 2 0) ∧ ∀ c j, σ c j = σ c j) ∨ ((-4) = -4 ∧ (1 ≤ h ∧ h ≤ σ 2 0) ∧ gg h.toNat = 0 ∧ ∀ c j, σ c j = σ c j) ∨ ((1 ≤ h ∧ h ≤ σ 2 0) ∧ 0 < gg h.toNat ∧ (-4) = qq h.toNat ∧ RG 24 gg (pg qq h.toNat b) σ) := fun gg qq H => by
        have l := RG_look H lk (by omega)
        exact Or.inr (Or.inl ⟨rfl, by omega, by omega, fun c j => rfl⟩)
      exact j_iret (pc := 31) ⟨rfl, rfl⟩ dX11_sling_31 rfl ⟨_, rfl, ⟨by omega, by omega⟩, hI, (tw_F_rf), fin⟩
  · refine j_iconst (pc := 11) dX11_sling_11 ?_
    have fin : ∀ gg qq : Nat → Int, RG 24 gg qq σ → ((-1) = -1 ∧ ¬ (1 ≤ h ∧ h ≤ σ 2 0) ∧ ∀ c j, σ c j = σ c j) ∨ ((-1) = -4 ∧ (1 ≤ h ∧ h ≤ σ 2 0) ∧ gg h.toNat = 0 ∧ ∀ c j, σ c j = σ c j) ∨ ((1 ≤ h ∧ h ≤ σ 2 0) ∧ 0 < gg h.toNat ∧ (-1) = qq h.toNat ∧ RG 24 gg (pg qq h.toNat b) σ) := fun gg qq H => Or.inl ⟨rfl, by omega, fun c j => rfl⟩
    exact j_iret (pc := 12) ⟨rfl, rfl⟩ dX11_sling_12 rfl ⟨_, rfl, ⟨by omega, by omega⟩, hI, (tw_F_rf), fin⟩
