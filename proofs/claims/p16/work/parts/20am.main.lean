/-! 20am.main -/
theorem dX11_take_0 : decode cX11_take 0 = .ok (.aload_n 0, 1) := by decide +kernel
theorem dX11_take_1 : decode cX11_take 1 = .ok (.getfield 10, 3) := by decide +kernel
theorem dX11_take_4 : decode cX11_take 4 = .ok (.iload_n 1, 1) := by decide +kernel
theorem dX11_take_5 : decode cX11_take 5 = .ok (.invokevirtual 149, 3) := by decide +kernel
theorem dX11_take_8 : decode cX11_take 8 = .ok (.ifCond .ne 5, 3) := by decide +kernel
theorem dX11_take_11 : decode cX11_take 11 = .ok (.iconst (-1), 1) := by decide +kernel
theorem dX11_take_12 : decode cX11_take 12 = .ok (.ireturn, 1) := by decide +kernel
theorem dX11_take_13 : decode cX11_take 13 = .ok (.aload_n 0, 1) := by decide +kernel
theorem dX11_take_14 : decode cX11_take 14 = .ok (.getfield 26, 3) := by decide +kernel
theorem dX11_take_17 : decode cX11_take 17 = .ok (.getfield 168, 3) := by decide +kernel
theorem dX11_take_20 : decode cX11_take 20 = .ok (.iload_n 1, 1) := by decide +kernel
theorem dX11_take_21 : decode cX11_take 21 = .ok (.invokevirtual 172, 3) := by decide +kernel
theorem dX11_take_24 : decode cX11_take 24 = .ok (.istore_n 2, 1) := by decide +kernel
theorem dX11_take_25 : decode cX11_take 25 = .ok (.iload_n 2, 1) := by decide +kernel
theorem dX11_take_26 : decode cX11_take 26 = .ok (.ifCond .ge 8, 3) := by decide +kernel
theorem dX11_take_29 : decode cX11_take 29 = .ok (.bipush (-4), 2) := by decide +kernel
theorem dX11_take_31 : decode cX11_take 31 = .ok (.goto 11, 3) := by decide +kernel
theorem dX11_take_34 : decode cX11_take 34 = .ok (.aload_n 0, 1) := by decide +kernel
theorem dX11_take_35 : decode cX11_take 35 = .ok (.getfield 26, 3) := by decide +kernel
theorem dX11_take_38 : decode cX11_take 38 = .ok (.iload_n 2, 1) := by decide +kernel
theorem dX11_take_39 : decode cX11_take 39 = .ok (.invokevirtual 181, 3) := by decide +kernel
theorem dX11_take_42 : decode cX11_take 42 = .ok (.ireturn, 1) := by decide +kernel
abbrev q_X11_take (h : Int) (σ : tw_M) : Option tw_V → tw_M → Prop := fun z τ => ∃ r : Int, z = some (vI r) ∧ (-4 ≤ r ∧ r ≤ 10) ∧ tw_I τ ∧ tw_F (fun c j => (24 ≤ c ∧ c < 29)) σ τ ∧ (∀ gg qq rk : Nat → Int, RG 24 gg qq σ → CNR rk gg 28 σ → (r = -1 ∧ ¬ (1 ≤ h ∧ h ≤ σ 2 0) ∧ ∀ c j, τ c j = σ c j) ∨ (r = -4 ∧ (1 ≤ h ∧ h ≤ σ 2 0) ∧ gg h.toNat = 0 ∧ ∀ c j, τ c j = σ c j) ∨ ((1 ≤ h ∧ h ≤ σ 2 0) ∧ 0 < gg h.toNat ∧ gg h.toNat ≤ 10 ∧ r = gg h.toNat ∧ RG 24 (pg gg h.toNat 0) qq τ ∧ τ 28 r.toNat = σ 28 r.toNat + 1 ∧ ∀ j : Nat, ¬ j = r.toNat → τ 28 j = σ 28 j))
set_option maxHeartbeats 4000000 in
set_option maxRecDepth 100000 in
theorem c_X11_take {G : tw_G} (hX : tw_isX G) (h : Int) (hh : -2147483648 ≤ h ∧ h ≤ 2147483647) (σ : tw_M) (hI : tw_I σ) : tw_C G yX11_take cX11_take 3 (some .int) 2 [vR 0, vI h] σ (q_X11_take h σ) := by
  refine tw_met [(0, vR 0), (1, vI h)] (by decide +kernel) rfl (Nat.le_of_ble_eq_true rfl) ?_
  refine j_aload_n (pc := 0) dX11_take_0 rfl rfl ?_
  refine j_getR (pc := 1) (r := 1) fl_X11_10 dX11_take_1 (a_0 hX) rfl ?_
  refine j_iload_n (pc := 4) dX11_take_4 rfl rfl ?_
  refine j_callV (pc := 5) (As := [vI h]) (st := []) (c_X10_isFoot 1 (s_Wall_1 hX) h ⟨by omega, by omega⟩ σ hI) mv_X11_149 rfl rfl rfl (a_1 hX) dX11_take_5 ⟨Nat.le_of_ble_eq_true rfl, Nat.le_of_ble_eq_true rfl⟩ ⟨Nat.le_refl _, Nat.le_refl _⟩ rfl (Nat.le_of_ble_eq_true rfl) rfl (fun z1 σ2 hz1 => ?_)
  obtain ⟨r4, rfl, hr4, rfl, q3_0⟩ := hz1
  replace q3_0 : (r4 = 1 ∧ 1 ≤ h ∧ h ≤ σ 2 0 ∧ h ≤ 40) ∨ (r4 = 0 ∧ ¬ (1 ≤ h ∧ h ≤ σ 2 0)) := q3_0
  refine j_st (st' := [vI r4]) rfl ?_
  refine j_ifR_ne (pc := 8) (tgt := 13) ⟨by omega, by omega⟩ dX11_take_8 rfl (fun h5 => ?_) (fun h5 => ?_)
  · refine j_aload_n (pc := 13) dX11_take_13 rfl rfl ?_
    refine j_getR (pc := 14) (r := 23) fl_X11_26 dX11_take_14 (a_0 hX) rfl ?_
    refine j_getR (pc := 17) (r := 24) fl_X11_168 dX11_take_17 (a_23 hX) rfl ?_
    refine j_iload_n (pc := 20) dX11_take_20 rfl rfl ?_
    refine j_callV (pc := 21) (As := [vI h]) (st := []) (c_X7_at 24 (s_Row_24 hX) h ⟨by omega, by omega⟩ σ hI) mv_X11_172 rfl rfl rfl (a_24 hX) dX11_take_21 ⟨Nat.le_of_ble_eq_true rfl, Nat.le_of_ble_eq_true rfl⟩ ⟨Nat.le_refl _, Nat.le_refl _⟩ rfl (Nat.le_of_ble_eq_true rfl) rfl (fun z6 σ7 hz6 => ?_)
    obtain ⟨r9, rfl, hr9, rfl, q8_0, q8_1, q8_2⟩ := hz6
    replace q8_0 : r9 < σ 24 0 := q8_0
    replace q8_1 : -1 < r9 ∨ r9 = -4 := q8_1
    replace q8_2 : (0 ≤ r9 ∧ r9 < σ 24 0 ∧ σ 25 r9.toNat = h) ∨ (r9 = -4 ∧ ∀ k : Nat, (k : Int) < σ 24 0 → ¬ σ 25 k = h) := q8_2
    refine j_st (st' := [vI r9]) rfl ?_
    refine j_istore_n (pc := 24) (i := 2) (ls' := [(0, vR 0), (2, vI r9)]) [1, 0] dX11_take_24 rfl (Nat.le_of_ble_eq_true rfl) rfl rfl ?_
    have lk := q8_2
    have tk9 := True.intro
    refine j_iload_n (pc := 25) dX11_take_25 rfl rfl ?_
    refine j_ifR_ge (pc := 26) (tgt := 34) ⟨by omega, by omega⟩ dX11_take_26 rfl (fun h10 => ?_) (fun h10 => ?_)
    · refine j_aload_n (pc := 34) dX11_take_34 rfl rfl ?_
      refine j_getR (pc := 35) (r := 23) fl_X11_26 dX11_take_35 (a_0 hX) rfl ?_
      refine j_iload_n (pc := 38) dX11_take_38 rfl rfl ?_
      refine j_callV (pc := 39) (As := [vI r9]) (st := []) (c_X3_takeOut 23 (s_Hand_23 hX) r9 ⟨by omega, by omega⟩ σ hI) mv_X11_181 rfl rfl rfl (a_23 hX) dX11_take_39 ⟨Nat.le_of_ble_eq_true rfl, Nat.le_of_ble_eq_true rfl⟩ ⟨Nat.le_refl _, Nat.le_refl _⟩ rfl (Nat.le_of_ble_eq_true rfl) rfl (fun z11 σ12 hz11 => ?_)
      obtain ⟨r14, rfl, hr14, hIσ12, hGσ12, q13_0⟩ := hz11
      replace q13_0 : ∀ gg qq : Nat → Int, RG 24 gg qq σ → 0 ≤ r9 → r9 < σ 24 0 → σ 28 (σ 26 r9.toNat).toNat ≤ 1000 → 0 ≤ σ 28 (σ 26 r9.toNat).toNat → r14 = σ 26 r9.toNat ∧ RG 24 (pg gg (σ 25 r9.toNat).toNat 0) qq σ12 ∧ σ12 28 (σ 26 r9.toNat).toNat = σ 28 (σ 26 r9.toNat).toNat + 1 ∧ ∀ j : Nat, ¬ j = (σ 26 r9.toNat).toNat → σ12 28 j = σ 28 j := q13_0
      have hFσ12 : tw_F (fun c j => (24 ≤ c ∧ c < 29)) σ σ12 := tw_F_tr (tw_F_rf) hGσ12 (fun c j q => (show (24 ≤ c ∧ c < 29) from by replace q : (24 ≤ c ∧ c < 29) := q; exact q))
      refine j_st (st' := [vI r14]) rfl ?_
      have fin : ∀ gg qq rk : Nat → Int, RG 24 gg qq σ → CNR rk gg 28 σ → (r14 = -1 ∧ ¬ (1 ≤ h ∧ h ≤ σ 2 0) ∧ ∀ c j, σ12 c j = σ c j) ∨ (r14 = -4 ∧ (1 ≤ h ∧ h ≤ σ 2 0) ∧ gg h.toNat = 0 ∧ ∀ c j, σ12 c j = σ c j) ∨ ((1 ≤ h ∧ h ≤ σ 2 0) ∧ 0 < gg h.toNat ∧ gg h.toNat ≤ 10 ∧ r14 = gg h.toNat ∧ RG 24 (pg gg h.toNat 0) qq σ12 ∧ σ12 28 r14.toNat = σ 28 r14.toNat + 1 ∧ ∀ j : Nat, ¬ j = r14.toNat → σ12 28 j = σ 28 j) := fun gg qq rk H C => by
        have l := RG_look H lk (by omega)
        have t := RG_at H (f := h.toNat) (by omega)
        rw [← show r9 = cnt gg h.toNat - 1 from by omega] at t
        have t4 : σ 26 (r9).toNat = gg h.toNat := t.2.2.2.1
        have s10 : σ 26 (r9).toNat ≤ 10 := (hI 26 _).2
        have n0 := csz_nn (g := gg) (s := σ 26 (r9).toNat) 40
        have b0 : σ 28 (σ 26 (r9).toNat).toNat + csz gg (σ 26 (r9).toNat) 40 = rk (σ 26 (r9).toNat).toNat ∧ 0 ≤ σ 28 (σ 26 (r9).toNat).toNat ∧ rk (σ 26 (r9).toNat).toNat ≤ 5 := C _ (by omega) s10
        obtain ⟨e1, e2, e3, e4⟩ := q13_0 gg qq H (by omega) (by omega) (by omega) (by omega)
        rw [t.2.2.1, show ((h.toNat : Nat) : Int).toNat = h.toNat from by omega] at e2
        refine Or.inr (Or.inr ⟨by omega, by omega, by omega, by omega, e2, by rw [e1]; exact e3, by rw [e1]; exact e4⟩)
      exact j_iret (pc := 42) ⟨rfl, rfl⟩ dX11_take_42 rfl ⟨_, rfl, ⟨by omega, by omega⟩, hIσ12, hFσ12, fin⟩
    · refine j_bipush (pc := 29) dX11_take_29 rfl ?_
      refine j_goto (pc := 31) (tgt := 42) dX11_take_31 rfl ?_
      have fin : ∀ gg qq rk : Nat → Int, RG 24 gg qq σ → CNR rk gg 28 σ → ((-4) = -1 ∧ ¬ (1 ≤ h ∧ h ≤ σ 2 0) ∧ ∀ c j, σ c j = σ c j) ∨ ((-4) = -4 ∧ (1 ≤ h ∧ h ≤ σ 2 0) ∧ gg h.toNat = 0 ∧ ∀ c j, σ c j = σ c j) ∨ ((1 ≤ h ∧ h ≤ σ 2 0) ∧ 0 < gg h.toNat ∧ gg h.toNat ≤ 10 ∧ (-4) = gg h.toNat ∧ RG 24 (pg gg h.toNat 0) qq σ ∧ σ 28 (-4).toNat = σ 28 (-4).toNat + 1 ∧ ∀ j : Nat, ¬ j = (-4).toNat → σ 28 j = σ 28 j) := fun gg qq rk H C => by
        have l := RG_look H lk (by omega)
        exact Or.inr (Or.inl ⟨rfl, by omega, by omega, fun c j => rfl⟩)
      exact j_iret (pc := 42) ⟨rfl, rfl⟩ dX11_take_42 rfl ⟨_, rfl, ⟨by omega, by omega⟩, hI, (tw_F_rf), fin⟩
  · refine j_iconst (pc := 11) dX11_take_11 ?_
    have fin : ∀ gg qq rk : Nat → Int, RG 24 gg qq σ → CNR rk gg 28 σ → ((-1) = -1 ∧ ¬ (1 ≤ h ∧ h ≤ σ 2 0) ∧ ∀ c j, σ c j = σ c j) ∨ ((-1) = -4 ∧ (1 ≤ h ∧ h ≤ σ 2 0) ∧ gg h.toNat = 0 ∧ ∀ c j, σ c j = σ c j) ∨ ((1 ≤ h ∧ h ≤ σ 2 0) ∧ 0 < gg h.toNat ∧ gg h.toNat ≤ 10 ∧ (-1) = gg h.toNat ∧ RG 24 (pg gg h.toNat 0) qq σ ∧ σ 28 (-1).toNat = σ 28 (-1).toNat + 1 ∧ ∀ j : Nat, ¬ j = (-1).toNat → σ 28 j = σ 28 j) := fun gg qq rk H C => Or.inl ⟨rfl, by omega, fun c j => rfl⟩
    exact j_iret (pc := 12) ⟨rfl, rfl⟩ dX11_take_12 rfl ⟨_, rfl, ⟨by omega, by omega⟩, hI, (tw_F_rf), fin⟩
