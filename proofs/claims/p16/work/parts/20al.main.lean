/-! 20al.main -/
theorem dX11_put_0 : decode cX11_put 0 = .ok (.aload_n 0, 1) := by decide +kernel
theorem dX11_put_1 : decode cX11_put 1 = .ok (.getfield 26, 3) := by decide +kernel
theorem dX11_put_4 : decode cX11_put 4 = .ok (.aload_n 0, 1) := by decide +kernel
theorem dX11_put_5 : decode cX11_put 5 = .ok (.getfield 10, 3) := by decide +kernel
theorem dX11_put_8 : decode cX11_put 8 = .ok (.iload_n 1, 1) := by decide +kernel
theorem dX11_put_9 : decode cX11_put 9 = .ok (.iload_n 2, 1) := by decide +kernel
theorem dX11_put_10 : decode cX11_put 10 = .ok (.invokevirtual 178, 3) := by decide +kernel
theorem dX11_put_13 : decode cX11_put 13 = .ok (.ireturn, 1) := by decide +kernel
abbrev q_X11_put (h : Int) (s : Int) (σ : tw_M) : Option tw_V → tw_M → Prop := fun z τ => ∃ r : Int, z = some (vI r) ∧ (-4 ≤ r ∧ r ≤ 9) ∧ tw_I τ ∧ tw_F (fun c j => (24 ≤ c ∧ c < 29)) σ τ ∧ (∀ gg qq : Nat → Int, RG 24 gg qq σ → (1 ≤ s → s ≤ 10 → 0 ≤ σ 28 s.toNat) → (¬ whyS (wW 1 σ) (gg h.toNat) (σ 24 0) (σ 28 s.toNat) h s = 0 ∧ r = whyS (wW 1 σ) (gg h.toNat) (σ 24 0) (σ 28 s.toNat) h s ∧ ∀ c j, τ c j = σ c j) ∨ (whyS (wW 1 σ) (gg h.toNat) (σ 24 0) (σ 28 s.toNat) h s = 0 ∧ r = cnt gg h.toNat ∧ RG 24 (pg gg h.toNat s) (pg qq h.toNat 0) τ ∧ τ 28 s.toNat = σ 28 s.toNat - 1 ∧ ∀ j : Nat, ¬ j = s.toNat → τ 28 j = σ 28 j))
set_option maxHeartbeats 4000000 in
set_option maxRecDepth 100000 in
theorem c_X11_put {G : tw_G} (hX : tw_isX G) (h : Int) (hh : -2147483648 ≤ h ∧ h ≤ 2147483647) (s : Int) (hs : -2147483648 ≤ s ∧ s ≤ 2147483647) (σ : tw_M) (hI : tw_I σ) : tw_C G yX11_put cX11_put 3 (some .int) 2 [vR 0, vI h, vI s] σ (q_X11_put h s σ) := by
  refine tw_met [(0, vR 0), (1, vI h), (2, vI s)] (by decide +kernel) rfl (Nat.le_of_ble_eq_true rfl) ?_
  refine j_aload_n (pc := 0) dX11_put_0 rfl rfl ?_
  refine j_getR (pc := 1) (r := 23) fl_X11_26 dX11_put_1 (a_0 hX) rfl ?_
  refine j_aload_n (pc := 4) dX11_put_4 rfl rfl ?_
  refine j_getR (pc := 5) (r := 1) fl_X11_10 dX11_put_5 (a_0 hX) rfl ?_
  refine j_iload_n (pc := 8) dX11_put_8 rfl rfl ?_
  refine j_iload_n (pc := 9) dX11_put_9 rfl rfl ?_
  refine j_callV (pc := 10) (As := [vR 1, vI h, vI s]) (st := []) (c_X3_place 23 (s_Hand_23 hX) 1 (s_Wall_1 hX) h ⟨by omega, by omega⟩ s ⟨by omega, by omega⟩ σ hI (by omega)) mv_X11_178 rfl rfl rfl (a_23 hX) dX11_put_10 ⟨Nat.le_of_ble_eq_true rfl, Nat.le_of_ble_eq_true rfl⟩ ⟨Nat.le_refl _, Nat.le_refl _⟩ rfl (Nat.le_of_ble_eq_true rfl) rfl (fun z1 σ2 hz1 => ?_)
  obtain ⟨r4, rfl, hr4, hIσ2, hGσ2, q3_0⟩ := hz1
  replace q3_0 : ∀ gg qq : Nat → Int, RG 24 gg qq σ → (1 ≤ s → s ≤ 10 → 0 ≤ σ 28 s.toNat) → (¬ whyS (wW 1 σ) (gg h.toNat) (σ 24 0) (σ 28 s.toNat) h s = 0 ∧ r4 = whyS (wW 1 σ) (gg h.toNat) (σ 24 0) (σ 28 s.toNat) h s ∧ ∀ c j, σ2 c j = σ c j) ∨ (whyS (wW 1 σ) (gg h.toNat) (σ 24 0) (σ 28 s.toNat) h s = 0 ∧ r4 = cnt gg h.toNat ∧ RG 24 (pg gg h.toNat s) (pg qq h.toNat 0) σ2 ∧ σ2 28 s.toNat = σ 28 s.toNat - 1 ∧ ∀ j : Nat, ¬ j = s.toNat → σ2 28 j = σ 28 j) := q3_0
  have hFσ2 : tw_F (fun c j => (24 ≤ c ∧ c < 29)) σ σ2 := tw_F_tr (tw_F_rf) hGσ2 (fun c j q => (show (24 ≤ c ∧ c < 29) from by replace q : (24 ≤ c ∧ c < 29) := q; exact q))
  refine j_st (st' := [vI r4]) rfl ?_
  have fin := q3_0
  exact j_iret (pc := 13) ⟨rfl, rfl⟩ dX11_put_13 rfl ⟨_, rfl, ⟨by omega, by omega⟩, hIσ2, hFσ2, fin⟩
