/-! 20ap.main -/
theorem dX11_strip_0 : decode cX11_strip 0 = .ok (.aload_n 0, 1) := by decide +kernel
theorem dX11_strip_1 : decode cX11_strip 1 = .ok (.getfield 26, 3) := by decide +kernel
theorem dX11_strip_4 : decode cX11_strip 4 = .ok (.invokevirtual 207, 3) := by decide +kernel
theorem dX11_strip_7 : decode cX11_strip 7 = .ok (.ireturn, 1) := by decide +kernel
abbrev q_X11_strip  (σ : tw_M) : Option tw_V → tw_M → Prop := fun z τ => ∃ r : Int, z = some (vI r) ∧ (0 ≤ r ∧ r ≤ 10) ∧ tw_I τ ∧ tw_F (fun c j => (24 ≤ c ∧ c < 29)) σ τ ∧ (∀ gg qq rk : Nat → Int, RG 24 gg qq σ → CNR rk gg 28 σ → r = σ 24 0 ∧ τ 24 0 = 0 ∧ ∀ x : Int, 1 ≤ x → x ≤ 10 → τ 28 x.toNat = rk x.toNat)
set_option maxHeartbeats 4000000 in
set_option maxRecDepth 100000 in
theorem c_X11_strip {G : tw_G} (hX : tw_isX G) (σ : tw_M) (hI : tw_I σ) : tw_C G yX11_strip cX11_strip 1 (some .int) 3 [vR 0] σ (q_X11_strip σ) := by
  refine tw_met [(0, vR 0)] (by decide +kernel) rfl (Nat.le_of_ble_eq_true rfl) ?_
  refine j_aload_n (pc := 0) dX11_strip_0 rfl rfl ?_
  refine j_getR (pc := 1) (r := 23) fl_X11_26 dX11_strip_1 (a_0 hX) rfl ?_
  refine j_callV (pc := 4) (As := []) (st := []) (c_X3_takeAll 23 (s_Hand_23 hX) σ hI) mv_X11_207 rfl rfl rfl (a_23 hX) dX11_strip_4 ⟨Nat.le_of_ble_eq_true rfl, Nat.le_of_ble_eq_true rfl⟩ ⟨Nat.le_refl _, Nat.le_refl _⟩ rfl (Nat.le_of_ble_eq_true rfl) rfl (fun z1 σ2 hz1 => ?_)
  obtain ⟨r4, rfl, hr4, hIσ2, hGσ2, q3_0⟩ := hz1
  replace q3_0 : ∀ gg qq rk : Nat → Int, RG 24 gg qq σ → CNR rk gg 28 σ → r4 = σ 24 0 ∧ σ2 24 0 = 0 ∧ ∀ x : Int, 1 ≤ x → x ≤ 10 → σ2 28 x.toNat = rk x.toNat := q3_0
  have hFσ2 : tw_F (fun c j => (24 ≤ c ∧ c < 29)) σ σ2 := tw_F_tr (tw_F_rf) hGσ2 (fun c j q => (show (24 ≤ c ∧ c < 29) from by replace q : (24 ≤ c ∧ c < 29) := q; exact q))
  refine j_st (st' := [vI r4]) rfl ?_
  exact j_iret (pc := 7) ⟨rfl, rfl⟩ dX11_strip_7 rfl ⟨_, rfl, ⟨by omega, by omega⟩, hIσ2, hFσ2, q3_0⟩
