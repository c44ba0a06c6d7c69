/-! 20af.main -/
theorem dX11_feed_0 : decode cX11_feed 0 = .ok (.aload_n 0, 1) := by decide +kernel
theorem dX11_feed_1 : decode cX11_feed 1 = .ok (.getfield 19, 3) := by decide +kernel
theorem dX11_feed_4 : decode cX11_feed 4 = .ok (.lload_n 1, 1) := by decide +kernel
theorem dX11_feed_5 : decode cX11_feed 5 = .ok (.invokevirtual 102, 3) := by decide +kernel
theorem dX11_feed_8 : decode cX11_feed 8 = .ok (.ifCond .eq 13, 3) := by decide +kernel
theorem dX11_feed_11 : decode cX11_feed 11 = .ok (.aload_n 0, 1) := by decide +kernel
theorem dX11_feed_12 : decode cX11_feed 12 = .ok (.getfield 19, 3) := by decide +kernel
theorem dX11_feed_15 : decode cX11_feed 15 = .ok (.getfield 106, 3) := by decide +kernel
theorem dX11_feed_18 : decode cX11_feed 18 = .ok (.goto 5, 3) := by decide +kernel
theorem dX11_feed_21 : decode cX11_feed 21 = .ok (.bipush (-3), 2) := by decide +kernel
theorem dX11_feed_23 : decode cX11_feed 23 = .ok (.ireturn, 1) := by decide +kernel
abbrev q_X11_feed (v : Int) (σ : tw_M) : Option tw_V → tw_M → Prop := fun z τ => ∃ r : Int, z = some (vI r) ∧ (-2147483648 ≤ r ∧ r ≤ 2147483647) ∧ tw_I τ ∧ tw_F (fun c j => (c = 10 ∧ (j = 10)) ∨ c = 11) σ τ ∧ ((r = -3 ∧ 392 < σ 10 10 ∧ τ 10 10 = σ 10 10) ∨ (r = σ 10 10 + 8 ∧ σ 10 10 ≤ 392 ∧ τ 10 10 = σ 10 10 + 8)) ∧ (∀ j : Nat, (j : Int) < σ 10 10 → τ 11 j = σ 11 j) ∧ (r = -3 ∨ ∀ k : Nat, (k : Int) < 8 → tw_and (τ 11 ((σ 10 10).toNat + k)) 255 = byt v k)
set_option maxHeartbeats 4000000 in
set_option maxRecDepth 100000 in
theorem c_X11_feed {G : tw_G} (hX : tw_isX G) (v : Int) (hv : -9223372036854775808 ≤ v ∧ v ≤ 9223372036854775807) (σ : tw_M) (hI : tw_I σ) : tw_C G yX11_feed cX11_feed 3 (some .int) 1 [vR 0, vL v] σ (q_X11_feed v σ) := by
  refine tw_met [(0, vR 0), (1, vL v)] (by decide +kernel) rfl (Nat.le_of_ble_eq_true rfl) ?_
  refine j_aload_n (pc := 0) dX11_feed_0 rfl rfl ?_
  refine j_getR (pc := 1) (r := 10) fl_X11_19 dX11_feed_1 (a_0 hX) rfl ?_
  refine j_lload_n (pc := 4) dX11_feed_4 rfl rfl ?_
  refine j_callV (pc := 5) (As := [vL v]) (st := []) (c_X9_append hX v ⟨by omega, by omega⟩ σ hI) mv_X11_102 rfl rfl rfl (a_10 hX) dX11_feed_5 ⟨Nat.le_of_ble_eq_true rfl, Nat.le_of_ble_eq_true rfl⟩ ⟨Nat.le_refl _, Nat.le_refl _⟩ rfl (Nat.le_of_ble_eq_true rfl) rfl (fun z1 σ2 hz1 => ?_)
  obtain ⟨r4, rfl, hr4, hIσ2, hGσ2, q3_0, q3_1, q3_2⟩ := hz1
  replace q3_0 : (r4 = 0 ∧ 392 < σ 10 10 ∧ σ2 10 10 = σ 10 10) ∨ (r4 = 1 ∧ σ 10 10 ≤ 392 ∧ σ2 10 10 = σ 10 10 + 8) := q3_0
  replace q3_1 : ∀ j : Nat, (j : Int) < σ 10 10 → σ2 11 j = σ 11 j := q3_1
  replace q3_2 : r4 = 0 ∨ ∀ k : Nat, (k : Int) < 8 → tw_and (σ2 11 ((σ 10 10).toNat + k)) 255 = byt v k := q3_2
  have hFσ2 : tw_F (fun c j => (c = 10 ∧ (j = 10)) ∨ c = 11) σ σ2 := tw_F_tr (tw_F_rf) hGσ2 (fun c j q => (show (c = 10 ∧ (j = 10)) ∨ c = 11 from by replace q : (c = 10 ∧ (j = 10)) ∨ c = 11 := q; exact q))
  refine j_st (st' := [vI r4]) rfl ?_
  refine j_ifR_eq (pc := 8) (tgt := 21) ⟨by omega, by omega⟩ dX11_feed_8 rfl (fun h5 => ?_) (fun h5 => ?_)
  · refine j_bipush (pc := 21) dX11_feed_21 rfl ?_
    exact j_iret (pc := 23) ⟨rfl, rfl⟩ dX11_feed_23 rfl ⟨_, rfl, ⟨by omega, by omega⟩, hIσ2, hFσ2, by omega, q3_1, (by first | exact Or.inl rfl | exact Or.inr (q3_2.resolve_left (by omega)))⟩
  · refine j_aload_n (pc := 11) dX11_feed_11 rfl rfl ?_
    refine j_getR (pc := 12) (r := 10) fl_X11_19 dX11_feed_12 (a_0 hX) rfl ?_
    refine j_getI (pc := 15) fl_X11_106 dX11_feed_15 (a_10 hX) rfl ?_
    have f6 : (0 : Int) ≤ σ2 10 10 ∧ σ2 10 10 ≤ 400 := hIσ2 10 10
    refine j_goto (pc := 18) (tgt := 23) dX11_feed_18 rfl ?_
    exact j_iret (pc := 23) ⟨rfl, rfl⟩ dX11_feed_23 rfl ⟨_, rfl, ⟨by omega, by omega⟩, hIσ2, hFσ2, by omega, q3_1, (by first | exact Or.inl rfl | exact Or.inr (q3_2.resolve_left (by omega)))⟩
