/-! 20ad.main -/
theorem dX11_isSheet_0 : decode cX11_isSheet 0 = .ok (.iload_n 1, 1) := by decide +kernel
theorem dX11_isSheet_1 : decode cX11_isSheet 1 = .ok (.ifCond .lt 16, 3) := by decide +kernel
theorem dX11_isSheet_4 : decode cX11_isSheet 4 = .ok (.iload_n 1, 1) := by decide +kernel
theorem dX11_isSheet_5 : decode cX11_isSheet 5 = .ok (.aload_n 0, 1) := by decide +kernel
theorem dX11_isSheet_6 : decode cX11_isSheet 6 = .ok (.getfield 87, 3) := by decide +kernel
theorem dX11_isSheet_9 : decode cX11_isSheet 9 = .ok (.arraylength, 1) := by decide +kernel
theorem dX11_isSheet_10 : decode cX11_isSheet 10 = .ok (.if_icmp .ge 7, 3) := by decide +kernel
theorem dX11_isSheet_13 : decode cX11_isSheet 13 = .ok (.iconst 1, 1) := by decide +kernel
theorem dX11_isSheet_14 : decode cX11_isSheet 14 = .ok (.goto 4, 3) := by decide +kernel
theorem dX11_isSheet_17 : decode cX11_isSheet 17 = .ok (.iconst 0, 1) := by decide +kernel
theorem dX11_isSheet_18 : decode cX11_isSheet 18 = .ok (.ireturn, 1) := by decide +kernel
abbrev q_X11_isSheet (k : Int) (σ : tw_M) : Option tw_V → tw_M → Prop := fun z τ => ∃ r : Int, z = some (vI r) ∧ (0 ≤ r ∧ r ≤ 1) ∧ σ = τ ∧ ((r = 1 ∧ 0 ≤ k ∧ k < 4) ∨ (r = 0 ∧ ¬ (0 ≤ k ∧ k < 4)))
set_option maxHeartbeats 4000000 in
set_option maxRecDepth 100000 in
theorem c_X11_isSheet {G : tw_G} (hX : tw_isX G) (k : Int) (hk : -2147483648 ≤ k ∧ k ≤ 2147483647) (σ : tw_M) (hI : tw_I σ) : tw_C G yX11_isSheet cX11_isSheet 2 (some .boolean) 0 [vR 0, vI k] σ (q_X11_isSheet k σ) := by
  refine tw_met [(0, vR 0), (1, vI k)] (by decide +kernel) rfl (Nat.le_of_ble_eq_true rfl) ?_
  refine j_iload_n (pc := 0) dX11_isSheet_0 rfl rfl ?_
  refine j_ifR_lt (pc := 1) (tgt := 17) ⟨by omega, by omega⟩ dX11_isSheet_1 rfl (fun h1 => ?_) (fun h1 => ?_)
  · refine j_iconst (pc := 17) dX11_isSheet_17 ?_
    exact j_zret (pc := 18) ⟨rfl, rfl⟩ dX11_isSheet_18 rfl (nar_bool (by omega) (by omega)) ⟨_, rfl, ⟨by omega, by omega⟩, rfl, by omega⟩
  · refine j_iload_n (pc := 4) dX11_isSheet_4 rfl rfl ?_
    refine j_aload_n (pc := 5) dX11_isSheet_5 rfl rfl ?_
    refine j_getR (pc := 6) (r := 79) fl_X11_87 dX11_isSheet_6 (a_0 hX) rfl ?_
    refine j_alenS (pc := 9) dX11_isSheet_9 (a_79 hX) ?_
    refine j_topV (show _ = (4 : Int) from rfl) ?_
    refine j_icmpR_ge (pc := 10) (tgt := 17) ⟨by omega, by omega⟩ ⟨by omega, by omega⟩ dX11_isSheet_10 rfl (fun h2 => ?_) (fun h2 => ?_)
    · refine j_iconst (pc := 17) dX11_isSheet_17 ?_
      exact j_zret (pc := 18) ⟨rfl, rfl⟩ dX11_isSheet_18 rfl (nar_bool (by omega) (by omega)) ⟨_, rfl, ⟨by omega, by omega⟩, rfl, by omega⟩
    · refine j_iconst (pc := 13) dX11_isSheet_13 ?_
      refine j_goto (pc := 14) (tgt := 18) dX11_isSheet_14 rfl ?_
      exact j_zret (pc := 18) ⟨rfl, rfl⟩ dX11_isSheet_18 rfl (nar_bool (by omega) (by omega)) ⟨_, rfl, ⟨by omega, by omega⟩, rfl, by omega⟩
