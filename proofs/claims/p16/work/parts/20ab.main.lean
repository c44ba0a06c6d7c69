/-! 20ab.main -/
theorem dX11_isOf_0 : decode cX11_isOf 0 = .ok (.iload_n 0, 1) := by decide +kernel
theorem dX11_isOf_1 : decode cX11_isOf 1 = .ok (.ifCond .lt 8, 3) := by decide +kernel
theorem dX11_isOf_4 : decode cX11_isOf 4 = .ok (.iload_n 0, 1) := by decide +kernel
theorem dX11_isOf_5 : decode cX11_isOf 5 = .ok (.iload_n 1, 1) := by decide +kernel
theorem dX11_isOf_6 : decode cX11_isOf 6 = .ok (.if_icmp .lt 17, 3) := by decide +kernel
theorem dX11_isOf_9 : decode cX11_isOf 9 = .ok (.iload_n 0, 1) := by decide +kernel
theorem dX11_isOf_10 : decode cX11_isOf 10 = .ok (.bipush 10, 2) := by decide +kernel
theorem dX11_isOf_12 : decode cX11_isOf 12 = .ok (.if_icmp .lt 15, 3) := by decide +kernel
theorem dX11_isOf_15 : decode cX11_isOf 15 = .ok (.iload_n 0, 1) := by decide +kernel
theorem dX11_isOf_16 : decode cX11_isOf 16 = .ok (.bipush 10, 2) := by decide +kernel
theorem dX11_isOf_18 : decode cX11_isOf 18 = .ok (.isub, 1) := by decide +kernel
theorem dX11_isOf_19 : decode cX11_isOf 19 = .ok (.iload_n 2, 1) := by decide +kernel
theorem dX11_isOf_20 : decode cX11_isOf 20 = .ok (.if_icmp .ge 7, 3) := by decide +kernel
theorem dX11_isOf_23 : decode cX11_isOf 23 = .ok (.iconst 1, 1) := by decide +kernel
theorem dX11_isOf_24 : decode cX11_isOf 24 = .ok (.goto 4, 3) := by decide +kernel
theorem dX11_isOf_27 : decode cX11_isOf 27 = .ok (.iconst 0, 1) := by decide +kernel
theorem dX11_isOf_28 : decode cX11_isOf 28 = .ok (.ireturn, 1) := by decide +kernel
abbrev q_X11_isOf (x : Int) (f : Int) (m : Int) (σ : tw_M) : Option tw_V → tw_M → Prop := fun z τ => ∃ r : Int, z = some (vI r) ∧ (0 ≤ r ∧ r ≤ 1) ∧ σ = τ ∧ ((r = 1 ∧ ((0 ≤ x ∧ x < f) ∨ (10 ≤ x ∧ x - 10 < m))) ∨ (r = 0 ∧ ¬ ((0 ≤ x ∧ x < f) ∨ (10 ≤ x ∧ x - 10 < m))))
set_option maxHeartbeats 4000000 in
set_option maxRecDepth 100000 in
theorem c_X11_isOf {G : tw_G} (x : Int) (hx : -2147483648 ≤ x ∧ x ≤ 2147483647) (f : Int) (hf : -2147483648 ≤ f ∧ f ≤ 2147483647) (m : Int) (hm : -2147483648 ≤ m ∧ m ≤ 2147483647) (σ : tw_M) (hI : tw_I σ) : tw_C G yX11_isOf cX11_isOf 3 (some .boolean) 0 [vI x, vI f, vI m] σ (q_X11_isOf x f m σ) := by
  refine tw_met [(0, vI x), (1, vI f), (2, vI m)] (by decide +kernel) rfl (Nat.le_of_ble_eq_true rfl) ?_
  refine j_iload_n (pc := 0) dX11_isOf_0 rfl rfl ?_
  refine j_ifR_lt (pc := 1) (tgt := 9) ⟨by omega, by omega⟩ dX11_isOf_1 rfl (fun h1 => ?_) (fun h1 => ?_)
  · refine j_iload_n (pc := 9) dX11_isOf_9 rfl rfl ?_
    refine j_bipush (pc := 10) dX11_isOf_10 rfl ?_
    refine j_icmpR_lt (pc := 12) (tgt := 27) ⟨by omega, by omega⟩ ⟨by omega, by omega⟩ dX11_isOf_12 rfl (fun h2 => ?_) (fun h2 => by exfalso; omega)
    refine j_iconst (pc := 27) dX11_isOf_27 ?_
    exact j_zret (pc := 28) ⟨rfl, rfl⟩ dX11_isOf_28 rfl (nar_bool (by omega) (by omega)) ⟨_, rfl, ⟨by omega, by omega⟩, rfl, by omega⟩
  · refine j_iload_n (pc := 4) dX11_isOf_4 rfl rfl ?_
    refine j_iload_n (pc := 5) dX11_isOf_5 rfl rfl ?_
    refine j_icmpR_lt (pc := 6) (tgt := 23) ⟨by omega, by omega⟩ ⟨by omega, by omega⟩ dX11_isOf_6 rfl (fun h3 => ?_) (fun h3 => ?_)
    · refine j_iconst (pc := 23) dX11_isOf_23 ?_
      refine j_goto (pc := 24) (tgt := 28) dX11_isOf_24 rfl ?_
      exact j_zret (pc := 28) ⟨rfl, rfl⟩ dX11_isOf_28 rfl (nar_bool (by omega) (by omega)) ⟨_, rfl, ⟨by omega, by omega⟩, rfl, by omega⟩
    · refine j_iload_n (pc := 9) dX11_isOf_9 rfl rfl ?_
      refine j_bipush (pc := 10) dX11_isOf_10 rfl ?_
      refine j_icmpR_lt (pc := 12) (tgt := 27) ⟨by omega, by omega⟩ ⟨by omega, by omega⟩ dX11_isOf_12 rfl (fun h4 => ?_) (fun h4 => ?_)
      · refine j_iconst (pc := 27) dX11_isOf_27 ?_
        exact j_zret (pc := 28) ⟨rfl, rfl⟩ dX11_isOf_28 rfl (nar_bool (by omega) (by omega)) ⟨_, rfl, ⟨by omega, by omega⟩, rfl, by omega⟩
      · refine j_iload_n (pc := 15) dX11_isOf_15 rfl rfl ?_
        refine j_bipush (pc := 16) dX11_isOf_16 rfl ?_
        refine j_isub (pc := 18) dX11_isOf_18 ?_
        refine j_iload_n (pc := 19) dX11_isOf_19 rfl rfl ?_
        refine j_icmpR_ge (pc := 20) (tgt := 27) ⟨by omega, by omega⟩ ⟨by omega, by omega⟩ dX11_isOf_20 rfl (fun h5 => ?_) (fun h5 => ?_)
        · refine j_iconst (pc := 27) dX11_isOf_27 ?_
          exact j_zret (pc := 28) ⟨rfl, rfl⟩ dX11_isOf_28 rfl (nar_bool (by omega) (by omega)) ⟨_, rfl, ⟨by omega, by omega⟩, rfl, by omega⟩
        · refine j_iconst (pc := 23) dX11_isOf_23 ?_
          refine j_goto (pc := 24) (tgt := 28) dX11_isOf_24 rfl ?_
          exact j_zret (pc := 28) ⟨rfl, rfl⟩ dX11_isOf_28 rfl (nar_bool (by omega) (by omega)) ⟨_, rfl, ⟨by omega, by omega⟩, rfl, by omega⟩
