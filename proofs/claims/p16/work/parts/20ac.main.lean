/-! 20ac.main -/
theorem dX11_isStory_0 : decode cX11_isStory 0 = .ok (.aload_n 0, 1) := by decide +kernel
theorem dX11_isStory_1 : decode cX11_isStory 1 = .ok (.getfield 26, 3) := by decide +kernel
theorem dX11_isStory_4 : decode cX11_isStory 4 = .ok (.getfield 168, 3) := by decide +kernel
theorem dX11_isStory_7 : decode cX11_isStory 7 = .ok (.iload_n 1, 1) := by decide +kernel
theorem dX11_isStory_8 : decode cX11_isStory 8 = .ok (.invokevirtual 211, 3) := by decide +kernel
theorem dX11_isStory_11 : decode cX11_isStory 11 = .ok (.ifCond .eq 22, 3) := by decide +kernel
theorem dX11_isStory_14 : decode cX11_isStory 14 = .ok (.iload_n 2, 1) := by decide +kernel
theorem dX11_isStory_15 : decode cX11_isStory 15 = .ok (.ifCond .eq 14, 3) := by decide +kernel
theorem dX11_isStory_18 : decode cX11_isStory 18 = .ok (.aload_n 0, 1) := by decide +kernel
theorem dX11_isStory_19 : decode cX11_isStory 19 = .ok (.getfield 10, 3) := by decide +kernel
theorem dX11_isStory_22 : decode cX11_isStory 22 = .ok (.iload_n 2, 1) := by decide +kernel
theorem dX11_isStory_23 : decode cX11_isStory 23 = .ok (.invokevirtual 149, 3) := by decide +kernel
theorem dX11_isStory_26 : decode cX11_isStory 26 = .ok (.ifCond .eq 7, 3) := by decide +kernel
theorem dX11_isStory_29 : decode cX11_isStory 29 = .ok (.iconst 1, 1) := by decide +kernel
theorem dX11_isStory_30 : decode cX11_isStory 30 = .ok (.goto 4, 3) := by decide +kernel
theorem dX11_isStory_33 : decode cX11_isStory 33 = .ok (.iconst 0, 1) := by decide +kernel
theorem dX11_isStory_34 : decode cX11_isStory 34 = .ok (.ireturn, 1) := by decide +kernel
abbrev q_X11_isStory (p : Int) (q : Int) (σ : tw_M) : Option tw_V → tw_M → Prop := fun z τ => ∃ r : Int, z = some (vI r) ∧ (0 ≤ r ∧ r ≤ 1) ∧ σ = τ ∧ True
set_option maxHeartbeats 4000000 in
set_option maxRecDepth 100000 in
theorem c_X11_isStory {G : tw_G} (hX : tw_isX G) (p : Int) (hp : -2147483648 ≤ p ∧ p ≤ 2147483647) (q : Int) (hq : -2147483648 ≤ q ∧ q ≤ 2147483647) (σ : tw_M) (hI : tw_I σ) : tw_C G yX11_isStory cX11_isStory 3 (some .boolean) 2 [vR 0, vI p, vI q] σ (q_X11_isStory p q σ) := by
  refine tw_met [(0, vR 0), (1, vI p), (2, vI q)] (by decide +kernel) rfl (Nat.le_of_ble_eq_true rfl) ?_
  refine j_aload_n (pc := 0) dX11_isStory_0 rfl rfl ?_
  refine j_getR (pc := 1) (r := 23) fl_X11_26 dX11_isStory_1 (a_0 hX) rfl ?_
  refine j_getR (pc := 4) (r := 24) fl_X11_168 dX11_isStory_4 (a_23 hX) rfl ?_
  refine j_iload_n (pc := 7) dX11_isStory_7 rfl rfl ?_
  refine j_callV (pc := 8) (As := [vI p]) (st := []) (c_X7_has 24 (s_Row_24 hX) p ⟨by omega, by omega⟩ σ hI) mv_X11_211 rfl rfl rfl (a_24 hX) dX11_isStory_8 ⟨Nat.le_of_ble_eq_true rfl, Nat.le_of_ble_eq_true rfl⟩ ⟨Nat.le_refl _, Nat.le_refl _⟩ rfl (Nat.le_of_ble_eq_true rfl) rfl (fun z1 σ2 hz1 => ?_)
  obtain ⟨r4, rfl, hr4, rfl, -⟩ := hz1
  refine j_st (st' := [vI r4]) rfl ?_
  refine j_ifR_eq (pc := 11) (tgt := 33) ⟨by omega, by omega⟩ dX11_isStory_11 rfl (fun h5 => ?_) (fun h5 => ?_)
  · refine j_iconst (pc := 33) dX11_isStory_33 ?_
    exact j_zret (pc := 34) ⟨rfl, rfl⟩ dX11_isStory_34 rfl (nar_bool (by omega) (by omega)) ⟨_, rfl, ⟨by omega, by omega⟩, rfl, trivial⟩
  · refine j_iload_n (pc := 14) dX11_isStory_14 rfl rfl ?_
    refine j_ifR_eq (pc := 15) (tgt := 29) ⟨by omega, by omega⟩ dX11_isStory_15 rfl (fun h6 => ?_) (fun h6 => ?_)
    · refine j_iconst (pc := 29) dX11_isStory_29 ?_
      refine j_goto (pc := 30) (tgt := 34) dX11_isStory_30 rfl ?_
      exact j_zret (pc := 34) ⟨rfl, rfl⟩ dX11_isStory_34 rfl (nar_bool (by omega) (by omega)) ⟨_, rfl, ⟨by omega, by omega⟩, rfl, trivial⟩
    · refine j_aload_n (pc := 18) dX11_isStory_18 rfl rfl ?_
      refine j_getR (pc := 19) (r := 1) fl_X11_10 dX11_isStory_19 (a_0 hX) rfl ?_
      refine j_iload_n (pc := 22) dX11_isStory_22 rfl rfl ?_
      refine j_callV (pc := 23) (As := [vI q]) (st := []) (c_X10_isFoot 1 (s_Wall_1 hX) q ⟨by omega, by omega⟩ σ hI) mv_X11_149 rfl rfl rfl (a_1 hX) dX11_isStory_23 ⟨Nat.le_of_ble_eq_true rfl, Nat.le_of_ble_eq_true rfl⟩ ⟨Nat.le_refl _, Nat.le_refl _⟩ rfl (Nat.le_of_ble_eq_true rfl) rfl (fun z7 σ8 hz7 => ?_)
      obtain ⟨r10, rfl, hr10, rfl, q9_0⟩ := hz7
      replace q9_0 : (r10 = 1 ∧ 1 ≤ q ∧ q ≤ σ 2 0 ∧ q ≤ 40) ∨ (r10 = 0 ∧ ¬ (1 ≤ q ∧ q ≤ σ 2 0)) := q9_0
      refine j_st (st' := [vI r10]) rfl ?_
      refine j_ifR_eq (pc := 26) (tgt := 33) ⟨by omega, by omega⟩ dX11_isStory_26 rfl (fun h11 => ?_) (fun h11 => ?_)
      · refine j_iconst (pc := 33) dX11_isStory_33 ?_
        exact j_zret (pc := 34) ⟨rfl, rfl⟩ dX11_isStory_34 rfl (nar_bool (by omega) (by omega)) ⟨_, rfl, ⟨by omega, by omega⟩, rfl, trivial⟩
      · refine j_iconst (pc := 29) dX11_isStory_29 ?_
        refine j_goto (pc := 30) (tgt := 34) dX11_isStory_30 rfl ?_
        exact j_zret (pc := 34) ⟨rfl, rfl⟩ dX11_isStory_34 rfl (nar_bool (by omega) (by omega)) ⟨_, rfl, ⟨by omega, by omega⟩, rfl, trivial⟩
