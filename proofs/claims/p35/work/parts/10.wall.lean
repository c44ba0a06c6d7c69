/-! 10.wall -/
theorem dX10_top_0 : decode cX10_top 0 = .ok (.aload_n 0, 1) := by decide +kernel
theorem dX10_top_1 : decode cX10_top 1 = .ok (.getfield 11, 3) := by decide +kernel
theorem dX10_top_4 : decode cX10_top 4 = .ok (.iconst 0, 1) := by decide +kernel
theorem dX10_top_5 : decode cX10_top 5 = .ok (.iaload, 1) := by decide +kernel
theorem dX10_top_6 : decode cX10_top 6 = .ok (.ireturn, 1) := by decide +kernel
theorem dX10_isFoot_0 : decode cX10_isFoot 0 = .ok (.iload_n 1, 1) := by decide +kernel
theorem dX10_isFoot_1 : decode cX10_isFoot 1 = .ok (.iconst 1, 1) := by decide +kernel
theorem dX10_isFoot_2 : decode cX10_isFoot 2 = .ok (.if_icmp .lt 17, 3) := by decide +kernel
theorem dX10_isFoot_5 : decode cX10_isFoot 5 = .ok (.iload_n 1, 1) := by decide +kernel
theorem dX10_isFoot_6 : decode cX10_isFoot 6 = .ok (.aload_n 0, 1) := by decide +kernel
theorem dX10_isFoot_7 : decode cX10_isFoot 7 = .ok (.getfield 11, 3) := by decide +kernel
theorem dX10_isFoot_10 : decode cX10_isFoot 10 = .ok (.iconst 0, 1) := by decide +kernel
theorem dX10_isFoot_11 : decode cX10_isFoot 11 = .ok (.iaload, 1) := by decide +kernel
theorem dX10_isFoot_12 : decode cX10_isFoot 12 = .ok (.if_icmp .gt 7, 3) := by decide +kernel
theorem dX10_isFoot_15 : decode cX10_isFoot 15 = .ok (.iconst 1, 1) := by decide +kernel
theorem dX10_isFoot_16 : decode cX10_isFoot 16 = .ok (.goto 4, 3) := by decide +kernel
theorem dX10_isFoot_19 : decode cX10_isFoot 19 = .ok (.iconst 0, 1) := by decide +kernel
theorem dX10_isFoot_20 : decode cX10_isFoot 20 = .ok (.ireturn, 1) := by decide +kernel
theorem dX7_at_0 : decode cX7_at 0 = .ok (.iconst 0, 1) := by decide +kernel
theorem dX7_at_1 : decode cX7_at 1 = .ok (.istore_n 2, 1) := by decide +kernel
theorem dX7_at_2 : decode cX7_at 2 = .ok (.iload_n 2, 1) := by decide +kernel
theorem dX7_at_3 : decode cX7_at 3 = .ok (.aload_n 0, 1) := by decide +kernel
theorem dX7_at_4 : decode cX7_at 4 = .ok (.getfield 9, 3) := by decide +kernel
theorem dX7_at_7 : decode cX7_at 7 = .ok (.if_icmp .ge 21, 3) := by decide +kernel
theorem dX7_at_10 : decode cX7_at 10 = .ok (.aload_n 0, 1) := by decide +kernel
theorem dX7_at_11 : decode cX7_at 11 = .ok (.getfield 15, 3) := by decide +kernel
theorem dX7_at_14 : decode cX7_at 14 = .ok (.iload_n 2, 1) := by decide +kernel
theorem dX7_at_15 : decode cX7_at 15 = .ok (.iaload, 1) := by decide +kernel
theorem dX7_at_16 : decode cX7_at 16 = .ok (.iload_n 1, 1) := by decide +kernel
theorem dX7_at_17 : decode cX7_at 17 = .ok (.if_icmp .ne 5, 3) := by decide +kernel
theorem dX7_at_20 : decode cX7_at 20 = .ok (.iload_n 2, 1) := by decide +kernel
theorem dX7_at_21 : decode cX7_at 21 = .ok (.ireturn, 1) := by decide +kernel
theorem dX7_at_22 : decode cX7_at 22 = .ok (.iinc 2 1, 3) := by decide +kernel
theorem dX7_at_25 : decode cX7_at 25 = .ok (.goto (-23), 3) := by decide +kernel
theorem dX7_at_28 : decode cX7_at 28 = .ok (.bipush (-4), 2) := by decide +kernel
theorem dX7_at_30 : decode cX7_at 30 = .ok (.ireturn, 1) := by decide +kernel
abbrev q_X10_top (w : Nat) (σ : tw_M) : Option tw_V → tw_M → Prop := fun z τ => ∃ r : Int, z = some (vI r) ∧ (1 ≤ r ∧ r ≤ 40) ∧ τ = σ ∧ (r = σ (w + 1) 0)
set_option maxHeartbeats 4000000 in
set_option maxRecDepth 100000 in
theorem c_X10_top {G : tw_G} (w : Nat) (hw : IsWall G w) (σ : tw_M) (hI : tw_I σ) : tw_C G yX10_top cX10_top 1 (some .int) 0 [vR w] σ (q_X10_top w σ) := by
  refine tw_met [(0, vR w)] (by decide +kernel) rfl (Nat.le_of_ble_eq_true rfl) ?_
  refine j_aload_n (pc := 0) dX10_top_0 rfl rfl ?_
  refine j_getR (pc := 1) (r := w + 1) fl_X10_11 dX10_top_1 hw.1.1 rfl ?_
  refine j_iconst (pc := 4) dX10_top_4 ?_
  refine j_iald (pc := 5) dX10_top_5 hw.1.2.1 (by omega) (by omega) (by decide) ?_
  refine j_topV (show σ (w + 1) (Int.toNat 0) = σ (w + 1) 0 from rfl) ?_
  have f1 : (1 : Int) ≤ σ (w + 1) 0 ∧ σ (w + 1) 0 ≤ 40 := tw_Ig hw.2.2.1 hI 0
  exact j_iret (pc := 6) ⟨rfl, rfl⟩ dX10_top_6 rfl ⟨_, rfl, ⟨by omega, by omega⟩, rfl, by omega⟩
abbrev q_X10_isFoot (w : Nat) (h : Int) (σ : tw_M) : Option tw_V → tw_M → Prop := fun z τ => ∃ r : Int, z = some (vI r) ∧ (0 ≤ r ∧ r ≤ 1) ∧ τ = σ ∧ ((r = 1 ∧ 1 ≤ h ∧ h ≤ σ (w + 1) 0) ∨ (r = 0 ∧ ¬ (1 ≤ h ∧ h ≤ σ (w + 1) 0)))
set_option maxHeartbeats 4000000 in
set_option maxRecDepth 100000 in
theorem c_X10_isFoot {G : tw_G} (w : Nat) (hw : IsWall G w) (h : Int) (hh : -2147483648 ≤ h ∧ h ≤ 2147483647) (σ : tw_M) (hI : tw_I σ) : tw_C G yX10_isFoot cX10_isFoot 2 (some .boolean) 0 [vR w, vI h] σ (q_X10_isFoot w h σ) := by
  refine tw_met [(0, vR w), (1, vI h)] (by decide +kernel) rfl (Nat.le_of_ble_eq_true rfl) ?_
  refine j_iload_n (pc := 0) dX10_isFoot_0 rfl rfl ?_
  refine j_iconst (pc := 1) dX10_isFoot_1 ?_
  refine j_icmpR_lt (pc := 2) (tgt := 19) ⟨by omega, by omega⟩ ⟨by omega, by omega⟩ dX10_isFoot_2 rfl (fun h1 => ?_) (fun h1 => ?_)
  · refine j_iconst (pc := 19) dX10_isFoot_19 ?_
    exact j_zret (pc := 20) ⟨rfl, rfl⟩ dX10_isFoot_20 rfl (nar_bool (by omega) (by omega)) ⟨_, rfl, ⟨by omega, by omega⟩, rfl, by omega⟩
  · refine j_iload_n (pc := 5) dX10_isFoot_5 rfl rfl ?_
    refine j_aload_n (pc := 6) dX10_isFoot_6 rfl rfl ?_
    refine j_getR (pc := 7) (r := w + 1) fl_X10_11 dX10_isFoot_7 hw.1.1 rfl ?_
    refine j_iconst (pc := 10) dX10_isFoot_10 ?_
    refine j_iald (pc := 11) dX10_isFoot_11 hw.1.2.1 (by omega) (by omega) (by decide) ?_
    refine j_topV (show σ (w + 1) (Int.toNat 0) = σ (w + 1) 0 from rfl) ?_
    have f2 : (1 : Int) ≤ σ (w + 1) 0 ∧ σ (w + 1) 0 ≤ 40 := tw_Ig hw.2.2.1 hI 0
    refine j_icmpR_gt (pc := 12) (tgt := 19) ⟨by omega, by omega⟩ ⟨by omega, by omega⟩ dX10_isFoot_12 rfl (fun h3 => ?_) (fun h3 => ?_)
    · refine j_iconst (pc := 19) dX10_isFoot_19 ?_
      exact j_zret (pc := 20) ⟨rfl, rfl⟩ dX10_isFoot_20 rfl (nar_bool (by omega) (by omega)) ⟨_, rfl, ⟨by omega, by omega⟩, rfl, by omega⟩
    · refine j_iconst (pc := 15) dX10_isFoot_15 ?_
      refine j_goto (pc := 16) (tgt := 20) dX10_isFoot_16 rfl ?_
      exact j_zret (pc := 20) ⟨rfl, rfl⟩ dX10_isFoot_20 rfl (nar_bool (by omega) (by omega)) ⟨_, rfl, ⟨by omega, by omega⟩, rfl, by omega⟩
abbrev q_X7_at (o : Nat) (h : Int) (σ : tw_M) : Option tw_V → tw_M → Prop := fun z τ => ∃ r : Int, z = some (vI r) ∧ (-4 ≤ r ∧ r ≤ 9) ∧ τ = σ ∧ (r < σ o 0) ∧ (-1 < r ∨ r = -4)
set_option maxHeartbeats 4000000 in
set_option maxRecDepth 100000 in
theorem l_X7_at {G : tw_G} (o : Nat) (ho : IsRow G o) (h : Int) (hh : -2147483648 ≤ h ∧ h ≤ 2147483647) (σ : tw_M) (hI : tw_I σ) : ∀ n : Nat, (∀ (k : Int) (hk : 0 ≤ k ∧ k ≤ 10)  (hm : (10 - k).toNat < n), tw_J G (tw_mt RX7 cX7_at 3 (some .int) 0) (tw_E G (q_X7_at o h σ)) 2 [(0, vR o), (1, vI h), (2, vI k)] [] σ) := by
  intro n
  induction n with
  | zero => exact fun k hk hm => absurd hm (Nat.not_lt_zero _)
  | succ n ih =>
    intro k hk hm
    refine j_iload_n (pc := 2) dX7_at_2 rfl rfl ?_
    refine j_aload_n (pc := 3) dX7_at_3 rfl rfl ?_
    refine j_getI (pc := 4) fl_X7_9 dX7_at_4 ho.1.1 rfl ?_
    have f1 : (0 : Int) ≤ σ o 0 ∧ σ o 0 ≤ 10 := tw_Ig ho.2.1 hI 0
    refine j_icmpR_ge (pc := 7) (tgt := 28) ⟨by omega, by omega⟩ ⟨by omega, by omega⟩ dX7_at_7 rfl (fun h2 => ?_) (fun h2 => ?_)
    · refine j_bipush (pc := 28) dX7_at_28 rfl ?_
      exact j_iret (pc := 30) ⟨rfl, rfl⟩ dX7_at_30 rfl ⟨_, rfl, ⟨by omega, by omega⟩, rfl, by omega, by omega⟩
    · refine j_aload_n (pc := 10) dX7_at_10 rfl rfl ?_
      refine j_getR (pc := 11) (r := o + 1) fl_X7_15 dX7_at_11 ho.1.1 rfl ?_
      refine j_iload_n (pc := 14) dX7_at_14 rfl rfl ?_
      refine j_iald (pc := 15) dX7_at_15 ho.1.2.1 (by omega) (by omega) (by decide) ?_
      have f3 : (0 : Int) ≤ σ (o + 1) (k.toNat) ∧ σ (o + 1) (k.toNat) ≤ 40 := tw_Ig ho.2.2.1 hI (k.toNat)
      refine j_iload_n (pc := 16) dX7_at_16 rfl rfl ?_
      refine j_icmpR_ne (pc := 17) (tgt := 22) ⟨by omega, by omega⟩ ⟨by omega, by omega⟩ dX7_at_17 rfl (fun h4 => ?_) (fun h4 => ?_)
      · refine j_iinc (pc := 22) (i := 2) (n := 1) (ls' := [(0, vR o), (1, vI h), (2, vI (k + 1))]) [1, 2, 0] dX7_at_22 rfl (Nat.le_of_ble_eq_true rfl) rfl rfl ?_
        refine j_goto (pc := 25) (tgt := 2) dX7_at_25 rfl ?_
        refine j_ls (ls' := [(0, vR o), (1, vI h), (2, vI (k + 1))]) [0, 1, 2] rfl ?_
        exact ih (k + 1) ⟨by omega, by omega⟩ (show (10 - (k + 1)).toNat < n from by omega)
      · refine j_iload_n (pc := 20) dX7_at_20 rfl rfl ?_
        exact j_iret (pc := 21) ⟨rfl, rfl⟩ dX7_at_21 rfl ⟨_, rfl, ⟨by omega, by omega⟩, rfl, by omega, by omega⟩
set_option maxHeartbeats 4000000 in
set_option maxRecDepth 100000 in
theorem c_X7_at {G : tw_G} (o : Nat) (ho : IsRow G o) (h : Int) (hh : -2147483648 ≤ h ∧ h ≤ 2147483647) (σ : tw_M) (hI : tw_I σ) : tw_C G yX7_at cX7_at 3 (some .int) 0 [vR o, vI h] σ (q_X7_at o h σ) := by
  refine tw_met [(0, vR o), (1, vI h)] (by decide +kernel) rfl (Nat.le_of_ble_eq_true rfl) ?_
  refine j_iconst (pc := 0) dX7_at_0 ?_
  refine j_istore_n (pc := 1) (i := 2) (ls' := [(0, vR o), (1, vI h), (2, vI 0)]) [1, 2, 0] dX7_at_1 rfl (Nat.le_of_ble_eq_true rfl) rfl rfl ?_
  refine j_ls (ls' := [(0, vR o), (1, vI h), (2, vI 0)]) [0, 1, 2] rfl ?_
  exact (l_X7_at o ho h hh σ hI (((10 - 0).toNat) + 1)) 0 ⟨by omega, by omega⟩ (Nat.lt_succ_self _)
