/-! 32ai.model -/
theorem dX12_racked_0 : decode cX12_racked 0 = .ok (.iconst 0, 1) := by decide +kernel
theorem dX12_racked_1 : decode cX12_racked 1 = .ok (.istore_n 1, 1) := by decide +kernel
theorem dX12_racked_2 : decode cX12_racked 2 = .ok (.iconst 1, 1) := by decide +kernel
theorem dX12_racked_3 : decode cX12_racked 3 = .ok (.istore_n 2, 1) := by decide +kernel
theorem dX12_racked_4 : decode cX12_racked 4 = .ok (.iload_n 2, 1) := by decide +kernel
theorem dX12_racked_5 : decode cX12_racked 5 = .ok (.bipush 10, 2) := by decide +kernel
theorem dX12_racked_7 : decode cX12_racked 7 = .ok (.if_icmp .gt 21, 3) := by decide +kernel
theorem dX12_racked_10 : decode cX12_racked 10 = .ok (.iload_n 1, 1) := by decide +kernel
theorem dX12_racked_11 : decode cX12_racked 11 = .ok (.aload_n 0, 1) := by decide +kernel
theorem dX12_racked_12 : decode cX12_racked 12 = .ok (.getfield 7, 3) := by decide +kernel
theorem dX12_racked_15 : decode cX12_racked 15 = .ok (.bipush 82, 2) := by decide +kernel
theorem dX12_racked_17 : decode cX12_racked 17 = .ok (.iload_n 2, 1) := by decide +kernel
theorem dX12_racked_18 : decode cX12_racked 18 = .ok (.iadd, 1) := by decide +kernel
theorem dX12_racked_19 : decode cX12_racked 19 = .ok (.iaload, 1) := by decide +kernel
theorem dX12_racked_20 : decode cX12_racked 20 = .ok (.iadd, 1) := by decide +kernel
theorem dX12_racked_21 : decode cX12_racked 21 = .ok (.istore_n 1, 1) := by decide +kernel
theorem dX12_racked_22 : decode cX12_racked 22 = .ok (.iinc 2 1, 3) := by decide +kernel
theorem dX12_racked_25 : decode cX12_racked 25 = .ok (.goto (-21), 3) := by decide +kernel
theorem dX12_racked_28 : decode cX12_racked 28 = .ok (.iload_n 1, 1) := by decide +kernel
theorem dX12_racked_29 : decode cX12_racked 29 = .ok (.ireturn, 1) := by decide +kernel
abbrev q_X12_racked  (σ : tw_M) : Option tw_V → tw_M → Prop := fun z τ => ∃ r : Int, z = some (vI r) ∧ (-2147483648 ≤ r ∧ r ≤ 2147483647) ∧ σ = τ ∧ True
set_option maxHeartbeats 4000000 in
set_option maxRecDepth 100000 in
theorem l_X12_racked {G : tw_G} (hM : tw_isM G) (σ : tw_M) (hI : tw_I σ) : ∀ N_ : Nat, (∀ (n : Int) (hn : -2147483648 ≤ n ∧ n ≤ 2147483647) (k : Int) (hk : 1 ≤ k ∧ k ≤ 11)  (hm : (11 - k).toNat < N_), tw_J G (tw_mt RX12 cX12_racked 3 (some .int) 0) (tw_E G (q_X12_racked σ)) 4 [(0, vR 88), (1, vI n), (2, vI k)] [] σ) := by
  intro N_
  induction N_ with
  | zero => exact fun n hn k hk hm => absurd hm (Nat.not_lt_zero _)
  | succ N_ ih =>
    intro n hn k hk hm
    refine j_iload_n (pc := 4) dX12_racked_4 rfl rfl ?_
    refine j_bipush (pc := 5) dX12_racked_5 rfl ?_
    refine j_icmpR_gt (pc := 7) (tgt := 28) ⟨by omega, by omega⟩ ⟨by omega, by omega⟩ dX12_racked_7 rfl (fun h1 => ?_) (fun h1 => ?_)
    · refine j_iload_n (pc := 28) dX12_racked_28 rfl rfl ?_
      exact j_iret (pc := 29) ⟨rfl, rfl⟩ dX12_racked_29 rfl ⟨_, rfl, ⟨by omega, by omega⟩, rfl, trivial⟩
    · refine j_iload_n (pc := 10) dX12_racked_10 rfl rfl ?_
      refine j_aload_n (pc := 11) dX12_racked_11 rfl rfl ?_
      refine j_getR (pc := 12) (r := 89) fl_X12_7 dX12_racked_12 (a_88 hM) rfl ?_
      refine j_bipush (pc := 15) dX12_racked_15 rfl ?_
      refine j_iload_n (pc := 17) dX12_racked_17 rfl rfl ?_
      refine j_iadd (pc := 18) dX12_racked_18 ?_
      refine j_iald (pc := 19) dX12_racked_19 (a_89 hM) (by omega) (by omega) (by decide) ?_
      have f2 : (-2147483648 : Int) ≤ σ 89 ((82 + k).toNat) ∧ σ 89 ((82 + k).toNat) ≤ 2147483647 := st_D hI _
      refine j_iadd (pc := 20) dX12_racked_20 ?_
      refine j_top (fun z3 ez3 hz3 => ?_)
      refine j_istore_n (pc := 21) (i := 1) (ls' := [(0, vR 88), (1, vI z3), (2, vI k)]) [1, 0, 2] dX12_racked_21 rfl (Nat.le_of_ble_eq_true rfl) rfl rfl ?_
      refine j_iinc (pc := 22) (i := 2) (n := 1) (ls' := [(0, vR 88), (1, vI z3), (2, vI (k + 1))]) [1, 2, 0] dX12_racked_22 rfl (Nat.le_of_ble_eq_true rfl) rfl rfl ?_
      refine j_goto (pc := 25) (tgt := 4) dX12_racked_25 rfl ?_
      refine j_ls (ls' := [(0, vR 88), (1, vI z3), (2, vI (k + 1))]) [0, 1, 2] rfl ?_
      exact ih z3 ⟨by omega, by omega⟩ (k + 1) ⟨by omega, by omega⟩ (show (11 - (k + 1)).toNat < N_ from by omega)
set_option maxHeartbeats 4000000 in
set_option maxRecDepth 100000 in
theorem c_X12_racked {G : tw_G} (hM : tw_isM G) (σ : tw_M) (hI : tw_I σ) : tw_C G yX12_racked cX12_racked 3 (some .int) 0 [vR 88] σ (q_X12_racked σ) := by
  refine tw_met [(0, vR 88)] (by decide +kernel) rfl (Nat.le_of_ble_eq_true rfl) ?_
  refine j_iconst (pc := 0) dX12_racked_0 ?_
  refine j_istore_n (pc := 1) (i := 1) (ls' := [(0, vR 88), (1, vI 0)]) [1, 0] dX12_racked_1 rfl (Nat.le_of_ble_eq_true rfl) rfl rfl ?_
  refine j_iconst (pc := 2) dX12_racked_2 ?_
  refine j_istore_n (pc := 3) (i := 2) (ls' := [(0, vR 88), (1, vI 0), (2, vI 1)]) [1, 2, 0] dX12_racked_3 rfl (Nat.le_of_ble_eq_true rfl) rfl rfl ?_
  refine j_ls (ls' := [(0, vR 88), (1, vI 0), (2, vI 1)]) [0, 1, 2] rfl ?_
  exact (l_X12_racked hM σ hI (((11 - (1 : Int)).toNat) + 1)) 0 (by (first | decide | exact ⟨by omega, by omega⟩)) 1 (by (first | decide | exact ⟨by omega, by omega⟩)) (Nat.lt_succ_self _)
