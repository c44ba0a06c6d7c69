/-! 30ac.model -/
theorem dX12_turnsCost_0 : decode cX12_turnsCost 0 = .ok (.iconst 0, 1) := by decide +kernel
theorem dX12_turnsCost_1 : decode cX12_turnsCost 1 = .ok (.istore 4, 2) := by decide +kernel
theorem dX12_turnsCost_3 : decode cX12_turnsCost 3 = .ok (.iconst 0, 1) := by decide +kernel
theorem dX12_turnsCost_4 : decode cX12_turnsCost 4 = .ok (.istore 5, 2) := by decide +kernel
theorem dX12_turnsCost_6 : decode cX12_turnsCost 6 = .ok (.iload 5, 2) := by decide +kernel
theorem dX12_turnsCost_8 : decode cX12_turnsCost 8 = .ok (.aload_n 0, 1) := by decide +kernel
theorem dX12_turnsCost_9 : decode cX12_turnsCost 9 = .ok (.getfield 326, 3) := by decide +kernel
theorem dX12_turnsCost_12 : decode cX12_turnsCost 12 = .ok (.if_icmp .ge 34, 3) := by decide +kernel
theorem dX12_turnsCost_15 : decode cX12_turnsCost 15 = .ok (.iload 4, 2) := by decide +kernel
theorem dX12_turnsCost_17 : decode cX12_turnsCost 17 = .ok (.aload_n 0, 1) := by decide +kernel
theorem dX12_turnsCost_18 : decode cX12_turnsCost 18 = .ok (.iload 5, 2) := by decide +kernel
theorem dX12_turnsCost_20 : decode cX12_turnsCost 20 = .ok (.iload 5, 2) := by decide +kernel
theorem dX12_turnsCost_22 : decode cX12_turnsCost 22 = .ok (.iload_n 3, 1) := by decide +kernel
theorem dX12_turnsCost_23 : decode cX12_turnsCost 23 = .ok (.iadd, 1) := by decide +kernel
theorem dX12_turnsCost_24 : decode cX12_turnsCost 24 = .ok (.iconst 2, 1) := by decide +kernel
theorem dX12_turnsCost_25 : decode cX12_turnsCost 25 = .ok (.irem, 1) := by decide +kernel
theorem dX12_turnsCost_26 : decode cX12_turnsCost 26 = .ok (.ifCond .ne 7, 3) := by decide +kernel
theorem dX12_turnsCost_29 : decode cX12_turnsCost 29 = .ok (.iload_n 1, 1) := by decide +kernel
theorem dX12_turnsCost_30 : decode cX12_turnsCost 30 = .ok (.goto 4, 3) := by decide +kernel
theorem dX12_turnsCost_33 : decode cX12_turnsCost 33 = .ok (.iload_n 2, 1) := by decide +kernel
theorem dX12_turnsCost_34 : decode cX12_turnsCost 34 = .ok (.invokevirtual 334, 3) := by decide +kernel
theorem dX12_turnsCost_37 : decode cX12_turnsCost 37 = .ok (.iadd, 1) := by decide +kernel
theorem dX12_turnsCost_38 : decode cX12_turnsCost 38 = .ok (.istore 4, 2) := by decide +kernel
theorem dX12_turnsCost_40 : decode cX12_turnsCost 40 = .ok (.iinc 5 1, 3) := by decide +kernel
theorem dX12_turnsCost_43 : decode cX12_turnsCost 43 = .ok (.goto (-37), 3) := by decide +kernel
theorem dX12_turnsCost_46 : decode cX12_turnsCost 46 = .ok (.iload 4, 2) := by decide +kernel
theorem dX12_turnsCost_48 : decode cX12_turnsCost 48 = .ok (.ireturn, 1) := by decide +kernel
abbrev q_X12_turnsCost (a : Int) (b : Int) (o : Int) (σ : tw_M) : Option tw_V → tw_M → Prop := fun z τ => ∃ r : Int, z = some (vI r) ∧ (-2147483648 ≤ r ∧ r ≤ 2147483647) ∧ σ = τ ∧ True
set_option maxHeartbeats 4000000 in
set_option maxRecDepth 100000 in
theorem l_X12_turnsCost {G : tw_G} (hM : tw_isM G) (a : Int) (ha : 1 ≤ a ∧ a ≤ 9) (b : Int) (hb : 1 ≤ b ∧ b ≤ 9) (o : Int) (ho : 0 ≤ o ∧ o ≤ 1) (σ : tw_M) (hI : tw_I σ) : ∀ N_ : Nat, (∀ (s : Int) (hs : -2147483648 ≤ s ∧ s ≤ 2147483647) (i : Int) (hi : 0 ≤ i ∧ i ≤ 40)  (hm : (40 - i).toNat < N_), tw_J G (tw_mt RX12 cX12_turnsCost 6 (some .int) 2) (tw_E G (q_X12_turnsCost a b o σ)) 6 [(0, vR 88), (1, vI a), (2, vI b), (3, vI o), (4, vI s), (5, vI i)] [] σ) := by
  intro N_
  induction N_ with
  | zero => exact fun s hs i hi hm => absurd hm (Nat.not_lt_zero _)
  | succ N_ ih =>
    intro s hs i hi hm
    refine j_iload (pc := 6) dX12_turnsCost_6 rfl ?_
    refine j_aload_n (pc := 8) dX12_turnsCost_8 rfl rfl ?_
    refine j_getI (pc := 9) fl_X12_326 dX12_turnsCost_9 (a_88 hM) rfl ?_
    have f1 : (-4 : Int) ≤ σ 88 30 ∧ σ 88 30 ≤ 40 := hI 88 30
    refine j_icmpR_ge (pc := 12) (tgt := 46) ⟨by omega, by omega⟩ ⟨by omega, by omega⟩ dX12_turnsCost_12 rfl (fun h2 => ?_) (fun h2 => ?_)
    · refine j_iload (pc := 46) dX12_turnsCost_46 rfl ?_
      exact j_iret (pc := 48) ⟨rfl, rfl⟩ dX12_turnsCost_48 rfl ⟨_, rfl, ⟨by omega, by omega⟩, rfl, trivial⟩
    · refine j_iload (pc := 15) dX12_turnsCost_15 rfl ?_
      refine j_aload_n (pc := 17) dX12_turnsCost_17 rfl rfl ?_
      refine j_iload (pc := 18) dX12_turnsCost_18 rfl ?_
      refine j_iload (pc := 20) dX12_turnsCost_20 rfl ?_
      refine j_iload_n (pc := 22) dX12_turnsCost_22 rfl rfl ?_
      refine j_iadd (pc := 23) dX12_turnsCost_23 ?_
      refine j_iconst (pc := 24) dX12_turnsCost_24 ?_
      refine j_irem (pc := 25) dX12_turnsCost_25 (tw_nz ⟨by omega, by omega⟩ (by omega)) (fun z3 ez3 => ?_)
      have hz3 : (-2147483648 : Int) ≤ z3 ∧ z3 ≤ 2147483647 := by rw [ez3]; exact rem_in _ _
      refine j_ifR_ne (pc := 26) (tgt := 33) ⟨by omega, by omega⟩ dX12_turnsCost_26 rfl (fun h4 => ?_) (fun h4 => ?_)
      · refine j_iload_n (pc := 33) dX12_turnsCost_33 rfl rfl ?_
        refine j_callV (pc := 34) (As := [vI i, vI b]) (st := [vI s]) (c_X12_costOf hM i ⟨by omega, by omega⟩ b ⟨by omega, by omega⟩ σ hI) mv_X12_334 rfl rfl rfl (a_88 hM) dX12_turnsCost_34 ⟨Nat.le_of_ble_eq_true rfl, Nat.le_of_ble_eq_true rfl⟩ ⟨Nat.le_refl _, Nat.le_refl _⟩ rfl (Nat.le_of_ble_eq_true rfl) rfl (fun z5 σ6 hz5 => ?_)
        obtain ⟨r8, rfl, hr8, rfl, -⟩ := hz5
        refine j_st (st' := [vI r8, vI s]) rfl ?_
        refine j_iadd (pc := 37) dX12_turnsCost_37 ?_
        refine j_top (fun z9 ez9 hz9 => ?_)
        refine j_istore (pc := 38) (i := 4) (ls' := [(0, vR 88), (1, vI a), (2, vI b), (3, vI o), (4, vI z9), (5, vI i)]) [1, 2, 3, 4, 0, 5] dX12_turnsCost_38 (Nat.le_of_ble_eq_true rfl) rfl rfl ?_
        refine j_iinc (pc := 40) (i := 5) (n := 1) (ls' := [(0, vR 88), (1, vI a), (2, vI b), (3, vI o), (4, vI z9), (5, vI (i + 1))]) [1, 2, 3, 4, 5, 0] dX12_turnsCost_40 rfl (Nat.le_of_ble_eq_true rfl) rfl rfl ?_
        refine j_goto (pc := 43) (tgt := 6) dX12_turnsCost_43 rfl ?_
        refine j_ls (ls' := [(0, vR 88), (1, vI a), (2, vI b), (3, vI o), (4, vI z9), (5, vI (i + 1))]) [0, 1, 2, 3, 4, 5] rfl ?_
        exact ih z9 ⟨by omega, by omega⟩ (i + 1) ⟨by omega, by omega⟩ (show (40 - (i + 1)).toNat < N_ from by omega)
      · refine j_iload_n (pc := 29) dX12_turnsCost_29 rfl rfl ?_
        refine j_goto (pc := 30) (tgt := 34) dX12_turnsCost_30 rfl ?_
        refine j_callV (pc := 34) (As := [vI i, vI a]) (st := [vI s]) (c_X12_costOf hM i ⟨by omega, by omega⟩ a ⟨by omega, by omega⟩ σ hI) mv_X12_334 rfl rfl rfl (a_88 hM) dX12_turnsCost_34 ⟨Nat.le_of_ble_eq_true rfl, Nat.le_of_ble_eq_true rfl⟩ ⟨Nat.le_refl _, Nat.le_refl _⟩ rfl (Nat.le_of_ble_eq_true rfl) rfl (fun z10 σ11 hz10 => ?_)
        obtain ⟨r13, rfl, hr13, rfl, -⟩ := hz10
        refine j_st (st' := [vI r13, vI s]) rfl ?_
        refine j_iadd (pc := 37) dX12_turnsCost_37 ?_
        refine j_top (fun z14 ez14 hz14 => ?_)
        refine j_istore (pc := 38) (i := 4) (ls' := [(0, vR 88), (1, vI a), (2, vI b), (3, vI o), (4, vI z14), (5, vI i)]) [1, 2, 3, 4, 0, 5] dX12_turnsCost_38 (Nat.le_of_ble_eq_true rfl) rfl rfl ?_
        refine j_iinc (pc := 40) (i := 5) (n := 1) (ls' := [(0, vR 88), (1, vI a), (2, vI b), (3, vI o), (4, vI z14), (5, vI (i + 1))]) [1, 2, 3, 4, 5, 0] dX12_turnsCost_40 rfl (Nat.le_of_ble_eq_true rfl) rfl rfl ?_
        refine j_goto (pc := 43) (tgt := 6) dX12_turnsCost_43 rfl ?_
        refine j_ls (ls' := [(0, vR 88), (1, vI a), (2, vI b), (3, vI o), (4, vI z14), (5, vI (i + 1))]) [0, 1, 2, 3, 4, 5] rfl ?_
        exact ih z14 ⟨by omega, by omega⟩ (i + 1) ⟨by omega, by omega⟩ (show (40 - (i + 1)).toNat < N_ from by omega)
set_option maxHeartbeats 4000000 in
set_option maxRecDepth 100000 in
theorem c_X12_turnsCost {G : tw_G} (hM : tw_isM G) (a : Int) (ha : 1 ≤ a ∧ a ≤ 9) (b : Int) (hb : 1 ≤ b ∧ b ≤ 9) (o : Int) (ho : 0 ≤ o ∧ o ≤ 1) (σ : tw_M) (hI : tw_I σ) : tw_C G yX12_turnsCost cX12_turnsCost 6 (some .int) 2 [vR 88, vI a, vI b, vI o] σ (q_X12_turnsCost a b o σ) := by
  refine tw_met [(0, vR 88), (1, vI a), (2, vI b), (3, vI o)] (by decide +kernel) rfl (Nat.le_of_ble_eq_true rfl) ?_
  refine j_iconst (pc := 0) dX12_turnsCost_0 ?_
  refine j_istore (pc := 1) (i := 4) (ls' := [(0, vR 88), (1, vI a), (2, vI b), (3, vI o), (4, vI 0)]) [1, 2, 3, 4, 0] dX12_turnsCost_1 (Nat.le_of_ble_eq_true rfl) rfl rfl ?_
  refine j_iconst (pc := 3) dX12_turnsCost_3 ?_
  refine j_istore (pc := 4) (i := 5) (ls' := [(0, vR 88), (1, vI a), (2, vI b), (3, vI o), (4, vI 0), (5, vI 0)]) [1, 2, 3, 4, 5, 0] dX12_turnsCost_4 (Nat.le_of_ble_eq_true rfl) rfl rfl ?_
  refine j_ls (ls' := [(0, vR 88), (1, vI a), (2, vI b), (3, vI o), (4, vI 0), (5, vI 0)]) [0, 1, 2, 3, 4, 5] rfl ?_
  exact (l_X12_turnsCost hM a ha b hb o ho σ hI (((40 - (0 : Int)).toNat) + 1)) 0 (by (first | decide | exact ⟨by omega, by omega⟩)) 0 (by (first | decide | exact ⟨by omega, by omega⟩)) (Nat.lt_succ_self _)
