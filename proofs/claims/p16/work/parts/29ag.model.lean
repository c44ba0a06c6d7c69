/-! 29ag.model -/
theorem dX12_slungNow_0 : decode cX12_slungNow 0 = .ok (.iconst 0, 1) := by decide +kernel
theorem dX12_slungNow_1 : decode cX12_slungNow 1 = .ok (.istore_n 1, 1) := by decide +kernel
theorem dX12_slungNow_2 : decode cX12_slungNow 2 = .ok (.iconst 0, 1) := by decide +kernel
theorem dX12_slungNow_3 : decode cX12_slungNow 3 = .ok (.istore_n 2, 1) := by decide +kernel
theorem dX12_slungNow_4 : decode cX12_slungNow 4 = .ok (.iload_n 2, 1) := by decide +kernel
theorem dX12_slungNow_5 : decode cX12_slungNow 5 = .ok (.aload_n 0, 1) := by decide +kernel
theorem dX12_slungNow_6 : decode cX12_slungNow 6 = .ok (.iconst 0, 1) := by decide +kernel
theorem dX12_slungNow_7 : decode cX12_slungNow 7 = .ok (.invokevirtual 192, 3) := by decide +kernel
theorem dX12_slungNow_10 : decode cX12_slungNow 10 = .ok (.if_icmp .ge 27, 3) := by decide +kernel
theorem dX12_slungNow_13 : decode cX12_slungNow 13 = .ok (.iload_n 1, 1) := by decide +kernel
theorem dX12_slungNow_14 : decode cX12_slungNow 14 = .ok (.aload_n 0, 1) := by decide +kernel
theorem dX12_slungNow_15 : decode cX12_slungNow 15 = .ok (.iload_n 2, 1) := by decide +kernel
theorem dX12_slungNow_16 : decode cX12_slungNow 16 = .ok (.invokevirtual 204, 3) := by decide +kernel
theorem dX12_slungNow_19 : decode cX12_slungNow 19 = .ok (.ifCond .eq 9, 3) := by decide +kernel
theorem dX12_slungNow_22 : decode cX12_slungNow 22 = .ok (.iconst 1, 1) := by decide +kernel
theorem dX12_slungNow_23 : decode cX12_slungNow 23 = .ok (.iload_n 2, 1) := by decide +kernel
theorem dX12_slungNow_24 : decode cX12_slungNow 24 = .ok (.ishl, 1) := by decide +kernel
theorem dX12_slungNow_25 : decode cX12_slungNow 25 = .ok (.goto 4, 3) := by decide +kernel
theorem dX12_slungNow_28 : decode cX12_slungNow 28 = .ok (.iconst 0, 1) := by decide +kernel
theorem dX12_slungNow_29 : decode cX12_slungNow 29 = .ok (.ior, 1) := by decide +kernel
theorem dX12_slungNow_30 : decode cX12_slungNow 30 = .ok (.istore_n 1, 1) := by decide +kernel
theorem dX12_slungNow_31 : decode cX12_slungNow 31 = .ok (.iinc 2 1, 3) := by decide +kernel
theorem dX12_slungNow_34 : decode cX12_slungNow 34 = .ok (.goto (-30), 3) := by decide +kernel
theorem dX12_slungNow_37 : decode cX12_slungNow 37 = .ok (.iload_n 1, 1) := by decide +kernel
theorem dX12_slungNow_38 : decode cX12_slungNow 38 = .ok (.ireturn, 1) := by decide +kernel
abbrev q_X12_slungNow  (σ : tw_M) : Option tw_V → tw_M → Prop := fun z τ => ∃ r : Int, z = some (vI r) ∧ (-2147483648 ≤ r ∧ r ≤ 2147483647) ∧ σ = τ ∧ True
set_option maxHeartbeats 4000000 in
set_option maxRecDepth 100000 in
theorem l_X12_slungNow {G : tw_G} (hM : tw_isM G) (σ : tw_M) (hI : tw_I σ) (hq0 : mc σ 0 (σ 91 0).toNat ≤ 10) : ∀ N_ : Nat, (∀ (m : Int) (hm : -2147483648 ≤ m ∧ m ≤ 2147483647) (k : Int) (hk : 0 ≤ k ∧ k ≤ 40)  (hm : (40 - k).toNat < N_), tw_J G (tw_mt RX12 cX12_slungNow 3 (some .int) 3) (tw_E G (q_X12_slungNow σ)) 4 [(0, vR 88), (1, vI m), (2, vI k)] [] σ) := by
  intro N_
  induction N_ with
  | zero => exact fun m hm k hk hm => absurd hm (Nat.not_lt_zero _)
  | succ N_ ih =>
    intro m hm k hk hm
    refine j_iload_n (pc := 4) dX12_slungNow_4 rfl rfl ?_
    refine j_aload_n (pc := 5) dX12_slungNow_5 rfl rfl ?_
    refine j_iconst (pc := 6) dX12_slungNow_6 ?_
    refine j_callV (pc := 7) (As := [vI 0]) (st := [vI k]) (c_X12_all hM 0 (by (first | decide | exact ⟨by omega, by omega⟩)) σ hI) mv_X12_192 rfl rfl rfl (a_88 hM) dX12_slungNow_7 ⟨Nat.le_of_ble_eq_true rfl, Nat.le_of_ble_eq_true rfl⟩ ⟨Nat.le_refl _, Nat.le_refl _⟩ rfl (Nat.le_of_ble_eq_true rfl) rfl (fun z1 σ2 hz1 => ?_)
    obtain ⟨r4, rfl, hr4, rfl, q3_0⟩ := hz1
    replace q3_0 : r4 = mc σ (0 : Int) (σ 91 0).toNat := q3_0
    refine j_st (st' := [vI r4, vI k]) rfl ?_
    refine j_icmpR_ge (pc := 10) (tgt := 37) ⟨by omega, by omega⟩ ⟨by omega, by omega⟩ dX12_slungNow_10 rfl (fun h5 => ?_) (fun h5 => ?_)
    · refine j_iload_n (pc := 37) dX12_slungNow_37 rfl rfl ?_
      exact j_iret (pc := 38) ⟨rfl, rfl⟩ dX12_slungNow_38 rfl ⟨_, rfl, ⟨by omega, by omega⟩, rfl, trivial⟩
    · refine j_iload_n (pc := 13) dX12_slungNow_13 rfl rfl ?_
      refine j_aload_n (pc := 14) dX12_slungNow_14 rfl rfl ?_
      refine j_iload_n (pc := 15) dX12_slungNow_15 rfl rfl ?_
      refine j_callV (pc := 16) (As := [vI k]) (st := [vI m]) (c_X12_hasSling hM k ⟨by omega, by omega⟩ σ hI (by omega)) mv_X12_204 rfl rfl rfl (a_88 hM) dX12_slungNow_16 ⟨Nat.le_of_ble_eq_true rfl, Nat.le_of_ble_eq_true rfl⟩ ⟨Nat.le_refl _, Nat.le_refl _⟩ rfl (Nat.le_of_ble_eq_true rfl) rfl (fun z6 σ7 hz6 => ?_)
      obtain ⟨r9, rfl, hr9, rfl, -⟩ := hz6
      refine j_st (st' := [vI r9, vI m]) rfl ?_
      refine j_ifR_eq (pc := 19) (tgt := 28) ⟨by omega, by omega⟩ dX12_slungNow_19 rfl (fun h10 => ?_) (fun h10 => ?_)
      · refine j_iconst (pc := 28) dX12_slungNow_28 ?_
        refine j_ior (pc := 29) dX12_slungNow_29 (fun z11 ez11 => ?_)
        have hz11 : (-2147483648 : Int) ≤ z11 ∧ z11 ≤ 2147483647 := by rw [ez11]; exact or_in _ _
        refine j_istore_n (pc := 30) (i := 1) (ls' := [(0, vR 88), (1, vI z11), (2, vI k)]) [1, 0, 2] dX12_slungNow_30 rfl (Nat.le_of_ble_eq_true rfl) rfl rfl ?_
        refine j_iinc (pc := 31) (i := 2) (n := 1) (ls' := [(0, vR 88), (1, vI z11), (2, vI (k + 1))]) [1, 2, 0] dX12_slungNow_31 rfl (Nat.le_of_ble_eq_true rfl) rfl rfl ?_
        refine j_goto (pc := 34) (tgt := 4) dX12_slungNow_34 rfl ?_
        refine j_ls (ls' := [(0, vR 88), (1, vI z11), (2, vI (k + 1))]) [0, 1, 2] rfl ?_
        exact ih z11 ⟨by omega, by omega⟩ (k + 1) ⟨by omega, by omega⟩ (show (40 - (k + 1)).toNat < N_ from by omega)
      · refine j_iconst (pc := 22) dX12_slungNow_22 ?_
        refine j_iload_n (pc := 23) dX12_slungNow_23 rfl rfl ?_
        refine j_ishl (pc := 24) dX12_slungNow_24 (fun z12 ez12 => ?_)
        have hz12 : (-2147483648 : Int) ≤ z12 ∧ z12 ≤ 2147483647 := by rw [ez12]; exact shl_in _ _
        refine j_goto (pc := 25) (tgt := 29) dX12_slungNow_25 rfl ?_
        refine j_ior (pc := 29) dX12_slungNow_29 (fun z13 ez13 => ?_)
        have hz13 : (-2147483648 : Int) ≤ z13 ∧ z13 ≤ 2147483647 := by rw [ez13]; exact or_in _ _
        refine j_istore_n (pc := 30) (i := 1) (ls' := [(0, vR 88), (1, vI z13), (2, vI k)]) [1, 0, 2] dX12_slungNow_30 rfl (Nat.le_of_ble_eq_true rfl) rfl rfl ?_
        refine j_iinc (pc := 31) (i := 2) (n := 1) (ls' := [(0, vR 88), (1, vI z13), (2, vI (k + 1))]) [1, 2, 0] dX12_slungNow_31 rfl (Nat.le_of_ble_eq_true rfl) rfl rfl ?_
        refine j_goto (pc := 34) (tgt := 4) dX12_slungNow_34 rfl ?_
        refine j_ls (ls' := [(0, vR 88), (1, vI z13), (2, vI (k + 1))]) [0, 1, 2] rfl ?_
        exact ih z13 ⟨by omega, by omega⟩ (k + 1) ⟨by omega, by omega⟩ (show (40 - (k + 1)).toNat < N_ from by omega)
set_option maxHeartbeats 4000000 in
set_option maxRecDepth 100000 in
theorem c_X12_slungNow {G : tw_G} (hM : tw_isM G) (σ : tw_M) (hI : tw_I σ) (hq0 : mc σ 0 (σ 91 0).toNat ≤ 10) : tw_C G yX12_slungNow cX12_slungNow 3 (some .int) 3 [vR 88] σ (q_X12_slungNow σ) := by
  refine tw_met [(0, vR 88)] (by decide +kernel) rfl (Nat.le_of_ble_eq_true rfl) ?_
  refine j_iconst (pc := 0) dX12_slungNow_0 ?_
  refine j_istore_n (pc := 1) (i := 1) (ls' := [(0, vR 88), (1, vI 0)]) [1, 0] dX12_slungNow_1 rfl (Nat.le_of_ble_eq_true rfl) rfl rfl ?_
  refine j_iconst (pc := 2) dX12_slungNow_2 ?_
  refine j_istore_n (pc := 3) (i := 2) (ls' := [(0, vR 88), (1, vI 0), (2, vI 0)]) [1, 2, 0] dX12_slungNow_3 rfl (Nat.le_of_ble_eq_true rfl) rfl rfl ?_
  refine j_ls (ls' := [(0, vR 88), (1, vI 0), (2, vI 0)]) [0, 1, 2] rfl ?_
  exact (l_X12_slungNow hM σ hI hq0 (((40 - (0 : Int)).toNat) + 1)) 0 (by (first | decide | exact ⟨by omega, by omega⟩)) 0 (by (first | decide | exact ⟨by omega, by omega⟩)) (Nat.lt_succ_self _)
