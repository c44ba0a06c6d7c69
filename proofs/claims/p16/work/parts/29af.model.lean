/-! 29af.model -/
theorem dX12_dragBy_0 : decode cX12_dragBy 0 = .ok (.iconst 0, 1) := by decide +kernel
theorem dX12_dragBy_1 : decode cX12_dragBy 1 = .ok (.istore_n 2, 1) := by decide +kernel
theorem dX12_dragBy_2 : decode cX12_dragBy 2 = .ok (.iconst 0, 1) := by decide +kernel
theorem dX12_dragBy_3 : decode cX12_dragBy 3 = .ok (.istore_n 3, 1) := by decide +kernel
theorem dX12_dragBy_4 : decode cX12_dragBy 4 = .ok (.iload_n 3, 1) := by decide +kernel
theorem dX12_dragBy_5 : decode cX12_dragBy 5 = .ok (.aload_n 0, 1) := by decide +kernel
theorem dX12_dragBy_6 : decode cX12_dragBy 6 = .ok (.iconst 0, 1) := by decide +kernel
theorem dX12_dragBy_7 : decode cX12_dragBy 7 = .ok (.invokevirtual 192, 3) := by decide +kernel
theorem dX12_dragBy_10 : decode cX12_dragBy 10 = .ok (.if_icmp .ge 31, 3) := by decide +kernel
theorem dX12_dragBy_13 : decode cX12_dragBy 13 = .ok (.iload_n 2, 1) := by decide +kernel
theorem dX12_dragBy_14 : decode cX12_dragBy 14 = .ok (.aload_n 0, 1) := by decide +kernel
theorem dX12_dragBy_15 : decode cX12_dragBy 15 = .ok (.iload_n 3, 1) := by decide +kernel
theorem dX12_dragBy_16 : decode cX12_dragBy 16 = .ok (.iload_n 1, 1) := by decide +kernel
theorem dX12_dragBy_17 : decode cX12_dragBy 17 = .ok (.iload_n 3, 1) := by decide +kernel
theorem dX12_dragBy_18 : decode cX12_dragBy 18 = .ok (.ishr, 1) := by decide +kernel
theorem dX12_dragBy_19 : decode cX12_dragBy 19 = .ok (.iconst 1, 1) := by decide +kernel
theorem dX12_dragBy_20 : decode cX12_dragBy 20 = .ok (.iand, 1) := by decide +kernel
theorem dX12_dragBy_21 : decode cX12_dragBy 21 = .ok (.iconst 1, 1) := by decide +kernel
theorem dX12_dragBy_22 : decode cX12_dragBy 22 = .ok (.if_icmp .ne 7, 3) := by decide +kernel
theorem dX12_dragBy_25 : decode cX12_dragBy 25 = .ok (.iconst 1, 1) := by decide +kernel
theorem dX12_dragBy_26 : decode cX12_dragBy 26 = .ok (.goto 4, 3) := by decide +kernel
theorem dX12_dragBy_29 : decode cX12_dragBy 29 = .ok (.iconst 0, 1) := by decide +kernel
theorem dX12_dragBy_30 : decode cX12_dragBy 30 = .ok (.invokevirtual 213, 3) := by decide +kernel
theorem dX12_dragBy_33 : decode cX12_dragBy 33 = .ok (.iadd, 1) := by decide +kernel
theorem dX12_dragBy_34 : decode cX12_dragBy 34 = .ok (.istore_n 2, 1) := by decide +kernel
theorem dX12_dragBy_35 : decode cX12_dragBy 35 = .ok (.iinc 3 1, 3) := by decide +kernel
theorem dX12_dragBy_38 : decode cX12_dragBy 38 = .ok (.goto (-34), 3) := by decide +kernel
theorem dX12_dragBy_41 : decode cX12_dragBy 41 = .ok (.iload_n 2, 1) := by decide +kernel
theorem dX12_dragBy_42 : decode cX12_dragBy 42 = .ok (.ireturn, 1) := by decide +kernel
abbrev q_X12_dragBy (s : Int) (σ : tw_M) : Option tw_V → tw_M → Prop := fun z τ => ∃ r : Int, z = some (vI r) ∧ (-2147483648 ≤ r ∧ r ≤ 2147483647) ∧ σ = τ ∧ True
set_option maxHeartbeats 4000000 in
set_option maxRecDepth 100000 in
theorem l_X12_dragBy {G : tw_G} (hM : tw_isM G) (s : Int) (hs : -2147483648 ≤ s ∧ s ≤ 2147483647) (σ : tw_M) (hI : tw_I σ) (hq0 : mc σ 0 (σ 91 0).toNat ≤ 10) : ∀ N_ : Nat, (∀ (m : Int) (hm : -2147483648 ≤ m ∧ m ≤ 2147483647) (k : Int) (hk : 0 ≤ k ∧ k ≤ 40)  (hm : (40 - k).toNat < N_), tw_J G (tw_mt RX12 cX12_dragBy 4 (some .int) 5) (tw_E G (q_X12_dragBy s σ)) 4 [(0, vR 88), (1, vI s), (2, vI m), (3, vI k)] [] σ) := by
  intro N_
  induction N_ with
  | zero => exact fun m hm k hk hm => absurd hm (Nat.not_lt_zero _)
  | succ N_ ih =>
    intro m hm k hk hm
    refine j_iload_n (pc := 4) dX12_dragBy_4 rfl rfl ?_
    refine j_aload_n (pc := 5) dX12_dragBy_5 rfl rfl ?_
    refine j_iconst (pc := 6) dX12_dragBy_6 ?_
    refine j_callV (pc := 7) (As := [vI 0]) (st := [vI k]) (c_X12_all hM 0 (by (first | decide | exact ⟨by omega, by omega⟩)) σ hI) mv_X12_192 rfl rfl rfl (a_88 hM) dX12_dragBy_7 ⟨Nat.le_of_ble_eq_true rfl, Nat.le_of_ble_eq_true rfl⟩ ⟨Nat.le_refl _, Nat.le_refl _⟩ rfl (Nat.le_of_ble_eq_true rfl) rfl (fun z1 σ2 hz1 => ?_)
    obtain ⟨r4, rfl, hr4, rfl, q3_0⟩ := hz1
    replace q3_0 : r4 = mc σ (0 : Int) (σ 91 0).toNat := q3_0
    refine j_st (st' := [vI r4, vI k]) rfl ?_
    refine j_icmpR_ge (pc := 10) (tgt := 41) ⟨by omega, by omega⟩ ⟨by omega, by omega⟩ dX12_dragBy_10 rfl (fun h5 => ?_) (fun h5 => ?_)
    · refine j_iload_n (pc := 41) dX12_dragBy_41 rfl rfl ?_
      exact j_iret (pc := 42) ⟨rfl, rfl⟩ dX12_dragBy_42 rfl ⟨_, rfl, ⟨by omega, by omega⟩, rfl, trivial⟩
    · refine j_iload_n (pc := 13) dX12_dragBy_13 rfl rfl ?_
      refine j_aload_n (pc := 14) dX12_dragBy_14 rfl rfl ?_
      refine j_iload_n (pc := 15) dX12_dragBy_15 rfl rfl ?_
      refine j_iload_n (pc := 16) dX12_dragBy_16 rfl rfl ?_
      refine j_iload_n (pc := 17) dX12_dragBy_17 rfl rfl ?_
      refine j_ishr (pc := 18) dX12_dragBy_18 (fun z6 ez6 => ?_)
      have hz6 : (-2147483648 : Int) ≤ z6 ∧ z6 ≤ 2147483647 := by rw [ez6]; exact shr_in _ _
      refine j_iconst (pc := 19) dX12_dragBy_19 ?_
      refine j_iand (pc := 20) dX12_dragBy_20 (fun z7 ez7 => ?_)
      have hz7 : (-2147483648 : Int) ≤ z7 ∧ z7 ≤ 2147483647 := by rw [ez7]; exact and_in _ _
      refine j_iconst (pc := 21) dX12_dragBy_21 ?_
      refine j_icmpR_ne (pc := 22) (tgt := 29) ⟨by omega, by omega⟩ ⟨by omega, by omega⟩ dX12_dragBy_22 rfl (fun h8 => ?_) (fun h8 => ?_)
      · refine j_iconst (pc := 29) dX12_dragBy_29 ?_
        refine j_callV (pc := 30) (As := [vI k, vI 0]) (st := [vI m]) (c_X12_offOf hM k ⟨by omega, by omega⟩ 0 (by (first | decide | exact ⟨by omega, by omega⟩)) σ hI) mv_X12_213 rfl rfl rfl (a_88 hM) dX12_dragBy_30 ⟨Nat.le_of_ble_eq_true rfl, Nat.le_of_ble_eq_true rfl⟩ ⟨Nat.le_refl _, Nat.le_refl _⟩ rfl (Nat.le_of_ble_eq_true rfl) rfl (fun z9 σ10 hz9 => ?_)
        obtain ⟨r12, rfl, hr12, rfl, -⟩ := hz9
        refine j_st (st' := [vI r12, vI m]) rfl ?_
        refine j_iadd (pc := 33) dX12_dragBy_33 ?_
        refine j_top (fun z13 ez13 hz13 => ?_)
        refine j_istore_n (pc := 34) (i := 2) (ls' := [(0, vR 88), (1, vI s), (2, vI z13), (3, vI k)]) [1, 2, 0, 3] dX12_dragBy_34 rfl (Nat.le_of_ble_eq_true rfl) rfl rfl ?_
        refine j_iinc (pc := 35) (i := 3) (n := 1) (ls' := [(0, vR 88), (1, vI s), (2, vI z13), (3, vI (k + 1))]) [1, 2, 3, 0] dX12_dragBy_35 rfl (Nat.le_of_ble_eq_true rfl) rfl rfl ?_
        refine j_goto (pc := 38) (tgt := 4) dX12_dragBy_38 rfl ?_
        refine j_ls (ls' := [(0, vR 88), (1, vI s), (2, vI z13), (3, vI (k + 1))]) [0, 1, 2, 3] rfl ?_
        exact ih z13 ⟨by omega, by omega⟩ (k + 1) ⟨by omega, by omega⟩ (show (40 - (k + 1)).toNat < N_ from by omega)
      · refine j_iconst (pc := 25) dX12_dragBy_25 ?_
        refine j_goto (pc := 26) (tgt := 30) dX12_dragBy_26 rfl ?_
        refine j_callV (pc := 30) (As := [vI k, vI 1]) (st := [vI m]) (c_X12_offOf hM k ⟨by omega, by omega⟩ 1 (by (first | decide | exact ⟨by omega, by omega⟩)) σ hI) mv_X12_213 rfl rfl rfl (a_88 hM) dX12_dragBy_30 ⟨Nat.le_of_ble_eq_true rfl, Nat.le_of_ble_eq_true rfl⟩ ⟨Nat.le_refl _, Nat.le_refl _⟩ rfl (Nat.le_of_ble_eq_true rfl) rfl (fun z14 σ15 hz14 => ?_)
        obtain ⟨r17, rfl, hr17, rfl, -⟩ := hz14
        refine j_st (st' := [vI r17, vI m]) rfl ?_
        refine j_iadd (pc := 33) dX12_dragBy_33 ?_
        refine j_top (fun z18 ez18 hz18 => ?_)
        refine j_istore_n (pc := 34) (i := 2) (ls' := [(0, vR 88), (1, vI s), (2, vI z18), (3, vI k)]) [1, 2, 0, 3] dX12_dragBy_34 rfl (Nat.le_of_ble_eq_true rfl) rfl rfl ?_
        refine j_iinc (pc := 35) (i := 3) (n := 1) (ls' := [(0, vR 88), (1, vI s), (2, vI z18), (3, vI (k + 1))]) [1, 2, 3, 0] dX12_dragBy_35 rfl (Nat.le_of_ble_eq_true rfl) rfl rfl ?_
        refine j_goto (pc := 38) (tgt := 4) dX12_dragBy_38 rfl ?_
        refine j_ls (ls' := [(0, vR 88), (1, vI s), (2, vI z18), (3, vI (k + 1))]) [0, 1, 2, 3] rfl ?_
        exact ih z18 ⟨by omega, by omega⟩ (k + 1) ⟨by omega, by omega⟩ (show (40 - (k + 1)).toNat < N_ from by omega)
set_option maxHeartbeats 4000000 in
set_option maxRecDepth 100000 in
theorem c_X12_dragBy {G : tw_G} (hM : tw_isM G) (s : Int) (hs : -2147483648 ≤ s ∧ s ≤ 2147483647) (σ : tw_M) (hI : tw_I σ) (hq0 : mc σ 0 (σ 91 0).toNat ≤ 10) : tw_C G yX12_dragBy cX12_dragBy 4 (some .int) 5 [vR 88, vI s] σ (q_X12_dragBy s σ) := by
  refine tw_met [(0, vR 88), (1, vI s)] (by decide +kernel) rfl (Nat.le_of_ble_eq_true rfl) ?_
  refine j_iconst (pc := 0) dX12_dragBy_0 ?_
  refine j_istore_n (pc := 1) (i := 2) (ls' := [(0, vR 88), (1, vI s), (2, vI 0)]) [1, 2, 0] dX12_dragBy_1 rfl (Nat.le_of_ble_eq_true rfl) rfl rfl ?_
  refine j_iconst (pc := 2) dX12_dragBy_2 ?_
  refine j_istore_n (pc := 3) (i := 3) (ls' := [(0, vR 88), (1, vI s), (2, vI 0), (3, vI 0)]) [1, 2, 3, 0] dX12_dragBy_3 rfl (Nat.le_of_ble_eq_true rfl) rfl rfl ?_
  refine j_ls (ls' := [(0, vR 88), (1, vI s), (2, vI 0), (3, vI 0)]) [0, 1, 2, 3] rfl ?_
  exact (l_X12_dragBy hM s hs σ hI hq0 (((40 - (0 : Int)).toNat) + 1)) 0 (by (first | decide | exact ⟨by omega, by omega⟩)) 0 (by (first | decide | exact ⟨by omega, by omega⟩)) (Nat.lt_succ_self _)
