/-! 29ah.model -/
theorem dX12_drag_0 : decode cX12_drag 0 = .ok (.iconst 0, 1) := by decide +kernel
theorem dX12_drag_1 : decode cX12_drag 1 = .ok (.istore_n 2, 1) := by decide +kernel
theorem dX12_drag_2 : decode cX12_drag 2 = .ok (.iconst 0, 1) := by decide +kernel
theorem dX12_drag_3 : decode cX12_drag 3 = .ok (.istore_n 3, 1) := by decide +kernel
theorem dX12_drag_4 : decode cX12_drag 4 = .ok (.iload_n 3, 1) := by decide +kernel
theorem dX12_drag_5 : decode cX12_drag 5 = .ok (.aload_n 0, 1) := by decide +kernel
theorem dX12_drag_6 : decode cX12_drag 6 = .ok (.iconst 0, 1) := by decide +kernel
theorem dX12_drag_7 : decode cX12_drag 7 = .ok (.invokevirtual 192, 3) := by decide +kernel
theorem dX12_drag_10 : decode cX12_drag 10 = .ok (.if_icmp .ge 27, 3) := by decide +kernel
theorem dX12_drag_13 : decode cX12_drag 13 = .ok (.iload_n 2, 1) := by decide +kernel
theorem dX12_drag_14 : decode cX12_drag 14 = .ok (.aload_n 0, 1) := by decide +kernel
theorem dX12_drag_15 : decode cX12_drag 15 = .ok (.iload_n 3, 1) := by decide +kernel
theorem dX12_drag_16 : decode cX12_drag 16 = .ok (.invokevirtual 210, 3) := by decide +kernel
theorem dX12_drag_19 : decode cX12_drag 19 = .ok (.ifCond .eq 9, 3) := by decide +kernel
theorem dX12_drag_22 : decode cX12_drag 22 = .ok (.iconst 1, 1) := by decide +kernel
theorem dX12_drag_23 : decode cX12_drag 23 = .ok (.iload_n 3, 1) := by decide +kernel
theorem dX12_drag_24 : decode cX12_drag 24 = .ok (.ishl, 1) := by decide +kernel
theorem dX12_drag_25 : decode cX12_drag 25 = .ok (.goto 4, 3) := by decide +kernel
theorem dX12_drag_28 : decode cX12_drag 28 = .ok (.iconst 0, 1) := by decide +kernel
theorem dX12_drag_29 : decode cX12_drag 29 = .ok (.ior, 1) := by decide +kernel
theorem dX12_drag_30 : decode cX12_drag 30 = .ok (.istore_n 2, 1) := by decide +kernel
theorem dX12_drag_31 : decode cX12_drag 31 = .ok (.iinc 3 1, 3) := by decide +kernel
theorem dX12_drag_34 : decode cX12_drag 34 = .ok (.goto (-30), 3) := by decide +kernel
theorem dX12_drag_37 : decode cX12_drag 37 = .ok (.aload_n 0, 1) := by decide +kernel
theorem dX12_drag_38 : decode cX12_drag 38 = .ok (.aload_n 0, 1) := by decide +kernel
theorem dX12_drag_39 : decode cX12_drag 39 = .ok (.invokevirtual 317, 3) := by decide +kernel
theorem dX12_drag_42 : decode cX12_drag 42 = .ok (.invokevirtual 320, 3) := by decide +kernel
theorem dX12_drag_45 : decode cX12_drag 45 = .ok (.istore_n 3, 1) := by decide +kernel
theorem dX12_drag_46 : decode cX12_drag 46 = .ok (.iload_n 1, 1) := by decide +kernel
theorem dX12_drag_47 : decode cX12_drag 47 = .ok (.ifCond .ne 7, 3) := by decide +kernel
theorem dX12_drag_50 : decode cX12_drag 50 = .ok (.iload_n 3, 1) := by decide +kernel
theorem dX12_drag_51 : decode cX12_drag 51 = .ok (.goto 32, 3) := by decide +kernel
theorem dX12_drag_54 : decode cX12_drag 54 = .ok (.iload_n 1, 1) := by decide +kernel
theorem dX12_drag_55 : decode cX12_drag 55 = .ok (.iconst 1, 1) := by decide +kernel
theorem dX12_drag_56 : decode cX12_drag 56 = .ok (.if_icmp .ne 7, 3) := by decide +kernel
theorem dX12_drag_59 : decode cX12_drag 59 = .ok (.iload_n 2, 1) := by decide +kernel
theorem dX12_drag_60 : decode cX12_drag 60 = .ok (.goto 23, 3) := by decide +kernel
theorem dX12_drag_63 : decode cX12_drag 63 = .ok (.iload_n 1, 1) := by decide +kernel
theorem dX12_drag_64 : decode cX12_drag 64 = .ok (.iconst 2, 1) := by decide +kernel
theorem dX12_drag_65 : decode cX12_drag 65 = .ok (.if_icmp .ne 17, 3) := by decide +kernel
theorem dX12_drag_68 : decode cX12_drag 68 = .ok (.aload_n 0, 1) := by decide +kernel
theorem dX12_drag_69 : decode cX12_drag 69 = .ok (.getfield 17, 3) := by decide +kernel
theorem dX12_drag_72 : decode cX12_drag 72 = .ok (.iconst 0, 1) := by decide +kernel
theorem dX12_drag_73 : decode cX12_drag 73 = .ok (.iaload, 1) := by decide +kernel
theorem dX12_drag_74 : decode cX12_drag 74 = .ok (.iload_n 3, 1) := by decide +kernel
theorem dX12_drag_75 : decode cX12_drag 75 = .ok (.bipush 10, 2) := by decide +kernel
theorem dX12_drag_77 : decode cX12_drag 77 = .ok (.idiv, 1) := by decide +kernel
theorem dX12_drag_78 : decode cX12_drag 78 = .ok (.iadd, 1) := by decide +kernel
theorem dX12_drag_79 : decode cX12_drag 79 = .ok (.goto 4, 3) := by decide +kernel
theorem dX12_drag_82 : decode cX12_drag 82 = .ok (.iconst (-1), 1) := by decide +kernel
theorem dX12_drag_83 : decode cX12_drag 83 = .ok (.ireturn, 1) := by decide +kernel
abbrev q_X12_drag (w : Int) (σ : tw_M) : Option tw_V → tw_M → Prop := fun z τ => ∃ r : Int, z = some (vI r) ∧ (-2147483648 ≤ r ∧ r ≤ 2147483647) ∧ σ = τ ∧ True
set_option maxHeartbeats 4000000 in
set_option maxRecDepth 100000 in
theorem l_X12_drag {G : tw_G} (hM : tw_isM G) (w : Int) (hw : -2147483648 ≤ w ∧ w ≤ 2147483647) (σ : tw_M) (hI : tw_I σ) (hq0 : mc σ 0 (σ 91 0).toNat ≤ 10) : ∀ N_ : Nat, (∀ (m : Int) (hm : -2147483648 ≤ m ∧ m ≤ 2147483647) (k : Int) (hk : 0 ≤ k ∧ k ≤ 40)  (hm : (40 - k).toNat < N_), tw_J G (tw_mt RX12 cX12_drag 4 (some .int) 6) (tw_E G (q_X12_drag w σ)) 4 [(0, vR 88), (1, vI w), (2, vI m), (3, vI k)] [] σ) := by
  intro N_
  induction N_ with
  | zero => exact fun m hm k hk hm => absurd hm (Nat.not_lt_zero _)
  | succ N_ ih =>
    intro m hm k hk hm
    refine j_iload_n (pc := 4) dX12_drag_4 rfl rfl ?_
    refine j_aload_n (pc := 5) dX12_drag_5 rfl rfl ?_
    refine j_iconst (pc := 6) dX12_drag_6 ?_
    refine j_callV (pc := 7) (As := [vI 0]) (st := [vI k]) (c_X12_all hM 0 (by (first | decide | exact ⟨by omega, by omega⟩)) σ hI) mv_X12_192 rfl rfl rfl (a_88 hM) dX12_drag_7 ⟨Nat.le_of_ble_eq_true rfl, Nat.le_of_ble_eq_true rfl⟩ ⟨Nat.le_refl _, Nat.le_refl _⟩ rfl (Nat.le_of_ble_eq_true rfl) rfl (fun z1 σ2 hz1 => ?_)
    obtain ⟨r4, rfl, hr4, rfl, q3_0⟩ := hz1
    replace q3_0 : r4 = mc σ (0 : Int) (σ 91 0).toNat := q3_0
    refine j_st (st' := [vI r4, vI k]) rfl ?_
    refine j_icmpR_ge (pc := 10) (tgt := 37) ⟨by omega, by omega⟩ ⟨by omega, by omega⟩ dX12_drag_10 rfl (fun h5 => ?_) (fun h5 => ?_)
    · refine j_aload_n (pc := 37) dX12_drag_37 rfl rfl ?_
      refine j_aload_n (pc := 38) dX12_drag_38 rfl rfl ?_
      refine j_callV (pc := 39) (As := []) (st := [vR 88]) (c_X12_slungNow hM σ hI (by omega)) mv_X12_317 rfl rfl rfl (a_88 hM) dX12_drag_39 ⟨Nat.le_of_ble_eq_true rfl, Nat.le_of_ble_eq_true rfl⟩ ⟨Nat.le_refl _, Nat.le_refl _⟩ rfl (Nat.le_of_ble_eq_true rfl) rfl (fun z6 σ7 hz6 => ?_)
      obtain ⟨r9, rfl, hr9, rfl, -⟩ := hz6
      refine j_st (st' := [vI r9, vR 88]) rfl ?_
      refine j_callV (pc := 42) (As := [vI r9]) (st := []) (c_X12_dragBy hM r9 ⟨by omega, by omega⟩ σ hI (by omega)) mv_X12_320 rfl rfl rfl (a_88 hM) dX12_drag_42 ⟨Nat.le_of_ble_eq_true rfl, Nat.le_of_ble_eq_true rfl⟩ ⟨Nat.le_refl _, Nat.le_refl _⟩ rfl (Nat.le_of_ble_eq_true rfl) rfl (fun z10 σ11 hz10 => ?_)
      obtain ⟨r13, rfl, hr13, rfl, -⟩ := hz10
      refine j_st (st' := [vI r13]) rfl ?_
      refine j_istore_n (pc := 45) (i := 3) (ls' := [(0, vR 88), (1, vI w), (2, vI m), (3, vI r13)]) [1, 2, 3, 0] dX12_drag_45 rfl (Nat.le_of_ble_eq_true rfl) rfl rfl ?_
      refine j_iload_n (pc := 46) dX12_drag_46 rfl rfl ?_
      refine j_ifR_ne (pc := 47) (tgt := 54) ⟨by omega, by omega⟩ dX12_drag_47 rfl (fun h14 => ?_) (fun h14 => ?_)
      · refine j_iload_n (pc := 54) dX12_drag_54 rfl rfl ?_
        refine j_iconst (pc := 55) dX12_drag_55 ?_
        refine j_icmpR_ne (pc := 56) (tgt := 63) ⟨by omega, by omega⟩ ⟨by omega, by omega⟩ dX12_drag_56 rfl (fun h15 => ?_) (fun h15 => ?_)
        · refine j_iload_n (pc := 63) dX12_drag_63 rfl rfl ?_
          refine j_iconst (pc := 64) dX12_drag_64 ?_
          refine j_icmpR_ne (pc := 65) (tgt := 82) ⟨by omega, by omega⟩ ⟨by omega, by omega⟩ dX12_drag_65 rfl (fun h16 => ?_) (fun h16 => ?_)
          · refine j_iconst (pc := 82) dX12_drag_82 ?_
            exact j_iret (pc := 83) ⟨rfl, rfl⟩ dX12_drag_83 rfl ⟨_, rfl, ⟨by omega, by omega⟩, rfl, trivial⟩
          · refine j_aload_n (pc := 68) dX12_drag_68 rfl rfl ?_
            refine j_getR (pc := 69) (r := 91) fl_X12_17 dX12_drag_69 (a_88 hM) rfl ?_
            refine j_iconst (pc := 72) dX12_drag_72 ?_
            refine j_iald (pc := 73) dX12_drag_73 (a_91 hM) (by omega) (by omega) (by decide) ?_
            refine j_topV (show σ 91 (Int.toNat 0) = σ 91 0 from rfl) ?_
            have f17 : (1 : Int) ≤ σ 91 0 ∧ σ 91 0 ≤ 40 := hI 91 0
            refine j_iload_n (pc := 74) dX12_drag_74 rfl rfl ?_
            refine j_bipush (pc := 75) dX12_drag_75 rfl ?_
            refine j_idiv (pc := 77) dX12_drag_77 (tw_nz ⟨by omega, by omega⟩ (by omega)) (fun z18 ez18 => ?_)
            have hz18 : (-2147483648 : Int) ≤ z18 ∧ z18 ≤ 2147483647 := by rw [ez18]; exact div_in _ _
            refine j_iadd (pc := 78) dX12_drag_78 ?_
            refine j_top (fun z19 ez19 hz19 => ?_)
            refine j_goto (pc := 79) (tgt := 83) dX12_drag_79 rfl ?_
            exact j_iret (pc := 83) ⟨rfl, rfl⟩ dX12_drag_83 rfl ⟨_, rfl, ⟨by omega, by omega⟩, rfl, trivial⟩
        · refine j_iload_n (pc := 59) dX12_drag_59 rfl rfl ?_
          refine j_goto (pc := 60) (tgt := 83) dX12_drag_60 rfl ?_
          exact j_iret (pc := 83) ⟨rfl, rfl⟩ dX12_drag_83 rfl ⟨_, rfl, ⟨by omega, by omega⟩, rfl, trivial⟩
      · refine j_iload_n (pc := 50) dX12_drag_50 rfl rfl ?_
        refine j_goto (pc := 51) (tgt := 83) dX12_drag_51 rfl ?_
        exact j_iret (pc := 83) ⟨rfl, rfl⟩ dX12_drag_83 rfl ⟨_, rfl, ⟨by omega, by omega⟩, rfl, trivial⟩
    · refine j_iload_n (pc := 13) dX12_drag_13 rfl rfl ?_
      refine j_aload_n (pc := 14) dX12_drag_14 rfl rfl ?_
      refine j_iload_n (pc := 15) dX12_drag_15 rfl rfl ?_
      refine j_callV (pc := 16) (As := [vI k]) (st := [vI m]) (c_X12_isLifted hM k ⟨by omega, by omega⟩ σ hI (by omega)) mv_X12_210 rfl rfl rfl (a_88 hM) dX12_drag_16 ⟨Nat.le_of_ble_eq_true rfl, Nat.le_of_ble_eq_true rfl⟩ ⟨Nat.le_refl _, Nat.le_refl _⟩ rfl (Nat.le_of_ble_eq_true rfl) rfl (fun z20 σ21 hz20 => ?_)
      obtain ⟨r23, rfl, hr23, rfl, -⟩ := hz20
      refine j_st (st' := [vI r23, vI m]) rfl ?_
      refine j_ifR_eq (pc := 19) (tgt := 28) ⟨by omega, by omega⟩ dX12_drag_19 rfl (fun h24 => ?_) (fun h24 => ?_)
      · refine j_iconst (pc := 28) dX12_drag_28 ?_
        refine j_ior (pc := 29) dX12_drag_29 (fun z25 ez25 => ?_)
        have hz25 : (-2147483648 : Int) ≤ z25 ∧ z25 ≤ 2147483647 := by rw [ez25]; exact or_in _ _
        refine j_istore_n (pc := 30) (i := 2) (ls' := [(0, vR 88), (1, vI w), (2, vI z25), (3, vI k)]) [1, 2, 0, 3] dX12_drag_30 rfl (Nat.le_of_ble_eq_true rfl) rfl rfl ?_
        refine j_iinc (pc := 31) (i := 3) (n := 1) (ls' := [(0, vR 88), (1, vI w), (2, vI z25), (3, vI (k + 1))]) [1, 2, 3, 0] dX12_drag_31 rfl (Nat.le_of_ble_eq_true rfl) rfl rfl ?_
        refine j_goto (pc := 34) (tgt := 4) dX12_drag_34 rfl ?_
        refine j_ls (ls' := [(0, vR 88), (1, vI w), (2, vI z25), (3, vI (k + 1))]) [0, 1, 2, 3] rfl ?_
        exact ih z25 ⟨by omega, by omega⟩ (k + 1) ⟨by omega, by omega⟩ (show (40 - (k + 1)).toNat < N_ from by omega)
      · refine j_iconst (pc := 22) dX12_drag_22 ?_
        refine j_iload_n (pc := 23) dX12_drag_23 rfl rfl ?_
        refine j_ishl (pc := 24) dX12_drag_24 (fun z26 ez26 => ?_)
        have hz26 : (-2147483648 : Int) ≤ z26 ∧ z26 ≤ 2147483647 := by rw [ez26]; exact shl_in _ _
        refine j_goto (pc := 25) (tgt := 29) dX12_drag_25 rfl ?_
        refine j_ior (pc := 29) dX12_drag_29 (fun z27 ez27 => ?_)
        have hz27 : (-2147483648 : Int) ≤ z27 ∧ z27 ≤ 2147483647 := by rw [ez27]; exact or_in _ _
        refine j_istore_n (pc := 30) (i := 2) (ls' := [(0, vR 88), (1, vI w), (2, vI z27), (3, vI k)]) [1, 2, 0, 3] dX12_drag_30 rfl (Nat.le_of_ble_eq_true rfl) rfl rfl ?_
        refine j_iinc (pc := 31) (i := 3) (n := 1) (ls' := [(0, vR 88), (1, vI w), (2, vI z27), (3, vI (k + 1))]) [1, 2, 3, 0] dX12_drag_31 rfl (Nat.le_of_ble_eq_true rfl) rfl rfl ?_
        refine j_goto (pc := 34) (tgt := 4) dX12_drag_34 rfl ?_
        refine j_ls (ls' := [(0, vR 88), (1, vI w), (2, vI z27), (3, vI (k + 1))]) [0, 1, 2, 3] rfl ?_
        exact ih z27 ⟨by omega, by omega⟩ (k + 1) ⟨by omega, by omega⟩ (show (40 - (k + 1)).toNat < N_ from by omega)
set_option maxHeartbeats 4000000 in
set_option maxRecDepth 100000 in
theorem c_X12_drag {G : tw_G} (hM : tw_isM G) (w : Int) (hw : -2147483648 ≤ w ∧ w ≤ 2147483647) (σ : tw_M) (hI : tw_I σ) (hq0 : mc σ 0 (σ 91 0).toNat ≤ 10) : tw_C G yX12_drag cX12_drag 4 (some .int) 6 [vR 88, vI w] σ (q_X12_drag w σ) := by
  refine tw_met [(0, vR 88), (1, vI w)] (by decide +kernel) rfl (Nat.le_of_ble_eq_true rfl) ?_
  refine j_iconst (pc := 0) dX12_drag_0 ?_
  refine j_istore_n (pc := 1) (i := 2) (ls' := [(0, vR 88), (1, vI w), (2, vI 0)]) [1, 2, 0] dX12_drag_1 rfl (Nat.le_of_ble_eq_true rfl) rfl rfl ?_
  refine j_iconst (pc := 2) dX12_drag_2 ?_
  refine j_istore_n (pc := 3) (i := 3) (ls' := [(0, vR 88), (1, vI w), (2, vI 0), (3, vI 0)]) [1, 2, 3, 0] dX12_drag_3 rfl (Nat.le_of_ble_eq_true rfl) rfl rfl ?_
  refine j_ls (ls' := [(0, vR 88), (1, vI w), (2, vI 0), (3, vI 0)]) [0, 1, 2, 3] rfl ?_
  exact (l_X12_drag hM w hw σ hI hq0 (((40 - (0 : Int)).toNat) + 1)) 0 (by (first | decide | exact ⟨by omega, by omega⟩)) 0 (by (first | decide | exact ⟨by omega, by omega⟩)) (Nat.lt_succ_self _)
