/-! 30ab.model -/
theorem dX12_costOf_0 : decode cX12_costOf 0 = .ok (.iconst 0, 1) := by decide +kernel
theorem dX12_costOf_1 : decode cX12_costOf 1 = .ok (.istore_n 3, 1) := by decide +kernel
theorem dX12_costOf_2 : decode cX12_costOf 2 = .ok (.iload_n 1, 1) := by decide +kernel
theorem dX12_costOf_3 : decode cX12_costOf 3 = .ok (.ifCond .ne 7, 3) := by decide +kernel
theorem dX12_costOf_6 : decode cX12_costOf 6 = .ok (.iconst 1, 1) := by decide +kernel
theorem dX12_costOf_7 : decode cX12_costOf 7 = .ok (.goto 13, 3) := by decide +kernel
theorem dX12_costOf_10 : decode cX12_costOf 10 = .ok (.aload_n 0, 1) := by decide +kernel
theorem dX12_costOf_11 : decode cX12_costOf 11 = .ok (.getfield 44, 3) := by decide +kernel
theorem dX12_costOf_14 : decode cX12_costOf 14 = .ok (.iload_n 1, 1) := by decide +kernel
theorem dX12_costOf_15 : decode cX12_costOf 15 = .ok (.iconst 1, 1) := by decide +kernel
theorem dX12_costOf_16 : decode cX12_costOf 16 = .ok (.isub, 1) := by decide +kernel
theorem dX12_costOf_17 : decode cX12_costOf 17 = .ok (.iaload, 1) := by decide +kernel
theorem dX12_costOf_18 : decode cX12_costOf 18 = .ok (.iconst 1, 1) := by decide +kernel
theorem dX12_costOf_19 : decode cX12_costOf 19 = .ok (.iadd, 1) := by decide +kernel
theorem dX12_costOf_20 : decode cX12_costOf 20 = .ok (.istore 4, 2) := by decide +kernel
theorem dX12_costOf_22 : decode cX12_costOf 22 = .ok (.iload 4, 2) := by decide +kernel
theorem dX12_costOf_24 : decode cX12_costOf 24 = .ok (.aload_n 0, 1) := by decide +kernel
theorem dX12_costOf_25 : decode cX12_costOf 25 = .ok (.getfield 44, 3) := by decide +kernel
theorem dX12_costOf_28 : decode cX12_costOf 28 = .ok (.iload_n 1, 1) := by decide +kernel
theorem dX12_costOf_29 : decode cX12_costOf 29 = .ok (.iaload, 1) := by decide +kernel
theorem dX12_costOf_30 : decode cX12_costOf 30 = .ok (.if_icmp .gt 19, 3) := by decide +kernel
theorem dX12_costOf_33 : decode cX12_costOf 33 = .ok (.iload_n 3, 1) := by decide +kernel
theorem dX12_costOf_34 : decode cX12_costOf 34 = .ok (.aload_n 0, 1) := by decide +kernel
theorem dX12_costOf_35 : decode cX12_costOf 35 = .ok (.iload 4, 2) := by decide +kernel
theorem dX12_costOf_37 : decode cX12_costOf 37 = .ok (.iconst 0, 1) := by decide +kernel
theorem dX12_costOf_38 : decode cX12_costOf 38 = .ok (.invokevirtual 184, 3) := by decide +kernel
theorem dX12_costOf_41 : decode cX12_costOf 41 = .ok (.iadd, 1) := by decide +kernel
theorem dX12_costOf_42 : decode cX12_costOf 42 = .ok (.istore_n 3, 1) := by decide +kernel
theorem dX12_costOf_43 : decode cX12_costOf 43 = .ok (.iinc 4 1, 3) := by decide +kernel
theorem dX12_costOf_46 : decode cX12_costOf 46 = .ok (.goto (-24), 3) := by decide +kernel
theorem dX12_costOf_49 : decode cX12_costOf 49 = .ok (.iload_n 3, 1) := by decide +kernel
theorem dX12_costOf_50 : decode cX12_costOf 50 = .ok (.iload_n 2, 1) := by decide +kernel
theorem dX12_costOf_51 : decode cX12_costOf 51 = .ok (.iadd, 1) := by decide +kernel
theorem dX12_costOf_52 : decode cX12_costOf 52 = .ok (.iconst 1, 1) := by decide +kernel
theorem dX12_costOf_53 : decode cX12_costOf 53 = .ok (.isub, 1) := by decide +kernel
theorem dX12_costOf_54 : decode cX12_costOf 54 = .ok (.iload_n 2, 1) := by decide +kernel
theorem dX12_costOf_55 : decode cX12_costOf 55 = .ok (.idiv, 1) := by decide +kernel
theorem dX12_costOf_56 : decode cX12_costOf 56 = .ok (.ireturn, 1) := by decide +kernel
abbrev q_X12_costOf (i : Int) (g : Int) (σ : tw_M) : Option tw_V → tw_M → Prop := fun z τ => ∃ r : Int, z = some (vI r) ∧ (-2147483648 ≤ r ∧ r ≤ 2147483647) ∧ σ = τ ∧ True
set_option maxHeartbeats 4000000 in
set_option maxRecDepth 100000 in
theorem l_X12_costOf {G : tw_G} (hM : tw_isM G) (i : Int) (hi : 0 ≤ i ∧ i ≤ 39) (g : Int) (hg : 1 ≤ g ∧ g ≤ 9) (σ : tw_M) (hI : tw_I σ) : ∀ N_ : Nat, (∀ (s : Int) (hs : -2147483648 ≤ s ∧ s ≤ 2147483647) (h : Int) (hh : 1 ≤ h ∧ h ≤ 41)  (hm : (41 - h).toNat < N_), tw_J G (tw_mt RX12 cX12_costOf 5 (some .int) 1) (tw_E G (q_X12_costOf i g σ)) 22 [(0, vR 88), (1, vI i), (2, vI g), (3, vI s), (4, vI h)] [] σ) := by
  intro N_
  induction N_ with
  | zero => exact fun s hs h hh hm => absurd hm (Nat.not_lt_zero _)
  | succ N_ ih =>
    intro s hs h hh hm
    refine j_iload (pc := 22) dX12_costOf_22 rfl ?_
    refine j_aload_n (pc := 24) dX12_costOf_24 rfl rfl ?_
    refine j_getR (pc := 25) (r := 100) fl_X12_44 dX12_costOf_25 (a_88 hM) rfl ?_
    refine j_iload_n (pc := 28) dX12_costOf_28 rfl rfl ?_
    refine j_iald (pc := 29) dX12_costOf_29 (a_100 hM) (by omega) (by omega) (by decide) ?_
    have f1 : (0 : Int) ≤ σ 100 (i.toNat) ∧ σ 100 (i.toNat) ≤ 40 := hI 100 (i.toNat)
    refine j_icmpR_gt (pc := 30) (tgt := 49) ⟨by omega, by omega⟩ ⟨by omega, by omega⟩ dX12_costOf_30 rfl (fun h2 => ?_) (fun h2 => ?_)
    · refine j_iload_n (pc := 49) dX12_costOf_49 rfl rfl ?_
      refine j_iload_n (pc := 50) dX12_costOf_50 rfl rfl ?_
      refine j_iadd (pc := 51) dX12_costOf_51 ?_
      refine j_top (fun z3 ez3 hz3 => ?_)
      refine j_iconst (pc := 52) dX12_costOf_52 ?_
      refine j_isub (pc := 53) dX12_costOf_53 ?_
      refine j_top (fun z4 ez4 hz4 => ?_)
      refine j_iload_n (pc := 54) dX12_costOf_54 rfl rfl ?_
      refine j_idiv (pc := 55) dX12_costOf_55 (tw_nz ⟨by omega, by omega⟩ (by omega)) (fun z5 ez5 => ?_)
      have hz5 : (-2147483648 : Int) ≤ z5 ∧ z5 ≤ 2147483647 := by rw [ez5]; exact div_in _ _
      exact j_iret (pc := 56) ⟨rfl, rfl⟩ dX12_costOf_56 rfl ⟨_, rfl, ⟨by omega, by omega⟩, rfl, trivial⟩
    · refine j_iload_n (pc := 33) dX12_costOf_33 rfl rfl ?_
      refine j_aload_n (pc := 34) dX12_costOf_34 rfl rfl ?_
      refine j_iload (pc := 35) dX12_costOf_35 rfl ?_
      refine j_iconst (pc := 37) dX12_costOf_37 ?_
      refine j_callV (pc := 38) (As := [vI h, vI 0]) (st := [vI s]) (c_X12_of hM h ⟨by omega, by omega⟩ 0 (by (first | decide | exact ⟨by omega, by omega⟩)) σ hI) mv_X12_184 rfl rfl rfl (a_88 hM) dX12_costOf_38 ⟨Nat.le_of_ble_eq_true rfl, Nat.le_of_ble_eq_true rfl⟩ ⟨Nat.le_refl _, Nat.le_refl _⟩ rfl (Nat.le_of_ble_eq_true rfl) rfl (fun z6 σ7 hz6 => ?_)
      obtain ⟨r9, rfl, hr9, rfl, q8_0⟩ := hz6
      replace q8_0 : r9 = σ 92 (5 * h + (0 : Int)).toNat := q8_0
      refine j_st (st' := [vI r9, vI s]) rfl ?_
      refine j_iadd (pc := 41) dX12_costOf_41 ?_
      refine j_top (fun z10 ez10 hz10 => ?_)
      refine j_istore_n (pc := 42) (i := 3) (ls' := [(0, vR 88), (1, vI i), (2, vI g), (3, vI z10), (4, vI h)]) [1, 2, 3, 0, 4] dX12_costOf_42 rfl (Nat.le_of_ble_eq_true rfl) rfl rfl ?_
      refine j_iinc (pc := 43) (i := 4) (n := 1) (ls' := [(0, vR 88), (1, vI i), (2, vI g), (3, vI z10), (4, vI (h + 1))]) [1, 2, 3, 4, 0] dX12_costOf_43 rfl (Nat.le_of_ble_eq_true rfl) rfl rfl ?_
      refine j_goto (pc := 46) (tgt := 22) dX12_costOf_46 rfl ?_
      refine j_ls (ls' := [(0, vR 88), (1, vI i), (2, vI g), (3, vI z10), (4, vI (h + 1))]) [0, 1, 2, 3, 4] rfl ?_
      exact ih z10 ⟨by omega, by omega⟩ (h + 1) ⟨by omega, by omega⟩ (show (41 - (h + 1)).toNat < N_ from by omega)
set_option maxHeartbeats 4000000 in
set_option maxRecDepth 100000 in
theorem c_X12_costOf {G : tw_G} (hM : tw_isM G) (i : Int) (hi : 0 ≤ i ∧ i ≤ 39) (g : Int) (hg : 1 ≤ g ∧ g ≤ 9) (σ : tw_M) (hI : tw_I σ) : tw_C G yX12_costOf cX12_costOf 5 (some .int) 1 [vR 88, vI i, vI g] σ (q_X12_costOf i g σ) := by
  refine tw_met [(0, vR 88), (1, vI i), (2, vI g)] (by decide +kernel) rfl (Nat.le_of_ble_eq_true rfl) ?_
  refine j_iconst (pc := 0) dX12_costOf_0 ?_
  refine j_istore_n (pc := 1) (i := 3) (ls' := [(0, vR 88), (1, vI i), (2, vI g), (3, vI 0)]) [1, 2, 3, 0] dX12_costOf_1 rfl (Nat.le_of_ble_eq_true rfl) rfl rfl ?_
  refine j_iload_n (pc := 2) dX12_costOf_2 rfl rfl ?_
  refine j_ifR_ne (pc := 3) (tgt := 10) ⟨by omega, by omega⟩ dX12_costOf_3 rfl (fun h11 => ?_) (fun h11 => ?_)
  · refine j_aload_n (pc := 10) dX12_costOf_10 rfl rfl ?_
    refine j_getR (pc := 11) (r := 100) fl_X12_44 dX12_costOf_11 (a_88 hM) rfl ?_
    refine j_iload_n (pc := 14) dX12_costOf_14 rfl rfl ?_
    refine j_iconst (pc := 15) dX12_costOf_15 ?_
    refine j_isub (pc := 16) dX12_costOf_16 ?_
    refine j_iald (pc := 17) dX12_costOf_17 (a_100 hM) (by omega) (by omega) (by decide) ?_
    have f12 : (0 : Int) ≤ σ 100 ((i - 1).toNat) ∧ σ 100 ((i - 1).toNat) ≤ 40 := hI 100 ((i - 1).toNat)
    refine j_iconst (pc := 18) dX12_costOf_18 ?_
    refine j_iadd (pc := 19) dX12_costOf_19 ?_
    refine j_istore (pc := 20) (i := 4) (ls' := [(0, vR 88), (1, vI i), (2, vI g), (3, vI 0), (4, vI ((σ 100 ((i - 1).toNat)) + 1))]) [1, 2, 3, 4, 0] dX12_costOf_20 (Nat.le_of_ble_eq_true rfl) rfl rfl ?_
    refine j_ls (ls' := [(0, vR 88), (1, vI i), (2, vI g), (3, vI 0), (4, vI ((σ 100 ((i - 1).toNat)) + 1))]) [0, 1, 2, 3, 4] rfl ?_
    exact (l_X12_costOf hM i hi g hg σ hI (((41 - ((σ 100 ((i - 1).toNat)) + 1)).toNat) + 1)) 0 (by (first | decide | exact ⟨by omega, by omega⟩)) ((σ 100 ((i - 1).toNat)) + 1) ⟨by omega, by omega⟩ (Nat.lt_succ_self _)
  · refine j_iconst (pc := 6) dX12_costOf_6 ?_
    refine j_goto (pc := 7) (tgt := 20) dX12_costOf_7 rfl ?_
    refine j_istore (pc := 20) (i := 4) (ls' := [(0, vR 88), (1, vI i), (2, vI g), (3, vI 0), (4, vI 1)]) [1, 2, 3, 4, 0] dX12_costOf_20 (Nat.le_of_ble_eq_true rfl) rfl rfl ?_
    refine j_ls (ls' := [(0, vR 88), (1, vI i), (2, vI g), (3, vI 0), (4, vI 1)]) [0, 1, 2, 3, 4] rfl ?_
    exact (l_X12_costOf hM i hi g hg σ hI (((41 - (1 : Int)).toNat) + 1)) 0 (by (first | decide | exact ⟨by omega, by omega⟩)) 1 (by (first | decide | exact ⟨by omega, by omega⟩)) (Nat.lt_succ_self _)
