/-! 19ak.tape -/
theorem dX9_isName_0 : decode cX9_isName 0 = .ok (.aload_n 0, 1) := by decide +kernel
theorem dX9_isName_1 : decode cX9_isName 1 = .ok (.getfield 48, 3) := by decide +kernel
theorem dX9_isName_4 : decode cX9_isName 4 = .ok (.iconst 1, 1) := by decide +kernel
theorem dX9_isName_5 : decode cX9_isName 5 = .ok (.if_icmp .ne 19, 3) := by decide +kernel
theorem dX9_isName_8 : decode cX9_isName 8 = .ok (.aload_n 0, 1) := by decide +kernel
theorem dX9_isName_9 : decode cX9_isName 9 = .ok (.getfield 69, 3) := by decide +kernel
theorem dX9_isName_12 : decode cX9_isName 12 = .ok (.aload_n 0, 1) := by decide +kernel
theorem dX9_isName_13 : decode cX9_isName 13 = .ok (.getfield 76, 3) := by decide +kernel
theorem dX9_isName_16 : decode cX9_isName 16 = .ok (.isub, 1) := by decide +kernel
theorem dX9_isName_17 : decode cX9_isName 17 = .ok (.aload_n 1, 1) := by decide +kernel
theorem dX9_isName_18 : decode cX9_isName 18 = .ok (.invokevirtual 98, 3) := by decide +kernel
theorem dX9_isName_21 : decode cX9_isName 21 = .ok (.if_icmp .eq 5, 3) := by decide +kernel
theorem dX9_isName_24 : decode cX9_isName 24 = .ok (.iconst 0, 1) := by decide +kernel
theorem dX9_isName_25 : decode cX9_isName 25 = .ok (.ireturn, 1) := by decide +kernel
theorem dX9_isName_26 : decode cX9_isName 26 = .ok (.iconst 0, 1) := by decide +kernel
theorem dX9_isName_27 : decode cX9_isName 27 = .ok (.istore_n 2, 1) := by decide +kernel
theorem dX9_isName_28 : decode cX9_isName 28 = .ok (.iload_n 2, 1) := by decide +kernel
theorem dX9_isName_29 : decode cX9_isName 29 = .ok (.aload_n 1, 1) := by decide +kernel
theorem dX9_isName_30 : decode cX9_isName 30 = .ok (.invokevirtual 98, 3) := by decide +kernel
theorem dX9_isName_33 : decode cX9_isName 33 = .ok (.if_icmp .ge 29, 3) := by decide +kernel
theorem dX9_isName_36 : decode cX9_isName 36 = .ok (.aload_n 0, 1) := by decide +kernel
theorem dX9_isName_37 : decode cX9_isName 37 = .ok (.aload_n 0, 1) := by decide +kernel
theorem dX9_isName_38 : decode cX9_isName 38 = .ok (.getfield 76, 3) := by decide +kernel
theorem dX9_isName_41 : decode cX9_isName 41 = .ok (.iload_n 2, 1) := by decide +kernel
theorem dX9_isName_42 : decode cX9_isName 42 = .ok (.iadd, 1) := by decide +kernel
theorem dX9_isName_43 : decode cX9_isName 43 = .ok (.invokevirtual 72, 3) := by decide +kernel
theorem dX9_isName_46 : decode cX9_isName 46 = .ok (.aload_n 1, 1) := by decide +kernel
theorem dX9_isName_47 : decode cX9_isName 47 = .ok (.iload_n 2, 1) := by decide +kernel
theorem dX9_isName_48 : decode cX9_isName 48 = .ok (.invokevirtual 102, 3) := by decide +kernel
theorem dX9_isName_51 : decode cX9_isName 51 = .ok (.if_icmp .eq 5, 3) := by decide +kernel
theorem dX9_isName_54 : decode cX9_isName 54 = .ok (.iconst 0, 1) := by decide +kernel
theorem dX9_isName_55 : decode cX9_isName 55 = .ok (.ireturn, 1) := by decide +kernel
theorem dX9_isName_56 : decode cX9_isName 56 = .ok (.iinc 2 1, 3) := by decide +kernel
theorem dX9_isName_59 : decode cX9_isName 59 = .ok (.goto (-31), 3) := by decide +kernel
theorem dX9_isName_62 : decode cX9_isName 62 = .ok (.iconst 1, 1) := by decide +kernel
theorem dX9_isName_63 : decode cX9_isName 63 = .ok (.ireturn, 1) := by decide +kernel
abbrev q_X9_isName (i : Nat) (σ : tw_M) : Option tw_V → tw_M → Prop := fun z τ => ∃ r : Int, z = some (vI r) ∧ (0 ≤ r ∧ r ≤ 1) ∧ σ = τ ∧ (r = nmk (fX σ) (σ 10 6) (σ 10 7) (σ 10 5) i)
set_option maxHeartbeats 4000000 in
set_option maxRecDepth 100000 in
theorem l_X9_isName {G : tw_G} (hX : tw_isX G) (i : Nat) (hi : i < tw_lit.length) (σ : tw_M) (hI : tw_I σ) : ∀ N_ : Nat, (∀ (j : Int) (hj : 0 ≤ j ∧ j ≤ 8) (i0 : σ 10 6 = 1) (i1 : σ 10 5 - σ 10 7 = (tw_llen i : Int)) (i2 : ∀ k : Nat, (k : Int) < j → fX σ (σ 10 7 + (k : Int)) = tw_lch i k) (hm : (8 - j).toNat < N_), tw_J G (tw_mt RX9 cX9_isName 3 (some .boolean) 4) (tw_E G (q_X9_isName i σ)) 28 [(0, vR 10), (1, vR (200 + i)), (2, vI j)] [] σ) := by
  intro N_
  induction N_ with
  | zero => exact fun j hj i0 i1 i2 hm => absurd hm (Nat.not_lt_zero _)
  | succ N_ ih =>
    intro j hj i0 i1 i2 hm
    refine j_iload_n (pc := 28) dX9_isName_28 rfl rfl ?_
    refine j_aload_n (pc := 29) dX9_isName_29 rfl rfl ?_
    refine j_callT (pc := 30) (i := i) (As := []) (st := [vI j]) (c_J0_length_8abf5 i hi σ hI) hi mv_X9_98 rfl rfl dX9_isName_30 ⟨Nat.le_of_ble_eq_true rfl, Nat.le_of_ble_eq_true rfl⟩ ⟨Nat.le_refl _, Nat.le_refl _⟩ rfl (Nat.le_of_ble_eq_true rfl) rfl (fun z1 σ2 hz1 => ?_)
    obtain ⟨r4, rfl, hr4, rfl, q3_0⟩ := hz1
    replace q3_0 : r4 = (tw_llen i : Int) := q3_0
    refine j_st (st' := [vI r4, vI j]) rfl ?_
    refine j_icmpR_ge (pc := 33) (tgt := 62) ⟨by omega, by omega⟩ ⟨by omega, by omega⟩ dX9_isName_33 rfl (fun h5 => ?_) (fun h5 => ?_)
    · refine j_iconst (pc := 62) dX9_isName_62 ?_
      exact j_zret (pc := 63) ⟨rfl, rfl⟩ dX9_isName_63 rfl (nar_bool (by omega) (by omega)) ⟨_, rfl, ⟨by omega, by omega⟩, rfl, (by first | exact (nmk_f (by omega)).symm | exact (nm_len (by omega)).symm.trans (nmk_t (by omega)).symm | exact (nm_1 (by omega) (fun k hk => i2 k (by omega))).symm.trans (nmk_t (by omega)).symm | exact (nm_ch (k := j.toNat) (by omega) (by rw [Int.toNat_of_nonneg (by omega)]; omega)).symm.trans (nmk_t (by omega)).symm)⟩
    · refine j_aload_n (pc := 36) dX9_isName_36 rfl rfl ?_
      refine j_aload_n (pc := 37) dX9_isName_37 rfl rfl ?_
      refine j_getI (pc := 38) fl_X9_76 dX9_isName_38 (a_10 hX) rfl ?_
      have f6 : (0 : Int) ≤ σ 10 7 ∧ σ 10 7 ≤ 400 := hI 10 7
      refine j_iload_n (pc := 41) dX9_isName_41 rfl rfl ?_
      refine j_iadd (pc := 42) dX9_isName_42 ?_
      refine j_callV (pc := 43) (As := [vI ((σ 10 7) + j)]) (st := []) (c_X9_byteAt hX ((σ 10 7) + j) ⟨by omega, by omega⟩ σ hI) mv_X9_72 rfl rfl rfl (a_10 hX) dX9_isName_43 ⟨Nat.le_of_ble_eq_true rfl, Nat.le_of_ble_eq_true rfl⟩ ⟨Nat.le_refl _, Nat.le_refl _⟩ rfl (Nat.le_of_ble_eq_true rfl) rfl (fun z7 σ8 hz7 => ?_)
      obtain ⟨r10, rfl, hr10, rfl, q9_0, q9_1⟩ := hz7
      replace q9_0 : (¬ (0 ≤ ((σ 10 7) + j) ∧ ((σ 10 7) + j) < σ 10 10 ∧ ((σ 10 7) + j) < 400) ∧ r10 = -1) ∨ (0 ≤ ((σ 10 7) + j) ∧ ((σ 10 7) + j) < σ 10 10 ∧ ((σ 10 7) + j) < 400 ∧ 0 ≤ r10 ∧ r10 = tw_and (σ 11 ((σ 10 7) + j).toNat) 255) := q9_0
      replace q9_1 : r10 = fX σ ((σ 10 7) + j) := q9_1
      refine j_st (st' := [vI r10]) rfl ?_
      refine j_aload_n (pc := 46) dX9_isName_46 rfl rfl ?_
      refine j_iload_n (pc := 47) dX9_isName_47 rfl rfl ?_
      refine j_callT (pc := 48) (i := i) (As := [vI j]) (st := [vI r10]) (c_J0_charAt_5068e i hi j ⟨by omega, by omega⟩ σ hI (by omega)) hi mv_X9_102 rfl rfl dX9_isName_48 ⟨Nat.le_of_ble_eq_true rfl, Nat.le_of_ble_eq_true rfl⟩ ⟨Nat.le_refl _, Nat.le_refl _⟩ rfl (Nat.le_of_ble_eq_true rfl) rfl (fun z11 σ12 hz11 => ?_)
      obtain ⟨r14, rfl, hr14, rfl, q13_0⟩ := hz11
      replace q13_0 : r14 = tw_lch i j.toNat := q13_0
      refine j_st (st' := [vI r14, vI r10]) rfl ?_
      refine j_icmpR_eq (pc := 51) (tgt := 56) ⟨by omega, by omega⟩ ⟨by omega, by omega⟩ dX9_isName_51 rfl (fun h15 => ?_) (fun h15 => ?_)
      · refine j_iinc (pc := 56) (i := 2) (n := 1) (ls' := [(0, vR 10), (1, vR (200 + i)), (2, vI (j + 1))]) [1, 2, 0] dX9_isName_56 rfl (Nat.le_of_ble_eq_true rfl) rfl rfl ?_
        refine j_goto (pc := 59) (tgt := 28) dX9_isName_59 rfl ?_
        refine j_ls (ls' := [(0, vR 10), (1, vR (200 + i)), (2, vI (j + 1))]) [0, 1, 2] rfl ?_
        exact ih (j + 1) ⟨by omega, by omega⟩ (show σ 10 6 = 1 from by omega) (show σ 10 5 - σ 10 7 = (tw_llen i : Int) from by omega) (show ∀ k : Nat, (k : Int) < (j + 1) → fX σ (σ 10 7 + (k : Int)) = tw_lch i k from (by first | exact (fun k hk => by exfalso; omega) | exact (fun k hk => by rcases (show (k : Int) < j ∨ (k : Int) = j by omega) with z | z; (exact i2 k z); (have e : j.toNat = k := by omega); rw [z, ← e]; omega))) (show (8 - (j + 1)).toNat < N_ from by omega)
      · refine j_iconst (pc := 54) dX9_isName_54 ?_
        exact j_zret (pc := 55) ⟨rfl, rfl⟩ dX9_isName_55 rfl (nar_bool (by omega) (by omega)) ⟨_, rfl, ⟨by omega, by omega⟩, rfl, (by first | exact (nmk_f (by omega)).symm | exact (nm_len (by omega)).symm.trans (nmk_t (by omega)).symm | exact (nm_1 (by omega) (fun k hk => i2 k (by omega))).symm.trans (nmk_t (by omega)).symm | exact (nm_ch (k := j.toNat) (by omega) (by rw [Int.toNat_of_nonneg (by omega)]; omega)).symm.trans (nmk_t (by omega)).symm)⟩
set_option maxHeartbeats 4000000 in
set_option maxRecDepth 100000 in
theorem c_X9_isName {G : tw_G} (hX : tw_isX G) (i : Nat) (hi : i < tw_lit.length) (σ : tw_M) (hI : tw_I σ) : tw_C G yX9_isName cX9_isName 3 (some .boolean) 4 [vR 10, vR (200 + i)] σ (q_X9_isName i σ) := by
  refine tw_met [(0, vR 10), (1, vR (200 + i))] (by decide +kernel) rfl (Nat.le_of_ble_eq_true rfl) ?_
  refine j_aload_n (pc := 0) dX9_isName_0 rfl rfl ?_
  refine j_getI (pc := 1) fl_X9_48 dX9_isName_1 (a_10 hX) rfl ?_
  have f16 : (0 : Int) ≤ σ 10 6 ∧ σ 10 6 ≤ 3 := hI 10 6
  refine j_iconst (pc := 4) dX9_isName_4 ?_
  refine j_icmpR_ne (pc := 5) (tgt := 24) ⟨by omega, by omega⟩ ⟨by omega, by omega⟩ dX9_isName_5 rfl (fun h17 => ?_) (fun h17 => ?_)
  · refine j_iconst (pc := 24) dX9_isName_24 ?_
    exact j_zret (pc := 25) ⟨rfl, rfl⟩ dX9_isName_25 rfl (nar_bool (by omega) (by omega)) ⟨_, rfl, ⟨by omega, by omega⟩, rfl, (by first | exact (nmk_f (by omega)).symm | exact (nm_len (by omega)).symm.trans (nmk_t (by omega)).symm | exact (nm_1 (by omega) (fun k hk => i2 k (by omega))).symm.trans (nmk_t (by omega)).symm | exact (nm_ch (k := j.toNat) (by omega) (by rw [Int.toNat_of_nonneg (by omega)]; omega)).symm.trans (nmk_t (by omega)).symm)⟩
  · refine j_aload_n (pc := 8) dX9_isName_8 rfl rfl ?_
    refine j_getI (pc := 9) fl_X9_69 dX9_isName_9 (a_10 hX) rfl ?_
    have f18 : (0 : Int) ≤ σ 10 5 ∧ σ 10 5 ≤ 400 := hI 10 5
    refine j_aload_n (pc := 12) dX9_isName_12 rfl rfl ?_
    refine j_getI (pc := 13) fl_X9_76 dX9_isName_13 (a_10 hX) rfl ?_
    have f19 : (0 : Int) ≤ σ 10 7 ∧ σ 10 7 ≤ 400 := hI 10 7
    refine j_isub (pc := 16) dX9_isName_16 ?_
    refine j_aload_n (pc := 17) dX9_isName_17 rfl rfl ?_
    refine j_callT (pc := 18) (i := i) (As := []) (st := [vI ((σ 10 5) - (σ 10 7))]) (c_J0_length_8abf5 i hi σ hI) hi mv_X9_98 rfl rfl dX9_isName_18 ⟨Nat.le_of_ble_eq_true rfl, Nat.le_of_ble_eq_true rfl⟩ ⟨Nat.le_refl _, Nat.le_refl _⟩ rfl (Nat.le_of_ble_eq_true rfl) rfl (fun z20 σ21 hz20 => ?_)
    obtain ⟨r23, rfl, hr23, rfl, q22_0⟩ := hz20
    replace q22_0 : r23 = (tw_llen i : Int) := q22_0
    refine j_st (st' := [vI r23, vI ((σ 10 5) - (σ 10 7))]) rfl ?_
    refine j_icmpR_eq (pc := 21) (tgt := 26) ⟨by omega, by omega⟩ ⟨by omega, by omega⟩ dX9_isName_21 rfl (fun h24 => ?_) (fun h24 => ?_)
    · refine j_iconst (pc := 26) dX9_isName_26 ?_
      refine j_istore_n (pc := 27) (i := 2) (ls' := [(0, vR 10), (1, vR (200 + i)), (2, vI 0)]) [1, 2, 0] dX9_isName_27 rfl (Nat.le_of_ble_eq_true rfl) rfl rfl ?_
      refine j_ls (ls' := [(0, vR 10), (1, vR (200 + i)), (2, vI 0)]) [0, 1, 2] rfl ?_
      exact (l_X9_isName hX i hi σ hI (((8 - (0 : Int)).toNat) + 1)) 0 (by (first | decide | exact ⟨by omega, by omega⟩)) (show σ 10 6 = 1 from by omega) (show σ 10 5 - σ 10 7 = (tw_llen i : Int) from by omega) (show ∀ k : Nat, (k : Int) < (0 : Int) → fX σ (σ 10 7 + (k : Int)) = tw_lch i k from (by first | exact (fun k hk => by exfalso; omega) | exact (fun k hk => by rcases (show (k : Int) < j ∨ (k : Int) = j by omega) with z | z; (exact i2 k z); (have e : j.toNat = k := by omega); rw [z, ← e]; omega))) (Nat.lt_succ_self _)
    · refine j_iconst (pc := 24) dX9_isName_24 ?_
      exact j_zret (pc := 25) ⟨rfl, rfl⟩ dX9_isName_25 rfl (nar_bool (by omega) (by omega)) ⟨_, rfl, ⟨by omega, by omega⟩, rfl, (by first | exact (nmk_f (by omega)).symm | exact (nm_len (by omega)).symm.trans (nmk_t (by omega)).symm | exact (nm_1 (by omega) (fun k hk => i2 k (by omega))).symm.trans (nmk_t (by omega)).symm | exact (nm_ch (k := j.toNat) (by omega) (by rw [Int.toNat_of_nonneg (by omega)]; omega)).symm.trans (nmk_t (by omega)).symm)⟩
