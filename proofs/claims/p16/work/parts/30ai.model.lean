/-! 30ai.model -/
theorem dX12_learn_0 : decode cX12_learn 0 = .ok (.iconst 0, 1) := by decide +kernel
theorem dX12_learn_1 : decode cX12_learn 1 = .ok (.istore_n 1, 1) := by decide +kernel
theorem dX12_learn_2 : decode cX12_learn 2 = .ok (.iconst 0, 1) := by decide +kernel
theorem dX12_learn_3 : decode cX12_learn 3 = .ok (.istore_n 2, 1) := by decide +kernel
theorem dX12_learn_4 : decode cX12_learn 4 = .ok (.iload_n 2, 1) := by decide +kernel
theorem dX12_learn_5 : decode cX12_learn 5 = .ok (.iconst 2, 1) := by decide +kernel
theorem dX12_learn_6 : decode cX12_learn 6 = .ok (.if_icmp .ge 83, 3) := by decide +kernel
theorem dX12_learn_9 : decode cX12_learn 9 = .ok (.aload_n 0, 1) := by decide +kernel
theorem dX12_learn_10 : decode cX12_learn 10 = .ok (.getfield 7, 3) := by decide +kernel
theorem dX12_learn_13 : decode cX12_learn 13 = .ok (.bipush 93, 2) := by decide +kernel
theorem dX12_learn_15 : decode cX12_learn 15 = .ok (.iconst 2, 1) := by decide +kernel
theorem dX12_learn_16 : decode cX12_learn 16 = .ok (.iload_n 2, 1) := by decide +kernel
theorem dX12_learn_17 : decode cX12_learn 17 = .ok (.imul, 1) := by decide +kernel
theorem dX12_learn_18 : decode cX12_learn 18 = .ok (.iadd, 1) := by decide +kernel
theorem dX12_learn_19 : decode cX12_learn 19 = .ok (.iaload, 1) := by decide +kernel
theorem dX12_learn_20 : decode cX12_learn 20 = .ok (.istore_n 3, 1) := by decide +kernel
theorem dX12_learn_21 : decode cX12_learn 21 = .ok (.iload_n 3, 1) := by decide +kernel
theorem dX12_learn_22 : decode cX12_learn 22 = .ok (.ifCond .le 61, 3) := by decide +kernel
theorem dX12_learn_25 : decode cX12_learn 25 = .ok (.bipush 40, 2) := by decide +kernel
theorem dX12_learn_27 : decode cX12_learn 27 = .ok (.aload_n 0, 1) := by decide +kernel
theorem dX12_learn_28 : decode cX12_learn 28 = .ok (.getfield 7, 3) := by decide +kernel
theorem dX12_learn_31 : decode cX12_learn 31 = .ok (.bipush 93, 2) := by decide +kernel
theorem dX12_learn_33 : decode cX12_learn 33 = .ok (.iconst 2, 1) := by decide +kernel
theorem dX12_learn_34 : decode cX12_learn 34 = .ok (.iload_n 2, 1) := by decide +kernel
theorem dX12_learn_35 : decode cX12_learn 35 = .ok (.imul, 1) := by decide +kernel
theorem dX12_learn_36 : decode cX12_learn 36 = .ok (.iadd, 1) := by decide +kernel
theorem dX12_learn_37 : decode cX12_learn 37 = .ok (.iconst 1, 1) := by decide +kernel
theorem dX12_learn_38 : decode cX12_learn 38 = .ok (.iadd, 1) := by decide +kernel
theorem dX12_learn_39 : decode cX12_learn 39 = .ok (.iaload, 1) := by decide +kernel
theorem dX12_learn_40 : decode cX12_learn 40 = .ok (.imul, 1) := by decide +kernel
theorem dX12_learn_41 : decode cX12_learn 41 = .ok (.iload_n 3, 1) := by decide +kernel
theorem dX12_learn_42 : decode cX12_learn 42 = .ok (.iadd, 1) := by decide +kernel
theorem dX12_learn_43 : decode cX12_learn 43 = .ok (.iconst 2, 1) := by decide +kernel
theorem dX12_learn_44 : decode cX12_learn 44 = .ok (.iload_n 3, 1) := by decide +kernel
theorem dX12_learn_45 : decode cX12_learn 45 = .ok (.imul, 1) := by decide +kernel
theorem dX12_learn_46 : decode cX12_learn 46 = .ok (.idiv, 1) := by decide +kernel
theorem dX12_learn_47 : decode cX12_learn 47 = .ok (.istore 4, 2) := by decide +kernel
theorem dX12_learn_49 : decode cX12_learn 49 = .ok (.iload_n 1, 1) := by decide +kernel
theorem dX12_learn_50 : decode cX12_learn 50 = .ok (.iload 4, 2) := by decide +kernel
theorem dX12_learn_52 : decode cX12_learn 52 = .ok (.aload_n 0, 1) := by decide +kernel
theorem dX12_learn_53 : decode cX12_learn 53 = .ok (.getfield 17, 3) := by decide +kernel
theorem dX12_learn_56 : decode cX12_learn 56 = .ok (.iconst 5, 1) := by decide +kernel
theorem dX12_learn_57 : decode cX12_learn 57 = .ok (.iload_n 2, 1) := by decide +kernel
theorem dX12_learn_58 : decode cX12_learn 58 = .ok (.iadd, 1) := by decide +kernel
theorem dX12_learn_59 : decode cX12_learn 59 = .ok (.iaload, 1) := by decide +kernel
theorem dX12_learn_60 : decode cX12_learn 60 = .ok (.if_icmp .eq 7, 3) := by decide +kernel
theorem dX12_learn_63 : decode cX12_learn 63 = .ok (.iconst 1, 1) := by decide +kernel
theorem dX12_learn_64 : decode cX12_learn 64 = .ok (.goto 4, 3) := by decide +kernel
theorem dX12_learn_67 : decode cX12_learn 67 = .ok (.iconst 0, 1) := by decide +kernel
theorem dX12_learn_68 : decode cX12_learn 68 = .ok (.invokestatic 168, 3) := by decide +kernel
theorem dX12_learn_71 : decode cX12_learn 71 = .ok (.iadd, 1) := by decide +kernel
theorem dX12_learn_72 : decode cX12_learn 72 = .ok (.istore_n 1, 1) := by decide +kernel
theorem dX12_learn_73 : decode cX12_learn 73 = .ok (.aload_n 0, 1) := by decide +kernel
theorem dX12_learn_74 : decode cX12_learn 74 = .ok (.getfield 17, 3) := by decide +kernel
theorem dX12_learn_77 : decode cX12_learn 77 = .ok (.iconst 5, 1) := by decide +kernel
theorem dX12_learn_78 : decode cX12_learn 78 = .ok (.iload_n 2, 1) := by decide +kernel
theorem dX12_learn_79 : decode cX12_learn 79 = .ok (.iadd, 1) := by decide +kernel
theorem dX12_learn_80 : decode cX12_learn 80 = .ok (.iload 4, 2) := by decide +kernel
theorem dX12_learn_82 : decode cX12_learn 82 = .ok (.iastore, 1) := by decide +kernel
theorem dX12_learn_83 : decode cX12_learn 83 = .ok (.iinc 2 1, 3) := by decide +kernel
theorem dX12_learn_86 : decode cX12_learn 86 = .ok (.goto (-82), 3) := by decide +kernel
theorem dX12_learn_89 : decode cX12_learn 89 = .ok (.iload_n 1, 1) := by decide +kernel
theorem dX12_learn_90 : decode cX12_learn 90 = .ok (.ireturn, 1) := by decide +kernel
abbrev q_X12_learn  (σ : tw_M) : Option tw_V → tw_M → Prop := fun z τ => ∃ r : Int, z = some (vI r) ∧ (-2147483648 ≤ r ∧ r ≤ 2147483647) ∧ tw_I τ ∧ tw_F (fun c j => (c = 91 ∧ (j = 5 ∨ j = 6))) σ τ ∧ (((σ 89 93 = 0 ∧ τ 91 5 = σ 91 5) ∨ (¬ σ 89 93 = 0 ∧ τ 91 5 = lrn (σ 89 94) (σ 89 93)))) ∧ (((σ 89 95 = 0 ∧ τ 91 6 = σ 91 6) ∨ (¬ σ 89 95 = 0 ∧ τ 91 6 = lrn (σ 89 96) (σ 89 95)))) ∧ (((τ 91 5 = σ 91 5 ∧ τ 91 6 = σ 91 6 ∧ r = 0) ∨ (¬ τ 91 5 = σ 91 5 ∧ τ 91 6 = σ 91 6 ∧ r = 1) ∨ (τ 91 5 = σ 91 5 ∧ ¬ τ 91 6 = σ 91 6 ∧ r = 1) ∨ (¬ τ 91 5 = σ 91 5 ∧ ¬ τ 91 6 = σ 91 6 ∧ r = 2)))
set_option maxHeartbeats 4000000 in
set_option maxRecDepth 100000 in
theorem l_X12_learn {G : tw_G} (hM : tw_isM G) (σ : tw_M) (hI : tw_I σ) : ∀ N_ : Nat, (∀ (m : Int) (hm : 0 ≤ m ∧ m ≤ 2) (k : Int) (hk : 0 ≤ k ∧ k ≤ 2) (τ : tw_M) (hIτ : tw_I τ) (hFτ : tw_F (fun c j => (c = 91 ∧ (j = 5 ∨ j = 6))) σ τ) (i0 : (k = 0 ∧ τ 91 5 = σ 91 5) ∨ (1 ≤ k ∧ ((σ 89 93 = 0 ∧ τ 91 5 = σ 91 5) ∨ (¬ σ 89 93 = 0 ∧ τ 91 5 = lrn (σ 89 94) (σ 89 93))))) (i1 : (k ≤ 1 ∧ τ 91 6 = σ 91 6) ∨ (k = 2 ∧ ((σ 89 95 = 0 ∧ τ 91 6 = σ 91 6) ∨ (¬ σ 89 95 = 0 ∧ τ 91 6 = lrn (σ 89 96) (σ 89 95))))) (i2 : ((τ 91 5 = σ 91 5 ∧ τ 91 6 = σ 91 6 ∧ m = 0) ∨ (¬ τ 91 5 = σ 91 5 ∧ τ 91 6 = σ 91 6 ∧ m = 1) ∨ (τ 91 5 = σ 91 5 ∧ ¬ τ 91 6 = σ 91 6 ∧ m = 1) ∨ (¬ τ 91 5 = σ 91 5 ∧ ¬ τ 91 6 = σ 91 6 ∧ m = 2))) (i3 : m ≤ k) (hm : (2 - k).toNat < N_), tw_J G (tw_mt RX12 cX12_learn 5 (some .int) 1) (tw_E G (q_X12_learn σ)) 4 [(0, vR 88), (1, vI m), (2, vI k)] [] τ) := by
  intro N_
  induction N_ with
  | zero => exact fun m hm k hk τ hIτ hFτ i0 i1 i2 i3 hm => absurd hm (Nat.not_lt_zero _)
  | succ N_ ih =>
    intro m hm k hk τ hIτ hFτ i0 i1 i2 i3 hm
    refine j_iload_n (pc := 4) dX12_learn_4 rfl rfl ?_
    refine j_iconst (pc := 5) dX12_learn_5 ?_
    refine j_icmpR_ge (pc := 6) (tgt := 89) ⟨by omega, by omega⟩ ⟨by omega, by omega⟩ dX12_learn_6 rfl (fun h1 => ?_) (fun h1 => ?_)
    · refine j_iload_n (pc := 89) dX12_learn_89 rfl rfl ?_
      exact j_iret (pc := 90) ⟨rfl, rfl⟩ dX12_learn_90 rfl ⟨_, rfl, ⟨by omega, by omega⟩, hIτ, hFτ, (by clear i1 i2; omega), (by clear i0 i2; omega), (by clear i0 i1; omega)⟩
    · have r5 := tri_at (τ := τ) (c := 91) (s := k) (p := 5) (q := 6) (j := (5 + k).toNat) (by omega)
      have r9 := tri_at (τ := τ) (c := 89) (s := k) (p := 93) (q := 95) (j := (93 + 2 * k).toNat) (by omega)
      have f93 : τ 89 93 = σ 89 93 := hFτ 89 93 (show ¬ ((89 = 91 ∧ (93 = 5 ∨ 93 = 6))) from by decide)
      have f94 : τ 89 94 = σ 89 94 := hFτ 89 94 (show ¬ ((89 = 91 ∧ (94 = 5 ∨ 94 = 6))) from by decide)
      have f95 : τ 89 95 = σ 89 95 := hFτ 89 95 (show ¬ ((89 = 91 ∧ (95 = 5 ∨ 95 = 6))) from by decide)
      have f96 : τ 89 96 = σ 89 96 := hFτ 89 96 (show ¬ ((89 = 91 ∧ (96 = 5 ∨ 96 = 6))) from by decide)
      have b93 : (0 : Int) ≤ σ 89 93 ∧ σ 89 93 ≤ 999 := hI 89 93
      have b95 : (0 : Int) ≤ σ 89 95 ∧ σ 89 95 ≤ 999 := hI 89 95
      refine j_aload_n (pc := 9) dX12_learn_9 rfl rfl ?_
      refine j_getR (pc := 10) (r := 89) fl_X12_7 dX12_learn_10 (a_88 hM) rfl ?_
      refine j_bipush (pc := 13) dX12_learn_13 rfl ?_
      refine j_iconst (pc := 15) dX12_learn_15 ?_
      refine j_iload_n (pc := 16) dX12_learn_16 rfl rfl ?_
      refine j_imul (pc := 17) dX12_learn_17 ?_
      refine j_iadd (pc := 18) dX12_learn_18 ?_
      refine j_iald (pc := 19) dX12_learn_19 (a_89 hM) (by omega) (by omega) (by decide) ?_
      have f2 : (-2147483648 : Int) ≤ τ 89 ((93 + (2 * k)).toNat) ∧ τ 89 ((93 + (2 * k)).toNat) ≤ 2147483647 := st_D hIτ _
      have g3 : (0 : Int) ≤ τ 89 ((93 + (2 * k)).toNat) ∧ τ 89 ((93 + (2 * k)).toNat) ≤ 999 := st_t hIτ (by omega)
      refine j_istore_n (pc := 20) (i := 3) (ls' := [(0, vR 88), (1, vI m), (2, vI k), (3, vI (τ 89 ((93 + (2 * k)).toNat)))]) [1, 2, 3, 0] dX12_learn_20 rfl (Nat.le_of_ble_eq_true rfl) rfl rfl ?_
      refine j_iload_n (pc := 21) dX12_learn_21 rfl rfl ?_
      refine j_ifR_le (pc := 22) (tgt := 83) ⟨by omega, by omega⟩ dX12_learn_22 rfl (fun h4 => ?_) (fun h4 => ?_)
      · refine j_iinc (pc := 83) (i := 2) (n := 1) (ls' := [(0, vR 88), (1, vI m), (2, vI (k + 1))]) [1, 2, 0] dX12_learn_83 rfl (Nat.le_of_ble_eq_true rfl) rfl rfl ?_
        refine j_goto (pc := 86) (tgt := 4) dX12_learn_86 rfl ?_
        refine j_ls (ls' := [(0, vR 88), (1, vI m), (2, vI (k + 1))]) [0, 1, 2] rfl ?_
        exact ih m ⟨by omega, by omega⟩ (k + 1) ⟨by omega, by omega⟩ τ hIτ hFτ (show ((k + 1) = 0 ∧ τ 91 5 = σ 91 5) ∨ (1 ≤ (k + 1) ∧ ((σ 89 93 = 0 ∧ τ 91 5 = σ 91 5) ∨ (¬ σ 89 93 = 0 ∧ τ 91 5 = lrn (σ 89 94) (σ 89 93)))) from (by clear i1 i2; omega)) (show ((k + 1) ≤ 1 ∧ τ 91 6 = σ 91 6) ∨ ((k + 1) = 2 ∧ ((σ 89 95 = 0 ∧ τ 91 6 = σ 91 6) ∨ (¬ σ 89 95 = 0 ∧ τ 91 6 = lrn (σ 89 96) (σ 89 95)))) from (by clear i0 i2; omega)) (show ((τ 91 5 = σ 91 5 ∧ τ 91 6 = σ 91 6 ∧ m = 0) ∨ (¬ τ 91 5 = σ 91 5 ∧ τ 91 6 = σ 91 6 ∧ m = 1) ∨ (τ 91 5 = σ 91 5 ∧ ¬ τ 91 6 = σ 91 6 ∧ m = 1) ∨ (¬ τ 91 5 = σ 91 5 ∧ ¬ τ 91 6 = σ 91 6 ∧ m = 2)) from (by omega)) (show m ≤ (k + 1) from by omega) (show (2 - (k + 1)).toNat < N_ from by omega)
      · refine j_bipush (pc := 25) dX12_learn_25 rfl ?_
        refine j_aload_n (pc := 27) dX12_learn_27 rfl rfl ?_
        refine j_getR (pc := 28) (r := 89) fl_X12_7 dX12_learn_28 (a_88 hM) rfl ?_
        refine j_bipush (pc := 31) dX12_learn_31 rfl ?_
        refine j_iconst (pc := 33) dX12_learn_33 ?_
        refine j_iload_n (pc := 34) dX12_learn_34 rfl rfl ?_
        refine j_imul (pc := 35) dX12_learn_35 ?_
        refine j_iadd (pc := 36) dX12_learn_36 ?_
        refine j_iconst (pc := 37) dX12_learn_37 ?_
        refine j_iadd (pc := 38) dX12_learn_38 ?_
        refine j_iald (pc := 39) dX12_learn_39 (a_89 hM) (by omega) (by omega) (by decide) ?_
        have f5 : (-2147483648 : Int) ≤ τ 89 (((93 + (2 * k)) + 1).toNat) ∧ τ 89 (((93 + (2 * k)) + 1).toNat) ≤ 2147483647 := st_D hIτ _
        refine j_imul (pc := 40) dX12_learn_40 ?_
        refine j_top (fun z6 ez6 hz6 => ?_)
        have t1 := ez6
        refine j_iload_n (pc := 41) dX12_learn_41 rfl rfl ?_
        refine j_iadd (pc := 42) dX12_learn_42 ?_
        refine j_top (fun z7 ez7 hz7 => ?_)
        have t2 := ez7
        refine j_iconst (pc := 43) dX12_learn_43 ?_
        refine j_iload_n (pc := 44) dX12_learn_44 rfl rfl ?_
        refine j_imul (pc := 45) dX12_learn_45 ?_
        refine j_idiv (pc := 46) dX12_learn_46 (tw_nz ⟨by omega, by omega⟩ (by omega)) (fun z8 ez8 => ?_)
        have hz8 : (-2147483648 : Int) ≤ z8 ∧ z8 ≤ 2147483647 := by rw [ez8]; exact div_in _ _
        have lv : (k = 0 ∧ z8 = lrn (σ 89 94) (σ 89 93)) ∨ (k = 1 ∧ z8 = lrn (σ 89 96) (σ 89 95)) := by
          have t3 := ez8
          rw [t2, t1] at t3
          rcases (show k = 0 ∨ k = 1 by omega) with q | q
          · rw [show (93 + 2 * k + 1).toNat = 94 from by omega, show (93 + 2 * k).toNat = 93 from by omega, f93, f94] at t3
            exact Or.inl ⟨q, t3⟩
          · rw [show (93 + 2 * k + 1).toNat = 96 from by omega, show (93 + 2 * k).toNat = 95 from by omega, f95, f96] at t3
            exact Or.inr ⟨q, t3⟩
        refine j_istore (pc := 47) (i := 4) (ls' := [(0, vR 88), (1, vI m), (2, vI k), (4, vI z8)]) [1, 2, 3, 0] dX12_learn_47 (Nat.le_of_ble_eq_true rfl) rfl rfl ?_
        refine j_iload_n (pc := 49) dX12_learn_49 rfl rfl ?_
        refine j_iload (pc := 50) dX12_learn_50 rfl ?_
        refine j_aload_n (pc := 52) dX12_learn_52 rfl rfl ?_
        refine j_getR (pc := 53) (r := 91) fl_X12_17 dX12_learn_53 (a_88 hM) rfl ?_
        refine j_iconst (pc := 56) dX12_learn_56 ?_
        refine j_iload_n (pc := 57) dX12_learn_57 rfl rfl ?_
        refine j_iadd (pc := 58) dX12_learn_58 ?_
        refine j_iald (pc := 59) dX12_learn_59 (a_91 hM) (by omega) (by omega) (by decide) ?_
        have f9 : (-2147483648 : Int) ≤ τ 91 ((5 + k).toNat) ∧ τ 91 ((5 + k).toNat) ≤ 2147483647 := rbm_D (hIτ 91 ((5 + k).toNat))
        refine j_icmpR_eq (pc := 60) (tgt := 67) ⟨by omega, by omega⟩ ⟨by omega, by omega⟩ dX12_learn_60 rfl (fun h10 => ?_) (fun h10 => ?_)
        · refine j_iconst (pc := 67) dX12_learn_67 ?_
          refine j_callS (pc := 68) (As := [vI 0]) (st := [vI m]) (c_X12_flag 0 (by (first | decide | exact ⟨by omega, by omega⟩)) τ hIτ) ms_X12_168 rfl dX12_learn_68 ⟨Nat.le_of_ble_eq_true rfl, Nat.le_of_ble_eq_true rfl⟩ ⟨Nat.le_refl _, Nat.le_refl _⟩ rfl (Nat.le_of_ble_eq_true rfl) rfl (fun z11 σ12 hz11 => ?_)
          obtain ⟨r14, rfl, hr14, rfl, q13_0⟩ := hz11
          replace q13_0 : r14 = (0 : Int) := q13_0
          refine j_st (st' := [vI r14, vI m]) rfl ?_
          refine j_iadd (pc := 71) dX12_learn_71 ?_
          refine j_istore_n (pc := 72) (i := 1) (ls' := [(0, vR 88), (1, vI (m + r14)), (2, vI k), (4, vI z8)]) [1, 0, 2, 3] dX12_learn_72 rfl (Nat.le_of_ble_eq_true rfl) rfl rfl ?_
          refine j_aload_n (pc := 73) dX12_learn_73 rfl rfl ?_
          refine j_getR (pc := 74) (r := 91) fl_X12_17 dX12_learn_74 (a_88 hM) rfl ?_
          refine j_iconst (pc := 77) dX12_learn_77 ?_
          refine j_iload_n (pc := 78) dX12_learn_78 rfl rfl ?_
          refine j_iadd (pc := 79) dX12_learn_79 ?_
          refine j_iload (pc := 80) dX12_learn_80 rfl ?_
          refine j_iast (pc := 82) dX12_learn_82 (a_91 hM) (by omega) (by omega) (by decide) (j_nm (fun σ15 (eσ15 : σ15 = tw_up τ 91 ((5 + k).toNat) z8) => ?_))
          have hIσ15 : tw_I σ15 := tw_I_up hIτ eσ15  (r5w (by omega) (by omega))
          have hFσ15 : tw_F (fun c j => (c = 91 ∧ (j = 5 ∨ j = 6))) σ σ15 := tw_F_up hFτ eσ15 (show (91 = 91 ∧ ((5 + k).toNat = 5 ∨ (5 + k).toNat = 6)) from by omega)
          have w5 : (k = 0 ∧ σ15 91 5 = z8 ∧ σ15 91 6 = τ 91 6) ∨ (k = 1 ∧ σ15 91 6 = z8 ∧ σ15 91 5 = τ 91 5) := by
            rcases (show k = 0 ∨ k = 1 by omega) with q | q
            · exact Or.inl ⟨q, tw_eq2 eσ15 (by omega), tw_ne1 eσ15 (by (first | decide | omega))⟩
            · exact Or.inr ⟨q, tw_eq2 eσ15 (by omega), tw_ne1 eσ15 (by (first | decide | omega))⟩
          refine j_iinc (pc := 83) (i := 2) (n := 1) (ls' := [(0, vR 88), (1, vI (m + r14)), (2, vI (k + 1))]) [1, 2, 0] dX12_learn_83 rfl (Nat.le_of_ble_eq_true rfl) rfl rfl ?_
          refine j_goto (pc := 86) (tgt := 4) dX12_learn_86 rfl ?_
          refine j_ls (ls' := [(0, vR 88), (1, vI (m + r14)), (2, vI (k + 1))]) [0, 1, 2] rfl ?_
          exact ih (m + r14) ⟨by omega, by omega⟩ (k + 1) ⟨by omega, by omega⟩ σ15 hIσ15 hFσ15 (show ((k + 1) = 0 ∧ σ15 91 5 = σ 91 5) ∨ (1 ≤ (k + 1) ∧ ((σ 89 93 = 0 ∧ σ15 91 5 = σ 91 5) ∨ (¬ σ 89 93 = 0 ∧ σ15 91 5 = lrn (σ 89 94) (σ 89 93)))) from (by clear i1 i2; omega)) (show ((k + 1) ≤ 1 ∧ σ15 91 6 = σ 91 6) ∨ ((k + 1) = 2 ∧ ((σ 89 95 = 0 ∧ σ15 91 6 = σ 91 6) ∨ (¬ σ 89 95 = 0 ∧ σ15 91 6 = lrn (σ 89 96) (σ 89 95)))) from (by clear i0 i2; omega)) (show ((σ15 91 5 = σ 91 5 ∧ σ15 91 6 = σ 91 6 ∧ (m + r14) = 0) ∨ (¬ σ15 91 5 = σ 91 5 ∧ σ15 91 6 = σ 91 6 ∧ (m + r14) = 1) ∨ (σ15 91 5 = σ 91 5 ∧ ¬ σ15 91 6 = σ 91 6 ∧ (m + r14) = 1) ∨ (¬ σ15 91 5 = σ 91 5 ∧ ¬ σ15 91 6 = σ 91 6 ∧ (m + r14) = 2)) from (by omega)) (show (m + r14) ≤ (k + 1) from by omega) (show (2 - (k + 1)).toNat < N_ from by omega)
        · refine j_iconst (pc := 63) dX12_learn_63 ?_
          refine j_goto (pc := 64) (tgt := 68) dX12_learn_64 rfl ?_
          refine j_callS (pc := 68) (As := [vI 1]) (st := [vI m]) (c_X12_flag 1 (by (first | decide | exact ⟨by omega, by omega⟩)) τ hIτ) ms_X12_168 rfl dX12_learn_68 ⟨Nat.le_of_ble_eq_true rfl, Nat.le_of_ble_eq_true rfl⟩ ⟨Nat.le_refl _, Nat.le_refl _⟩ rfl (Nat.le_of_ble_eq_true rfl) rfl (fun z16 σ17 hz16 => ?_)
          obtain ⟨r19, rfl, hr19, rfl, q18_0⟩ := hz16
          replace q18_0 : r19 = (1 : Int) := q18_0
          refine j_st (st' := [vI r19, vI m]) rfl ?_
          refine j_iadd (pc := 71) dX12_learn_71 ?_
          refine j_istore_n (pc := 72) (i := 1) (ls' := [(0, vR 88), (1, vI (m + r19)), (2, vI k), (4, vI z8)]) [1, 0, 2, 3] dX12_learn_72 rfl (Nat.le_of_ble_eq_true rfl) rfl rfl ?_
          refine j_aload_n (pc := 73) dX12_learn_73 rfl rfl ?_
          refine j_getR (pc := 74) (r := 91) fl_X12_17 dX12_learn_74 (a_88 hM) rfl ?_
          refine j_iconst (pc := 77) dX12_learn_77 ?_
          refine j_iload_n (pc := 78) dX12_learn_78 rfl rfl ?_
          refine j_iadd (pc := 79) dX12_learn_79 ?_
          refine j_iload (pc := 80) dX12_learn_80 rfl ?_
          refine j_iast (pc := 82) dX12_learn_82 (a_91 hM) (by omega) (by omega) (by decide) (j_nm (fun σ20 (eσ20 : σ20 = tw_up τ 91 ((5 + k).toNat) z8) => ?_))
          have hIσ20 : tw_I σ20 := tw_I_up hIτ eσ20  (r5w (by omega) (by omega))
          have hFσ20 : tw_F (fun c j => (c = 91 ∧ (j = 5 ∨ j = 6))) σ σ20 := tw_F_up hFτ eσ20 (show (91 = 91 ∧ ((5 + k).toNat = 5 ∨ (5 + k).toNat = 6)) from by omega)
          have w5 : (k = 0 ∧ σ20 91 5 = z8 ∧ σ20 91 6 = τ 91 6) ∨ (k = 1 ∧ σ20 91 6 = z8 ∧ σ20 91 5 = τ 91 5) := by
            rcases (show k = 0 ∨ k = 1 by omega) with q | q
            · exact Or.inl ⟨q, tw_eq2 eσ20 (by omega), tw_ne1 eσ20 (by (first | decide | omega))⟩
            · exact Or.inr ⟨q, tw_eq2 eσ20 (by omega), tw_ne1 eσ20 (by (first | decide | omega))⟩
          refine j_iinc (pc := 83) (i := 2) (n := 1) (ls' := [(0, vR 88), (1, vI (m + r19)), (2, vI (k + 1))]) [1, 2, 0] dX12_learn_83 rfl (Nat.le_of_ble_eq_true rfl) rfl rfl ?_
          refine j_goto (pc := 86) (tgt := 4) dX12_learn_86 rfl ?_
          refine j_ls (ls' := [(0, vR 88), (1, vI (m + r19)), (2, vI (k + 1))]) [0, 1, 2] rfl ?_
          exact ih (m + r19) ⟨by omega, by omega⟩ (k + 1) ⟨by omega, by omega⟩ σ20 hIσ20 hFσ20 (show ((k + 1) = 0 ∧ σ20 91 5 = σ 91 5) ∨ (1 ≤ (k + 1) ∧ ((σ 89 93 = 0 ∧ σ20 91 5 = σ 91 5) ∨ (¬ σ 89 93 = 0 ∧ σ20 91 5 = lrn (σ 89 94) (σ 89 93)))) from (by clear i1 i2; omega)) (show ((k + 1) ≤ 1 ∧ σ20 91 6 = σ 91 6) ∨ ((k + 1) = 2 ∧ ((σ 89 95 = 0 ∧ σ20 91 6 = σ 91 6) ∨ (¬ σ 89 95 = 0 ∧ σ20 91 6 = lrn (σ 89 96) (σ 89 95)))) from (by clear i0 i2; omega)) (show ((σ20 91 5 = σ 91 5 ∧ σ20 91 6 = σ 91 6 ∧ (m + r19) = 0) ∨ (¬ σ20 91 5 = σ 91 5 ∧ σ20 91 6 = σ 91 6 ∧ (m + r19) = 1) ∨ (σ20 91 5 = σ 91 5 ∧ ¬ σ20 91 6 = σ 91 6 ∧ (m + r19) = 1) ∨ (¬ σ20 91 5 = σ 91 5 ∧ ¬ σ20 91 6 = σ 91 6 ∧ (m + r19) = 2)) from (by omega)) (show (m + r19) ≤ (k + 1) from by omega) (show (2 - (k + 1)).toNat < N_ from by omega)
set_option maxHeartbeats 4000000 in
set_option maxRecDepth 100000 in
theorem c_X12_learn {G : tw_G} (hM : tw_isM G) (σ : tw_M) (hI : tw_I σ) : tw_C G yX12_learn cX12_learn 5 (some .int) 1 [vR 88] σ (q_X12_learn σ) := by
  refine tw_met [(0, vR 88)] (by decide +kernel) rfl (Nat.le_of_ble_eq_true rfl) ?_
  refine j_iconst (pc := 0) dX12_learn_0 ?_
  refine j_istore_n (pc := 1) (i := 1) (ls' := [(0, vR 88), (1, vI 0)]) [1, 0] dX12_learn_1 rfl (Nat.le_of_ble_eq_true rfl) rfl rfl ?_
  refine j_iconst (pc := 2) dX12_learn_2 ?_
  refine j_istore_n (pc := 3) (i := 2) (ls' := [(0, vR 88), (1, vI 0), (2, vI 0)]) [1, 2, 0] dX12_learn_3 rfl (Nat.le_of_ble_eq_true rfl) rfl rfl ?_
  refine j_ls (ls' := [(0, vR 88), (1, vI 0), (2, vI 0)]) [0, 1, 2] rfl ?_
  exact (l_X12_learn hM σ hI (((2 - (0 : Int)).toNat) + 1)) 0 (by (first | decide | exact ⟨by omega, by omega⟩)) 0 (by (first | decide | exact ⟨by omega, by omega⟩)) σ hI (tw_F_rf) (show ((0 : Int) = 0 ∧ σ 91 5 = σ 91 5) ∨ (1 ≤ (0 : Int) ∧ ((σ 89 93 = 0 ∧ σ 91 5 = σ 91 5) ∨ (¬ σ 89 93 = 0 ∧ σ 91 5 = lrn (σ 89 94) (σ 89 93)))) from (by omega)) (show ((0 : Int) ≤ 1 ∧ σ 91 6 = σ 91 6) ∨ ((0 : Int) = 2 ∧ ((σ 89 95 = 0 ∧ σ 91 6 = σ 91 6) ∨ (¬ σ 89 95 = 0 ∧ σ 91 6 = lrn (σ 89 96) (σ 89 95)))) from (by omega)) (show ((σ 91 5 = σ 91 5 ∧ σ 91 6 = σ 91 6 ∧ (0 : Int) = 0) ∨ (¬ σ 91 5 = σ 91 5 ∧ σ 91 6 = σ 91 6 ∧ (0 : Int) = 1) ∨ (σ 91 5 = σ 91 5 ∧ ¬ σ 91 6 = σ 91 6 ∧ (0 : Int) = 1) ∨ (¬ σ 91 5 = σ 91 5 ∧ ¬ σ 91 6 = σ 91 6 ∧ (0 : Int) = 2)) from (by omega)) (show (0 : Int) ≤ (0 : Int) from by omega) (Nat.lt_succ_self _)
