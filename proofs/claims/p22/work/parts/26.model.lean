/-! 26.model -/
theorem dX12_bares_0 : decode cX12_bares 0 = .ok (.aload_n 0, 1) := by decide +kernel
theorem dX12_bares_1 : decode cX12_bares 1 = .ok (.sipush 300, 3) := by decide +kernel
theorem dX12_bares_4 : decode cX12_bares 4 = .ok (.iconst 0, 1) := by decide +kernel
theorem dX12_bares_5 : decode cX12_bares 5 = .ok (.invokevirtual 283, 3) := by decide +kernel
theorem dX12_bares_8 : decode cX12_bares 8 = .ok (.iconst 1, 1) := by decide +kernel
theorem dX12_bares_9 : decode cX12_bares 9 = .ok (.istore_n 1, 1) := by decide +kernel
theorem dX12_bares_10 : decode cX12_bares 10 = .ok (.iload_n 1, 1) := by decide +kernel
theorem dX12_bares_11 : decode cX12_bares 11 = .ok (.aload_n 0, 1) := by decide +kernel
theorem dX12_bares_12 : decode cX12_bares 12 = .ok (.getfield 17, 3) := by decide +kernel
theorem dX12_bares_15 : decode cX12_bares 15 = .ok (.iconst 0, 1) := by decide +kernel
theorem dX12_bares_16 : decode cX12_bares 16 = .ok (.iaload, 1) := by decide +kernel
theorem dX12_bares_17 : decode cX12_bares 17 = .ok (.if_icmp .gt 67, 3) := by decide +kernel
theorem dX12_bares_20 : decode cX12_bares 20 = .ok (.aload_n 0, 1) := by decide +kernel
theorem dX12_bares_21 : decode cX12_bares 21 = .ok (.getfield 7, 3) := by decide +kernel
theorem dX12_bares_24 : decode cX12_bares 24 = .ok (.sipush 300, 3) := by decide +kernel
theorem dX12_bares_27 : decode cX12_bares 27 = .ok (.iload_n 1, 1) := by decide +kernel
theorem dX12_bares_28 : decode cX12_bares 28 = .ok (.iadd, 1) := by decide +kernel
theorem dX12_bares_29 : decode cX12_bares 29 = .ok (.iaload, 1) := by decide +kernel
theorem dX12_bares_30 : decode cX12_bares 30 = .ok (.ifCond .le 48, 3) := by decide +kernel
theorem dX12_bares_33 : decode cX12_bares 33 = .ok (.aload_n 0, 1) := by decide +kernel
theorem dX12_bares_34 : decode cX12_bares 34 = .ok (.getfield 7, 3) := by decide +kernel
theorem dX12_bares_37 : decode cX12_bares 37 = .ok (.sipush 382, 3) := by decide +kernel
theorem dX12_bares_40 : decode cX12_bares 40 = .ok (.aload_n 0, 1) := by decide +kernel
theorem dX12_bares_41 : decode cX12_bares 41 = .ok (.getfield 7, 3) := by decide +kernel
theorem dX12_bares_44 : decode cX12_bares 44 = .ok (.sipush 300, 3) := by decide +kernel
theorem dX12_bares_47 : decode cX12_bares 47 = .ok (.iload_n 1, 1) := by decide +kernel
theorem dX12_bares_48 : decode cX12_bares 48 = .ok (.iadd, 1) := by decide +kernel
theorem dX12_bares_49 : decode cX12_bares 49 = .ok (.iaload, 1) := by decide +kernel
theorem dX12_bares_50 : decode cX12_bares 50 = .ok (.iadd, 1) := by decide +kernel
theorem dX12_bares_51 : decode cX12_bares 51 = .ok (.dup2, 1) := by decide +kernel
theorem dX12_bares_52 : decode cX12_bares 52 = .ok (.iaload, 1) := by decide +kernel
theorem dX12_bares_53 : decode cX12_bares 53 = .ok (.iconst 1, 1) := by decide +kernel
theorem dX12_bares_54 : decode cX12_bares 54 = .ok (.iadd, 1) := by decide +kernel
theorem dX12_bares_55 : decode cX12_bares 55 = .ok (.iastore, 1) := by decide +kernel
theorem dX12_bares_56 : decode cX12_bares 56 = .ok (.aload_n 0, 1) := by decide +kernel
theorem dX12_bares_57 : decode cX12_bares 57 = .ok (.getfield 7, 3) := by decide +kernel
theorem dX12_bares_60 : decode cX12_bares 60 = .ok (.sipush 300, 3) := by decide +kernel
theorem dX12_bares_63 : decode cX12_bares 63 = .ok (.iload_n 1, 1) := by decide +kernel
theorem dX12_bares_64 : decode cX12_bares 64 = .ok (.iadd, 1) := by decide +kernel
theorem dX12_bares_65 : decode cX12_bares 65 = .ok (.iconst 0, 1) := by decide +kernel
theorem dX12_bares_66 : decode cX12_bares 66 = .ok (.iastore, 1) := by decide +kernel
theorem dX12_bares_67 : decode cX12_bares 67 = .ok (.aload_n 0, 1) := by decide +kernel
theorem dX12_bares_68 : decode cX12_bares 68 = .ok (.getfield 7, 3) := by decide +kernel
theorem dX12_bares_71 : decode cX12_bares 71 = .ok (.sipush 341, 3) := by decide +kernel
theorem dX12_bares_74 : decode cX12_bares 74 = .ok (.iload_n 1, 1) := by decide +kernel
theorem dX12_bares_75 : decode cX12_bares 75 = .ok (.iadd, 1) := by decide +kernel
theorem dX12_bares_76 : decode cX12_bares 76 = .ok (.iconst 0, 1) := by decide +kernel
theorem dX12_bares_77 : decode cX12_bares 77 = .ok (.iastore, 1) := by decide +kernel
theorem dX12_bares_78 : decode cX12_bares 78 = .ok (.iinc 1 1, 3) := by decide +kernel
theorem dX12_bares_81 : decode cX12_bares 81 = .ok (.goto (-71), 3) := by decide +kernel
theorem dX12_bares_84 : decode cX12_bares 84 = .ok (.return_, 1) := by decide +kernel
theorem dX12_puts_0 : decode cX12_puts 0 = .ok (.aload_n 0, 1) := by decide +kernel
theorem dX12_puts_1 : decode cX12_puts 1 = .ok (.iload_n 1, 1) := by decide +kernel
theorem dX12_puts_2 : decode cX12_puts 2 = .ok (.iconst 1, 1) := by decide +kernel
theorem dX12_puts_3 : decode cX12_puts 3 = .ok (.invokevirtual 184, 3) := by decide +kernel
theorem dX12_puts_6 : decode cX12_puts 6 = .ok (.istore_n 2, 1) := by decide +kernel
theorem dX12_puts_7 : decode cX12_puts 7 = .ok (.aload_n 0, 1) := by decide +kernel
theorem dX12_puts_8 : decode cX12_puts 8 = .ok (.getfield 7, 3) := by decide +kernel
theorem dX12_puts_11 : decode cX12_puts 11 = .ok (.sipush 382, 3) := by decide +kernel
theorem dX12_puts_14 : decode cX12_puts 14 = .ok (.iload_n 2, 1) := by decide +kernel
theorem dX12_puts_15 : decode cX12_puts 15 = .ok (.iadd, 1) := by decide +kernel
theorem dX12_puts_16 : decode cX12_puts 16 = .ok (.iaload, 1) := by decide +kernel
theorem dX12_puts_17 : decode cX12_puts 17 = .ok (.ifCond .ne 5, 3) := by decide +kernel
theorem dX12_puts_20 : decode cX12_puts 20 = .ok (.iconst 0, 1) := by decide +kernel
theorem dX12_puts_21 : decode cX12_puts 21 = .ok (.ireturn, 1) := by decide +kernel
theorem dX12_puts_22 : decode cX12_puts 22 = .ok (.aload_n 0, 1) := by decide +kernel
theorem dX12_puts_23 : decode cX12_puts 23 = .ok (.getfield 7, 3) := by decide +kernel
theorem dX12_puts_26 : decode cX12_puts 26 = .ok (.sipush 382, 3) := by decide +kernel
theorem dX12_puts_29 : decode cX12_puts 29 = .ok (.iload_n 2, 1) := by decide +kernel
theorem dX12_puts_30 : decode cX12_puts 30 = .ok (.iadd, 1) := by decide +kernel
theorem dX12_puts_31 : decode cX12_puts 31 = .ok (.dup2, 1) := by decide +kernel
theorem dX12_puts_32 : decode cX12_puts 32 = .ok (.iaload, 1) := by decide +kernel
theorem dX12_puts_33 : decode cX12_puts 33 = .ok (.iconst 1, 1) := by decide +kernel
theorem dX12_puts_34 : decode cX12_puts 34 = .ok (.isub, 1) := by decide +kernel
theorem dX12_puts_35 : decode cX12_puts 35 = .ok (.iastore, 1) := by decide +kernel
theorem dX12_puts_36 : decode cX12_puts 36 = .ok (.aload_n 0, 1) := by decide +kernel
theorem dX12_puts_37 : decode cX12_puts 37 = .ok (.getfield 7, 3) := by decide +kernel
theorem dX12_puts_40 : decode cX12_puts 40 = .ok (.sipush 300, 3) := by decide +kernel
theorem dX12_puts_43 : decode cX12_puts 43 = .ok (.iload_n 1, 1) := by decide +kernel
theorem dX12_puts_44 : decode cX12_puts 44 = .ok (.iadd, 1) := by decide +kernel
theorem dX12_puts_45 : decode cX12_puts 45 = .ok (.iload_n 2, 1) := by decide +kernel
theorem dX12_puts_46 : decode cX12_puts 46 = .ok (.iastore, 1) := by decide +kernel
theorem dX12_puts_47 : decode cX12_puts 47 = .ok (.iconst 1, 1) := by decide +kernel
theorem dX12_puts_48 : decode cX12_puts 48 = .ok (.ireturn, 1) := by decide +kernel
theorem dX12_lays_0 : decode cX12_lays 0 = .ok (.iconst 1, 1) := by decide +kernel
theorem dX12_lays_1 : decode cX12_lays 1 = .ok (.istore_n 2, 1) := by decide +kernel
theorem dX12_lays_2 : decode cX12_lays 2 = .ok (.iconst 0, 1) := by decide +kernel
theorem dX12_lays_3 : decode cX12_lays 3 = .ok (.istore_n 3, 1) := by decide +kernel
theorem dX12_lays_4 : decode cX12_lays 4 = .ok (.aload_n 0, 1) := by decide +kernel
theorem dX12_lays_5 : decode cX12_lays 5 = .ok (.invokevirtual 286, 3) := by decide +kernel
theorem dX12_lays_8 : decode cX12_lays 8 = .ok (.iconst 1, 1) := by decide +kernel
theorem dX12_lays_9 : decode cX12_lays 9 = .ok (.istore 4, 2) := by decide +kernel
theorem dX12_lays_11 : decode cX12_lays 11 = .ok (.iload 4, 2) := by decide +kernel
theorem dX12_lays_13 : decode cX12_lays 13 = .ok (.aload_n 0, 1) := by decide +kernel
theorem dX12_lays_14 : decode cX12_lays 14 = .ok (.getfield 17, 3) := by decide +kernel
theorem dX12_lays_17 : decode cX12_lays 17 = .ok (.iconst 0, 1) := by decide +kernel
theorem dX12_lays_18 : decode cX12_lays 18 = .ok (.iaload, 1) := by decide +kernel
theorem dX12_lays_19 : decode cX12_lays 19 = .ok (.if_icmp .gt 55, 3) := by decide +kernel
theorem dX12_lays_22 : decode cX12_lays 22 = .ok (.iload_n 3, 1) := by decide +kernel
theorem dX12_lays_23 : decode cX12_lays 23 = .ok (.bipush 10, 2) := by decide +kernel
theorem dX12_lays_25 : decode cX12_lays 25 = .ok (.if_icmp .ge 49, 3) := by decide +kernel
theorem dX12_lays_28 : decode cX12_lays 28 = .ok (.aload_n 0, 1) := by decide +kernel
theorem dX12_lays_29 : decode cX12_lays 29 = .ok (.iload 4, 2) := by decide +kernel
theorem dX12_lays_31 : decode cX12_lays 31 = .ok (.iconst 1, 1) := by decide +kernel
theorem dX12_lays_32 : decode cX12_lays 32 = .ok (.invokevirtual 184, 3) := by decide +kernel
theorem dX12_lays_35 : decode cX12_lays 35 = .ok (.ifCond .le 33, 3) := by decide +kernel
theorem dX12_lays_38 : decode cX12_lays 38 = .ok (.iload_n 2, 1) := by decide +kernel
theorem dX12_lays_39 : decode cX12_lays 39 = .ok (.ifCond .eq 24, 3) := by decide +kernel
theorem dX12_lays_42 : decode cX12_lays 42 = .ok (.iload_n 1, 1) := by decide +kernel
theorem dX12_lays_43 : decode cX12_lays 43 = .ok (.iload_n 3, 1) := by decide +kernel
theorem dX12_lays_44 : decode cX12_lays 44 = .ok (.ishr, 1) := by decide +kernel
theorem dX12_lays_45 : decode cX12_lays 45 = .ok (.iconst 1, 1) := by decide +kernel
theorem dX12_lays_46 : decode cX12_lays 46 = .ok (.iand, 1) := by decide +kernel
theorem dX12_lays_47 : decode cX12_lays 47 = .ok (.ifCond .eq 12, 3) := by decide +kernel
theorem dX12_lays_50 : decode cX12_lays 50 = .ok (.aload_n 0, 1) := by decide +kernel
theorem dX12_lays_51 : decode cX12_lays 51 = .ok (.iload 4, 2) := by decide +kernel
theorem dX12_lays_53 : decode cX12_lays 53 = .ok (.invokevirtual 289, 3) := by decide +kernel
theorem dX12_lays_56 : decode cX12_lays 56 = .ok (.ifCond .eq 7, 3) := by decide +kernel
theorem dX12_lays_59 : decode cX12_lays 59 = .ok (.iconst 1, 1) := by decide +kernel
theorem dX12_lays_60 : decode cX12_lays 60 = .ok (.goto 4, 3) := by decide +kernel
theorem dX12_lays_63 : decode cX12_lays 63 = .ok (.iconst 0, 1) := by decide +kernel
theorem dX12_lays_64 : decode cX12_lays 64 = .ok (.istore_n 2, 1) := by decide +kernel
theorem dX12_lays_65 : decode cX12_lays 65 = .ok (.iinc 3 1, 3) := by decide +kernel
theorem dX12_lays_68 : decode cX12_lays 68 = .ok (.iinc 4 1, 3) := by decide +kernel
theorem dX12_lays_71 : decode cX12_lays 71 = .ok (.goto (-60), 3) := by decide +kernel
theorem dX12_lays_74 : decode cX12_lays 74 = .ok (.iload_n 2, 1) := by decide +kernel
theorem dX12_lays_75 : decode cX12_lays 75 = .ok (.ireturn, 1) := by decide +kernel
theorem dX12_cracks_0 : decode cX12_cracks 0 = .ok (.iconst 0, 1) := by decide +kernel
theorem dX12_cracks_1 : decode cX12_cracks 1 = .ok (.istore_n 1, 1) := by decide +kernel
theorem dX12_cracks_2 : decode cX12_cracks 2 = .ok (.iconst 1, 1) := by decide +kernel
theorem dX12_cracks_3 : decode cX12_cracks 3 = .ok (.istore_n 2, 1) := by decide +kernel
theorem dX12_cracks_4 : decode cX12_cracks 4 = .ok (.iload_n 2, 1) := by decide +kernel
theorem dX12_cracks_5 : decode cX12_cracks 5 = .ok (.aload_n 0, 1) := by decide +kernel
theorem dX12_cracks_6 : decode cX12_cracks 6 = .ok (.getfield 17, 3) := by decide +kernel
theorem dX12_cracks_9 : decode cX12_cracks 9 = .ok (.iconst 0, 1) := by decide +kernel
theorem dX12_cracks_10 : decode cX12_cracks 10 = .ok (.iaload, 1) := by decide +kernel
theorem dX12_cracks_11 : decode cX12_cracks 11 = .ok (.if_icmp .gt 29, 3) := by decide +kernel
theorem dX12_cracks_14 : decode cX12_cracks 14 = .ok (.iload_n 1, 1) := by decide +kernel
theorem dX12_cracks_15 : decode cX12_cracks 15 = .ok (.aload_n 0, 1) := by decide +kernel
theorem dX12_cracks_16 : decode cX12_cracks 16 = .ok (.iload_n 2, 1) := by decide +kernel
theorem dX12_cracks_17 : decode cX12_cracks 17 = .ok (.iconst 1, 1) := by decide +kernel
theorem dX12_cracks_18 : decode cX12_cracks 18 = .ok (.invokevirtual 184, 3) := by decide +kernel
theorem dX12_cracks_21 : decode cX12_cracks 21 = .ok (.ifCond .le 7, 3) := by decide +kernel
theorem dX12_cracks_24 : decode cX12_cracks 24 = .ok (.iconst 1, 1) := by decide +kernel
theorem dX12_cracks_25 : decode cX12_cracks 25 = .ok (.goto 4, 3) := by decide +kernel
theorem dX12_cracks_28 : decode cX12_cracks 28 = .ok (.iconst 0, 1) := by decide +kernel
theorem dX12_cracks_29 : decode cX12_cracks 29 = .ok (.invokestatic 168, 3) := by decide +kernel
theorem dX12_cracks_32 : decode cX12_cracks 32 = .ok (.iadd, 1) := by decide +kernel
theorem dX12_cracks_33 : decode cX12_cracks 33 = .ok (.istore_n 1, 1) := by decide +kernel
theorem dX12_cracks_34 : decode cX12_cracks 34 = .ok (.iinc 2 1, 3) := by decide +kernel
theorem dX12_cracks_37 : decode cX12_cracks 37 = .ok (.goto (-33), 3) := by decide +kernel
theorem dX12_cracks_40 : decode cX12_cracks 40 = .ok (.iload_n 1, 1) := by decide +kernel
theorem dX12_cracks_41 : decode cX12_cracks 41 = .ok (.ireturn, 1) := by decide +kernel
abbrev q_X12_bares  (σ : tw_M) : Option tw_V → tw_M → Prop := fun z τ => z = none ∧ tw_I τ ∧ tw_F (fun c j => (c = 89 ∧ 300 ≤ j)) σ τ ∧ (BZ σ τ) ∧ (∀ rk : Nat → Int, MOK rk σ → BJZ rk τ)
set_option maxHeartbeats 4000000 in
set_option maxRecDepth 100000 in
theorem l_X12_bares {G : tw_G} (hM : tw_isM G) (σ : tw_M) (hI : tw_I σ) : ∀ N_ : Nat, (∀ (h : Int) (hh : 1 ≤ h ∧ h ≤ 41) (τ : tw_M) (hIτ : tw_I τ) (hFτ : tw_F (fun c j => (c = 89 ∧ 300 ≤ j)) σ τ) (i0 : BI σ τ h) (i1 : ∀ rk : Nat → Int, MOK rk σ → BJ rk h σ τ) (hm : (41 - h).toNat < N_), tw_J G (tw_mt RX12 cX12_bares 2 none 1) (tw_E G (q_X12_bares σ)) 10 [(0, vR 88), (1, vI h)] [] τ) := by
  intro N_
  induction N_ with
  | zero => exact fun h hh τ hIτ hFτ i0 i1 hm => absurd hm (Nat.not_lt_zero _)
  | succ N_ ih =>
    intro h hh τ hIτ hFτ i0 i1 hm
    have ft : (1 : Int) ≤ σ 91 0 ∧ σ 91 0 ≤ 40 := hI 91 0
    have t9 := i0.2.1
    have e9 := i0.2.2.1
    refine j_iload_n (pc := 10) dX12_bares_10 rfl rfl ?_
    refine j_aload_n (pc := 11) dX12_bares_11 rfl rfl ?_
    refine j_getR (pc := 12) (r := 91) fl_X12_17 dX12_bares_12 (a_88 hM) rfl ?_
    refine j_iconst (pc := 15) dX12_bares_15 ?_
    refine j_iald (pc := 16) dX12_bares_16 (a_91 hM) (by omega) (by omega) (by decide) ?_
    refine j_topV (show τ 91 (Int.toNat 0) = τ 91 0 from rfl) ?_
    have f1 : (1 : Int) ≤ τ 91 0 ∧ τ 91 0 ≤ 40 := hIτ 91 0
    refine j_icmpR_gt (pc := 17) (tgt := 84) ⟨by omega, by omega⟩ ⟨by omega, by omega⟩ dX12_bares_17 rfl (fun h2 => ?_) (fun h2 => ?_)
    · exact j_vret (pc := 84) ⟨rfl, rfl⟩ dX12_bares_84 rfl ⟨rfl, hIτ, hFτ, BI_end i0 (by omega), (fun rk M => BJ_end M (i1 rk M) (by omega) (by omega) (by omega))⟩
    · refine j_aload_n (pc := 20) dX12_bares_20 rfl rfl ?_
      refine j_getR (pc := 21) (r := 89) fl_X12_7 dX12_bares_21 (a_88 hM) rfl ?_
      refine j_sipush (pc := 24) dX12_bares_24 rfl ?_
      refine j_iload_n (pc := 27) dX12_bares_27 rfl rfl ?_
      refine j_iadd (pc := 28) dX12_bares_28 ?_
      refine j_iald (pc := 29) dX12_bares_29 (a_89 hM) (by omega) (by omega) (by decide) ?_
      have f3 : (-2147483648 : Int) ≤ τ 89 ((300 + h).toNat) ∧ τ 89 ((300 + h).toNat) ≤ 2147483647 := st_D hIτ _
      have g4 : (0 : Int) ≤ τ 89 ((300 + h).toNat) ∧ τ 89 ((300 + h).toNat) ≤ 10 := st_p hIτ (by omega)
      refine j_ifR_le (pc := 30) (tgt := 78) ⟨by omega, by omega⟩ dX12_bares_30 rfl (fun h5 => ?_) (fun h5 => ?_)
      · refine j_iinc (pc := 78) (i := 1) (n := 1) (ls' := [(0, vR 88), (1, vI (h + 1))]) [1, 0] dX12_bares_78 rfl (Nat.le_of_ble_eq_true rfl) rfl rfl ?_
        refine j_goto (pc := 81) (tgt := 10) dX12_bares_81 rfl ?_
        refine j_ls (ls' := [(0, vR 88), (1, vI (h + 1))]) [0, 1] rfl ?_
        exact ih (h + 1) ⟨by omega, by omega⟩ τ hIτ hFτ (show BI σ τ (h + 1) from (by first | exact BI_none (by omega) (by omega) (by omega) i0 (by omega) (by omega) | exact BI_some e_ (by omega) (by omega) (by omega) i0 (by omega) (by omega) _ _ _)) (show ∀ rk : Nat → Int, MOK rk σ → BJ rk (h + 1) σ τ from (fun rk M => by first | exact BJ_none M ⟨by omega, by omega⟩ (i1 rk M) (by omega) | exact BJ_some M e_ ⟨by omega, by omega⟩ (i1 rk M) ⟨by omega, by omega⟩ _ _ _)) (show (41 - (h + 1)).toNat < N_ from by omega)
      · refine j_aload_n (pc := 33) dX12_bares_33 rfl rfl ?_
        refine j_getR (pc := 34) (r := 89) fl_X12_7 dX12_bares_34 (a_88 hM) rfl ?_
        refine j_sipush (pc := 37) dX12_bares_37 rfl ?_
        refine j_aload_n (pc := 40) dX12_bares_40 rfl rfl ?_
        refine j_getR (pc := 41) (r := 89) fl_X12_7 dX12_bares_41 (a_88 hM) rfl ?_
        refine j_sipush (pc := 44) dX12_bares_44 rfl ?_
        refine j_iload_n (pc := 47) dX12_bares_47 rfl rfl ?_
        refine j_iadd (pc := 48) dX12_bares_48 ?_
        refine j_iald (pc := 49) dX12_bares_49 (a_89 hM) (by omega) (by omega) (by decide) ?_
        refine j_iadd (pc := 50) dX12_bares_50 ?_
        refine j_dup2 (pc := 51) dX12_bares_51 rfl rfl ?_
        refine j_iald (pc := 52) dX12_bares_52 (a_89 hM) (by omega) (by omega) (by decide) ?_
        have f6 : (-2147483648 : Int) ≤ τ 89 ((382 + (τ 89 ((300 + h).toNat))).toNat) ∧ τ 89 ((382 + (τ 89 ((300 + h).toNat))).toNat) ≤ 2147483647 := st_D hIτ _
        refine j_iconst (pc := 53) dX12_bares_53 ?_
        refine j_iadd (pc := 54) dX12_bares_54 ?_
        refine j_top (fun z7 ez7 hz7 => ?_)
        refine j_iast (pc := 55) dX12_bares_55 (a_89 hM) (by omega) (by omega) (by decide) (j_nm (fun σ8 (eσ8 : σ8 = tw_up τ 89 ((382 + (τ 89 ((300 + h).toNat))).toNat) z7) => ?_))
        have hIσ8 : tw_I σ8 := tw_I_up hIτ eσ8  (st_wd (by omega) (by omega))
        have hFσ8 : tw_F (fun c j => (c = 89 ∧ 300 ≤ j)) σ σ8 := tw_F_up hFτ eσ8 (show (89 = 89 ∧ 300 ≤ (382 + (τ 89 ((300 + h).toNat))).toNat) from by omega)
        refine j_aload_n (pc := 56) dX12_bares_56 rfl rfl ?_
        refine j_getR (pc := 57) (r := 89) fl_X12_7 dX12_bares_57 (a_88 hM) rfl ?_
        refine j_sipush (pc := 60) dX12_bares_60 rfl ?_
        refine j_iload_n (pc := 63) dX12_bares_63 rfl rfl ?_
        refine j_iadd (pc := 64) dX12_bares_64 ?_
        refine j_iconst (pc := 65) dX12_bares_65 ?_
        refine j_iast (pc := 66) dX12_bares_66 (a_89 hM) (by omega) (by omega) (by decide) (j_nm (fun σ9 (eσ9 : σ9 = tw_up σ8 89 ((300 + h).toNat) 0) => ?_))
        have hIσ9 : tw_I σ9 := tw_I_up hIσ8 eσ9  st_w0
        have hFσ9 : tw_F (fun c j => (c = 89 ∧ 300 ≤ j)) σ σ9 := tw_F_up hFσ8 eσ9 (show (89 = 89 ∧ 300 ≤ (300 + h).toNat) from by omega)
        refine j_aload_n (pc := 67) dX12_bares_67 rfl rfl ?_
        refine j_getR (pc := 68) (r := 89) fl_X12_7 dX12_bares_68 (a_88 hM) rfl ?_
        refine j_sipush (pc := 71) dX12_bares_71 rfl ?_
        refine j_iload_n (pc := 74) dX12_bares_74 rfl rfl ?_
        refine j_iadd (pc := 75) dX12_bares_75 ?_
        refine j_iconst (pc := 76) dX12_bares_76 ?_
        refine j_iast (pc := 77) dX12_bares_77 (a_89 hM) (by omega) (by omega) (by decide) (j_nm (fun σ10 (eσ10 : σ10 = tw_up σ9 89 ((341 + h).toNat) 0) => ?_))
        have hIσ10 : tw_I σ10 := tw_I_up hIσ9 eσ10  st_w0
        have hFσ10 : tw_F (fun c j => (c = 89 ∧ 300 ≤ j)) σ σ10 := tw_F_up hFσ9 eσ10 (show (89 = 89 ∧ 300 ≤ (341 + h).toNat) from by omega)
        refine j_iinc (pc := 78) (i := 1) (n := 1) (ls' := [(0, vR 88), (1, vI (h + 1))]) [1, 0] dX12_bares_78 rfl (Nat.le_of_ble_eq_true rfl) rfl rfl ?_
        refine j_goto (pc := 81) (tgt := 10) dX12_bares_81 rfl ?_
        refine j_ls (ls' := [(0, vR 88), (1, vI (h + 1))]) [0, 1] rfl ?_
        exact ih (h + 1) ⟨by omega, by omega⟩ σ10 hIσ10 hFσ10 (show BI σ σ10 (h + 1) from (by first | exact BI_none (by omega) (by omega) (by omega) i0 (by omega) (by omega) | exact BI_some ez7 (by omega) (by omega) (by omega) i0 (by omega) (by omega) eσ8 eσ9 eσ10)) (show ∀ rk : Nat → Int, MOK rk σ → BJ rk (h + 1) σ σ10 from (fun rk M => by first | exact BJ_none M ⟨by omega, by omega⟩ (i1 rk M) (by omega) | exact BJ_some M ez7 ⟨by omega, by omega⟩ (i1 rk M) ⟨by omega, by omega⟩ eσ8 eσ9 eσ10)) (show (41 - (h + 1)).toNat < N_ from by omega)
set_option maxHeartbeats 4000000 in
set_option maxRecDepth 100000 in
theorem c_X12_bares {G : tw_G} (hM : tw_isM G) (σ : tw_M) (hI : tw_I σ) : tw_C G yX12_bares cX12_bares 2 none 1 [vR 88] σ (q_X12_bares σ) := by
  refine tw_met [(0, vR 88)] (by decide +kernel) rfl (Nat.le_of_ble_eq_true rfl) ?_
  have ft : (1 : Int) ≤ σ 91 0 ∧ σ 91 0 ≤ 40 := hI 91 0
  refine j_aload_n (pc := 0) dX12_bares_0 rfl rfl ?_
  refine j_sipush (pc := 1) dX12_bares_1 rfl ?_
  refine j_iconst (pc := 4) dX12_bares_4 ?_
  refine j_callV (pc := 5) (As := [vI 300, vI 0]) (st := []) (c_X12_copies hM 300 (by (first | decide | exact ⟨by omega, by omega⟩)) 0 (by (first | decide | exact ⟨by omega, by omega⟩)) σ hI (by omega) (by omega) (by omega)) mv_X12_283 rfl rfl rfl (a_88 hM) dX12_bares_5 ⟨Nat.le_of_ble_eq_true rfl, Nat.le_of_ble_eq_true rfl⟩ ⟨Nat.le_refl _, Nat.le_refl _⟩ rfl (Nat.le_of_ble_eq_true rfl) rfl (fun z11 σ12 hz11 => ?_)
  obtain ⟨rfl, hIσ12, hGσ12, q13_0⟩ := hz11
  replace q13_0 : ∀ j : Nat, (j : Int) < 100 → σ12 89 ((300 : Int) + (j : Int)).toNat = σ 89 ((0 : Int) + (j : Int)).toNat := q13_0
  have hFσ12 : tw_F (fun c j => (c = 89 ∧ 300 ≤ j)) σ σ12 := tw_F_tr (tw_F_rf) hGσ12 (fun c j q => (show (c = 89 ∧ 300 ≤ j) from by replace q : (c = 89 ∧ (300 : Int) ≤ (j : Int) ∧ (j : Int) < (300 : Int) + 100) := q; omega))
  refine j_st (st' := []) rfl ?_
  refine j_iconst (pc := 8) dX12_bares_8 ?_
  refine j_istore_n (pc := 9) (i := 1) (ls' := [(0, vR 88), (1, vI 1)]) [1, 0] dX12_bares_9 rfl (Nat.le_of_ble_eq_true rfl) rfl rfl ?_
  refine j_ls (ls' := [(0, vR 88), (1, vI 1)]) [0, 1] rfl ?_
  exact (l_X12_bares hM σ hI (((41 - (1 : Int)).toNat) + 1)) 1 (by (first | decide | exact ⟨by omega, by omega⟩)) σ12 hIσ12 hFσ12 (show BI σ σ12 (1 : Int) from BI_start (by omega) q13_0 (fun j => hFσ12 92 j (show ¬ ((92 = 89 ∧ 300 ≤ j)) from fun h => absurd h.1 (by decide))) (hFσ12 91 0 (show ¬ ((91 = 89 ∧ 300 ≤ 0)) from by decide))) (show ∀ rk : Nat → Int, MOK rk σ → BJ rk (1 : Int) σ σ12 from (fun rk M => BJ_start q13_0)) (Nat.lt_succ_self _)
abbrev q_X12_puts (h : Int) (σ : tw_M) : Option tw_V → tw_M → Prop := fun z τ => ∃ r : Int, z = some (vI r) ∧ (0 ≤ r ∧ r ≤ 1) ∧ tw_I τ ∧ tw_F (fun c j => (c = 89 ∧ 300 ≤ j)) σ τ ∧ ((r = 0 ∧ σ 89 (382 + mCr σ h).toNat = 0 ∧ τ = σ) ∨ (r = 1 ∧ ¬ σ 89 (382 + mCr σ h).toNat = 0 ∧ ∃ τ1, τ1 = tw_up σ 89 (382 + mCr σ h).toNat (tw_w32 (σ 89 (382 + mCr σ h).toNat - 1)) ∧ τ = tw_up τ1 89 (300 + h).toNat (mCr σ h)))
set_option maxHeartbeats 4000000 in
set_option maxRecDepth 100000 in
theorem c_X12_puts {G : tw_G} (hM : tw_isM G) (h : Int) (hh : 1 ≤ h ∧ h ≤ 40) (σ : tw_M) (hI : tw_I σ) : tw_C G yX12_puts cX12_puts 3 (some .boolean) 1 [vR 88, vI h] σ (q_X12_puts h σ) := by
  refine tw_met [(0, vR 88), (1, vI h)] (by decide +kernel) rfl (Nat.le_of_ble_eq_true rfl) ?_
  refine j_aload_n (pc := 0) dX12_puts_0 rfl rfl ?_
  refine j_iload_n (pc := 1) dX12_puts_1 rfl rfl ?_
  refine j_iconst (pc := 2) dX12_puts_2 ?_
  refine j_callV (pc := 3) (As := [vI h, vI 1]) (st := []) (c_X12_of hM h ⟨by omega, by omega⟩ 1 (by (first | decide | exact ⟨by omega, by omega⟩)) σ hI) mv_X12_184 rfl rfl rfl (a_88 hM) dX12_puts_3 ⟨Nat.le_of_ble_eq_true rfl, Nat.le_of_ble_eq_true rfl⟩ ⟨Nat.le_refl _, Nat.le_refl _⟩ rfl (Nat.le_of_ble_eq_true rfl) rfl (fun z1 σ2 hz1 => ?_)
  obtain ⟨r4, rfl, hr4, rfl, q3_0⟩ := hz1
  replace q3_0 : r4 = σ 92 (5 * h + (1 : Int)).toNat := q3_0
  refine j_st (st' := [vI r4]) rfl ?_
  refine j_istore_n (pc := 6) (i := 2) (ls' := [(0, vR 88), (1, vI h), (2, vI r4)]) [1, 2, 0] dX12_puts_6 rfl (Nat.le_of_ble_eq_true rfl) rfl rfl ?_
  refine j_aload_n (pc := 7) dX12_puts_7 rfl rfl ?_
  refine j_getR (pc := 8) (r := 89) fl_X12_7 dX12_puts_8 (a_88 hM) rfl ?_
  refine j_sipush (pc := 11) dX12_puts_11 rfl ?_
  refine j_iload_n (pc := 14) dX12_puts_14 rfl rfl ?_
  refine j_iadd (pc := 15) dX12_puts_15 ?_
  refine j_iald (pc := 16) dX12_puts_16 (a_89 hM) (by omega) (by omega) (by decide) ?_
  have f5 : (-2147483648 : Int) ≤ σ 89 ((382 + r4).toNat) ∧ σ 89 ((382 + r4).toNat) ≤ 2147483647 := st_D hI _
  refine j_ifR_ne (pc := 17) (tgt := 22) ⟨by omega, by omega⟩ dX12_puts_17 rfl (fun h6 => ?_) (fun h6 => ?_)
  · refine j_aload_n (pc := 22) dX12_puts_22 rfl rfl ?_
    refine j_getR (pc := 23) (r := 89) fl_X12_7 dX12_puts_23 (a_88 hM) rfl ?_
    refine j_sipush (pc := 26) dX12_puts_26 rfl ?_
    refine j_iload_n (pc := 29) dX12_puts_29 rfl rfl ?_
    refine j_iadd (pc := 30) dX12_puts_30 ?_
    refine j_dup2 (pc := 31) dX12_puts_31 rfl rfl ?_
    refine j_iald (pc := 32) dX12_puts_32 (a_89 hM) (by omega) (by omega) (by decide) ?_
    refine j_iconst (pc := 33) dX12_puts_33 ?_
    refine j_isub (pc := 34) dX12_puts_34 ?_
    refine j_top (fun z7 ez7 hz7 => ?_)
    refine j_iast (pc := 35) dX12_puts_35 (a_89 hM) (by omega) (by omega) (by decide) (j_nm (fun σ8 (eσ8 : σ8 = tw_up σ 89 ((382 + r4).toNat) z7) => ?_))
    have hIσ8 : tw_I σ8 := tw_I_up hI eσ8  (st_wd (by omega) (by omega))
    have hFσ8 : tw_F (fun c j => (c = 89 ∧ 300 ≤ j)) σ σ8 := tw_F_up (tw_F_rf) eσ8 (show (89 = 89 ∧ 300 ≤ (382 + r4).toNat) from by omega)
    refine j_aload_n (pc := 36) dX12_puts_36 rfl rfl ?_
    refine j_getR (pc := 37) (r := 89) fl_X12_7 dX12_puts_37 (a_88 hM) rfl ?_
    refine j_sipush (pc := 40) dX12_puts_40 rfl ?_
    refine j_iload_n (pc := 43) dX12_puts_43 rfl rfl ?_
    refine j_iadd (pc := 44) dX12_puts_44 ?_
    refine j_iload_n (pc := 45) dX12_puts_45 rfl rfl ?_
    refine j_iast (pc := 46) dX12_puts_46 (a_89 hM) (by omega) (by omega) (by decide) (j_nm (fun σ9 (eσ9 : σ9 = tw_up σ8 89 ((300 + h).toNat) r4) => ?_))
    have hIσ9 : tw_I σ9 := tw_I_up hIσ8 eσ9  (st_wp (by omega) (by omega))
    have hFσ9 : tw_F (fun c j => (c = 89 ∧ 300 ≤ j)) σ σ9 := tw_F_up hFσ8 eσ9 (show (89 = 89 ∧ 300 ≤ (300 + h).toNat) from by omega)
    refine j_iconst (pc := 47) dX12_puts_47 ?_
    exact j_zret (pc := 48) ⟨rfl, rfl⟩ dX12_puts_48 rfl (nar_bool (by omega) (by omega)) ⟨_, rfl, ⟨by omega, by omega⟩, hIσ9, hFσ9, (by unfold mCr; rw [← q3_0]; first | exact Or.inl ⟨rfl, by omega, rfl⟩ | exact Or.inr ⟨rfl, by omega, _, (by rw [eσ8, ez7]), eσ9⟩)⟩
  · refine j_iconst (pc := 20) dX12_puts_20 ?_
    exact j_zret (pc := 21) ⟨rfl, rfl⟩ dX12_puts_21 rfl (nar_bool (by omega) (by omega)) ⟨_, rfl, ⟨by omega, by omega⟩, hI, (tw_F_rf), (by unfold mCr; rw [← q3_0]; first | exact Or.inl ⟨rfl, by omega, rfl⟩ | exact Or.inr ⟨rfl, by omega, _, (by rw [_, e_]), _⟩)⟩
abbrev q_X12_lays (s : Int) (σ : tw_M) : Option tw_V → tw_M → Prop := fun z τ => ∃ r : Int, z = some (vI r) ∧ (0 ≤ r ∧ r ≤ 1) ∧ tw_I τ ∧ tw_F (fun c j => (c = 89 ∧ 300 ≤ j)) σ τ ∧ (LZ σ τ s r) ∧ (∀ rk : Nat → Int, MOK rk σ → LJZ (wM σ) rk s r τ)
set_option maxHeartbeats 4000000 in
set_option maxRecDepth 100000 in
theorem l_X12_lays {G : tw_G} (hM : tw_isM G) (s : Int) (hs : -2147483648 ≤ s ∧ s ≤ 2147483647) (σ : tw_M) (hI : tw_I σ) : ∀ N_ : Nat, (∀ (i : Int) (hi : 0 ≤ i ∧ i ≤ 1) (k : Int) (hk : 0 ≤ k ∧ k ≤ 10) (h : Int) (hh : 1 ≤ h ∧ h ≤ 41) (τ : tw_M) (hIτ : tw_I τ) (hFτ : tw_F (fun c j => (c = 89 ∧ 300 ≤ j)) σ τ) (i0 : LI σ τ s h k i) (i1 : ∀ rk : Nat → Int, MOK rk σ → LJ (wM σ) rk s h k i τ) (hm : (41 - h).toNat < N_), tw_J G (tw_mt RX12 cX12_lays 5 (some .boolean) 2) (tw_E G (q_X12_lays s σ)) 11 [(0, vR 88), (1, vI s), (2, vI i), (3, vI k), (4, vI h)] [] τ) := by
  intro N_
  induction N_ with
  | zero => exact fun i hi k hk h hh τ hIτ hFτ i0 i1 hm => absurd hm (Nat.not_lt_zero _)
  | succ N_ ih =>
    intro i hi k hk h hh τ hIτ hFτ i0 i1 hm
    have ft : (1 : Int) ≤ σ 91 0 ∧ σ 91 0 ≤ 40 := hI 91 0
    have t9 := i0.2.1
    have r0 : wM σ 100 = σ 91 0 := wM_r (j := 0) (by decide)
    have e9 := i0.2.2.1
    refine j_iload (pc := 11) dX12_lays_11 rfl ?_
    refine j_aload_n (pc := 13) dX12_lays_13 rfl rfl ?_
    refine j_getR (pc := 14) (r := 91) fl_X12_17 dX12_lays_14 (a_88 hM) rfl ?_
    refine j_iconst (pc := 17) dX12_lays_17 ?_
    refine j_iald (pc := 18) dX12_lays_18 (a_91 hM) (by omega) (by omega) (by decide) ?_
    refine j_topV (show τ 91 (Int.toNat 0) = τ 91 0 from rfl) ?_
    have f1 : (1 : Int) ≤ τ 91 0 ∧ τ 91 0 ≤ 40 := hIτ 91 0
    refine j_icmpR_gt (pc := 19) (tgt := 74) ⟨by omega, by omega⟩ ⟨by omega, by omega⟩ dX12_lays_19 rfl (fun h2 => ?_) (fun h2 => ?_)
    · refine j_iload_n (pc := 74) dX12_lays_74 rfl rfl ?_
      exact j_zret (pc := 75) ⟨rfl, rfl⟩ dX12_lays_75 rfl (nar_bool (by omega) (by omega)) ⟨_, rfl, ⟨by omega, by omega⟩, hIτ, hFτ, LI_end (by omega) ⟨by omega, by omega⟩ ⟨by omega, by omega⟩ i0 (by omega), (fun rk M => LJ_end ⟨by omega, by omega⟩ (by omega) (i1 rk M) (by omega) (by omega))⟩
    · refine j_iload_n (pc := 22) dX12_lays_22 rfl rfl ?_
      refine j_bipush (pc := 23) dX12_lays_23 rfl ?_
      refine j_icmpR_ge (pc := 25) (tgt := 74) ⟨by omega, by omega⟩ ⟨by omega, by omega⟩ dX12_lays_25 rfl (fun h3 => ?_) (fun h3 => ?_)
      · refine j_iload_n (pc := 74) dX12_lays_74 rfl rfl ?_
        exact j_zret (pc := 75) ⟨rfl, rfl⟩ dX12_lays_75 rfl (nar_bool (by omega) (by omega)) ⟨_, rfl, ⟨by omega, by omega⟩, hIτ, hFτ, LI_end (by omega) ⟨by omega, by omega⟩ ⟨by omega, by omega⟩ i0 (by omega), (fun rk M => LJ_end ⟨by omega, by omega⟩ (by omega) (i1 rk M) (by omega) (by omega))⟩
      · refine j_aload_n (pc := 28) dX12_lays_28 rfl rfl ?_
        refine j_iload (pc := 29) dX12_lays_29 rfl ?_
        refine j_iconst (pc := 31) dX12_lays_31 ?_
        refine j_callV (pc := 32) (As := [vI h, vI 1]) (st := []) (c_X12_of hM h ⟨by omega, by omega⟩ 1 (by (first | decide | exact ⟨by omega, by omega⟩)) τ hIτ) mv_X12_184 rfl rfl rfl (a_88 hM) dX12_lays_32 ⟨Nat.le_of_ble_eq_true rfl, Nat.le_of_ble_eq_true rfl⟩ ⟨Nat.le_refl _, Nat.le_refl _⟩ rfl (Nat.le_of_ble_eq_true rfl) rfl (fun z4 σ5 hz4 => ?_)
        obtain ⟨r7, rfl, hr7, rfl, q6_0⟩ := hz4
        replace q6_0 : r7 = τ 92 (5 * h + (1 : Int)).toNat := q6_0
        refine j_st (st' := [vI r7]) rfl ?_
        have c9 : mCr σ h = r7 := by unfold mCr; rw [q6_0]; exact (i0.1 _).symm
        have cw : cW (wM σ) h.toNat = mCr σ h := cW_M ⟨by omega, by omega⟩ (by omega)
        have cs := cnt_si (g := cW (wM σ)) (f := h) (by omega)
        have c10 : 0 ≤ mCr σ h ∧ mCr σ h ≤ 10 := mw_10 hI _
        have bb : bt s k = mBit s k := rfl
        refine j_ifR_le (pc := 35) (tgt := 68) ⟨by omega, by omega⟩ dX12_lays_35 rfl (fun h8 => ?_) (fun h8 => ?_)
        · refine j_iinc (pc := 68) (i := 4) (n := 1) (ls' := [(0, vR 88), (1, vI s), (2, vI i), (3, vI k), (4, vI (h + 1))]) [1, 2, 3, 4, 0] dX12_lays_68 rfl (Nat.le_of_ble_eq_true rfl) rfl rfl ?_
          refine j_goto (pc := 71) (tgt := 11) dX12_lays_71 rfl ?_
          refine j_ls (ls' := [(0, vR 88), (1, vI s), (2, vI i), (3, vI k), (4, vI (h + 1))]) [0, 1, 2, 3, 4] rfl ?_
          exact ih i ⟨by omega, by omega⟩ k ⟨by omega, by omega⟩ (h + 1) ⟨by omega, by omega⟩ τ hIτ hFτ (show LI σ τ s (h + 1) k i from (by first | exact LI_none (by omega) (by omega) (by omega) (by omega) i0 (by omega) | exact LI_no (by omega) (by omega) (by omega) ⟨by omega, by omega⟩ (by omega) i0 (by omega) | exact LI_skip (by omega) (by omega) (by omega) ⟨by omega, by omega⟩ (by omega) i0 (by omega) (by omega) | (rcases q6_0 with ⟨g1, g2, g3⟩ | ⟨g1, g2, _, g3, g4⟩ <;> first | (exfalso; omega) | (subst g3; exact LI_fail (by omega) (by omega) (by omega) ⟨by omega, by omega⟩ (by omega) i0 ⟨by omega, by omega⟩ (by omega) g2) | exact LI_put (by omega) (by omega) (by omega) ⟨by omega, by omega⟩ (by omega) i0 ⟨by omega, by omega⟩ (by omega) g2 g3 g4))) (show ∀ rk : Nat → Int, MOK rk σ → LJ (wM σ) rk s (h + 1) k i τ from (fun rk M => by
                                                              have L := i1 rk M
                                                              have L1 := L.1
                                                              first
                                                              | exact LJ_no ⟨by omega, by omega⟩ L (by unfold lay; rw [if_neg (by omega)]) (by omega)
                                                              | (rw [show i = 0 from by omega] at L; exact LJ_dead ⟨by omega, by omega⟩ L (by omega))
                                                              | (rw [show i = 1 from by omega] at L; (have la := lay_at (W := wM σ) (s := s) (f := h.toNat) ⟨by omega, by omega⟩); (have ek : cnt (cW (wM σ)) h.toNat - 1 = k := by omega); rw [ek] at la; first | exact LJ_no ⟨by omega, by omega⟩ L (by omega) (by omega) | (rcases qq9 with ⟨g1, g2, g3⟩ | ⟨g1, g2, t1, g3, g4⟩ <;> first | (exfalso; omega) | (subst g3; exact LJ_fail ⟨by omega, by omega⟩ L ⟨by omega, by omega⟩ (by omega) g2 (by omega)) | exact LJ_put ⟨by omega, by omega⟩ L ⟨by omega, by omega⟩ (by omega) g2 (st_D hIτ _).2 (by omega) g3 g4)))) (show (41 - (h + 1)).toNat < N_ from by omega)
        · refine j_iload_n (pc := 38) dX12_lays_38 rfl rfl ?_
          refine j_ifR_eq (pc := 39) (tgt := 63) ⟨by omega, by omega⟩ dX12_lays_39 rfl (fun h9 => ?_) (fun h9 => ?_)
          · refine j_iconst (pc := 63) dX12_lays_63 ?_
            refine j_istore_n (pc := 64) (i := 2) (ls' := [(0, vR 88), (1, vI s), (2, vI 0), (3, vI k), (4, vI h)]) [1, 2, 0, 3, 4] dX12_lays_64 rfl (Nat.le_of_ble_eq_true rfl) rfl rfl ?_
            refine j_iinc (pc := 65) (i := 3) (n := 1) (ls' := [(0, vR 88), (1, vI s), (2, vI 0), (3, vI (k + 1)), (4, vI h)]) [1, 2, 3, 0, 4] dX12_lays_65 rfl (Nat.le_of_ble_eq_true rfl) rfl rfl ?_
            refine j_iinc (pc := 68) (i := 4) (n := 1) (ls' := [(0, vR 88), (1, vI s), (2, vI 0), (3, vI (k + 1)), (4, vI (h + 1))]) [1, 2, 3, 4, 0] dX12_lays_68 rfl (Nat.le_of_ble_eq_true rfl) rfl rfl ?_
            refine j_goto (pc := 71) (tgt := 11) dX12_lays_71 rfl ?_
            refine j_ls (ls' := [(0, vR 88), (1, vI s), (2, vI 0), (3, vI (k + 1)), (4, vI (h + 1))]) [0, 1, 2, 3, 4] rfl ?_
            exact ih 0 (by (first | decide | exact ⟨by omega, by omega⟩)) (k + 1) ⟨by omega, by omega⟩ (h + 1) ⟨by omega, by omega⟩ τ hIτ hFτ (show LI σ τ s (h + 1) (k + 1) (0 : Int) from (by first | exact LI_none (by omega) (by omega) (by omega) (by omega) i0 (by omega) | exact LI_no (by omega) (by omega) (by omega) ⟨by omega, by omega⟩ (by omega) i0 (by omega) | exact LI_skip (by omega) (by omega) (by omega) ⟨by omega, by omega⟩ (by omega) i0 (by omega) (by omega) | (rcases q6_0 with ⟨g1, g2, g3⟩ | ⟨g1, g2, _, g3, g4⟩ <;> first | (exfalso; omega) | (subst g3; exact LI_fail (by omega) (by omega) (by omega) ⟨by omega, by omega⟩ (by omega) i0 ⟨by omega, by omega⟩ (by omega) g2) | exact LI_put (by omega) (by omega) (by omega) ⟨by omega, by omega⟩ (by omega) i0 ⟨by omega, by omega⟩ (by omega) g2 g3 g4))) (show ∀ rk : Nat → Int, MOK rk σ → LJ (wM σ) rk s (h + 1) (k + 1) (0 : Int) τ from (fun rk M => by
                                                              have L := i1 rk M
                                                              have L1 := L.1
                                                              first
                                                              | exact LJ_no ⟨by omega, by omega⟩ L (by unfold lay; rw [if_neg (by omega)]) (by omega)
                                                              | (rw [show i = 0 from by omega] at L; exact LJ_dead ⟨by omega, by omega⟩ L (by omega))
                                                              | (rw [show i = 1 from by omega] at L; (have la := lay_at (W := wM σ) (s := s) (f := h.toNat) ⟨by omega, by omega⟩); (have ek : cnt (cW (wM σ)) h.toNat - 1 = k := by omega); rw [ek] at la; first | exact LJ_no ⟨by omega, by omega⟩ L (by omega) (by omega) | (rcases qq9 with ⟨g1, g2, g3⟩ | ⟨g1, g2, t1, g3, g4⟩ <;> first | (exfalso; omega) | (subst g3; exact LJ_fail ⟨by omega, by omega⟩ L ⟨by omega, by omega⟩ (by omega) g2 (by omega)) | exact LJ_put ⟨by omega, by omega⟩ L ⟨by omega, by omega⟩ (by omega) g2 (st_D hIτ _).2 (by omega) g3 g4)))) (show (41 - (h + 1)).toNat < N_ from by omega)
          · refine j_iload_n (pc := 42) dX12_lays_42 rfl rfl ?_
            refine j_iload_n (pc := 43) dX12_lays_43 rfl rfl ?_
            refine j_ishr (pc := 44) dX12_lays_44 (fun z10 ez10 => ?_)
            have hz10 : (-2147483648 : Int) ≤ z10 ∧ z10 ≤ 2147483647 := by rw [ez10]; exact shr_in _ _
            have b9 : mBit s k = tw_and (tw_shr s k) 1 := rfl
            rw [← ez10] at b9
            have gz10 : (-2147483648 : Int) ≤ z10 ∧ z10 ≤ 2147483647 := by rw [ez10]; exact shr_in _ _
            refine j_iconst (pc := 45) dX12_lays_45 ?_
            refine j_iand (pc := 46) dX12_lays_46 (fun z11 ez11 => ?_)
            have hz11 : (-2147483648 : Int) ≤ z11 ∧ z11 ≤ 2147483647 := by rw [ez11]; exact and_in _ _
            rw [← ez11] at b9
            have gz11 : (0 : Int) ≤ z11 ∧ z11 ≤ 1 := by rw [ez11]; exact and1
            refine j_ifR_eq (pc := 47) (tgt := 59) ⟨by omega, by omega⟩ dX12_lays_47 rfl (fun h12 => ?_) (fun h12 => ?_)
            · refine j_iconst (pc := 59) dX12_lays_59 ?_
              refine j_goto (pc := 60) (tgt := 64) dX12_lays_60 rfl ?_
              refine j_istore_n (pc := 64) (i := 2) (ls' := [(0, vR 88), (1, vI s), (2, vI 1), (3, vI k), (4, vI h)]) [1, 2, 0, 3, 4] dX12_lays_64 rfl (Nat.le_of_ble_eq_true rfl) rfl rfl ?_
              refine j_iinc (pc := 65) (i := 3) (n := 1) (ls' := [(0, vR 88), (1, vI s), (2, vI 1), (3, vI (k + 1)), (4, vI h)]) [1, 2, 3, 0, 4] dX12_lays_65 rfl (Nat.le_of_ble_eq_true rfl) rfl rfl ?_
              refine j_iinc (pc := 68) (i := 4) (n := 1) (ls' := [(0, vR 88), (1, vI s), (2, vI 1), (3, vI (k + 1)), (4, vI (h + 1))]) [1, 2, 3, 4, 0] dX12_lays_68 rfl (Nat.le_of_ble_eq_true rfl) rfl rfl ?_
              refine j_goto (pc := 71) (tgt := 11) dX12_lays_71 rfl ?_
              refine j_ls (ls' := [(0, vR 88), (1, vI s), (2, vI 1), (3, vI (k + 1)), (4, vI (h + 1))]) [0, 1, 2, 3, 4] rfl ?_
              exact ih 1 (by (first | decide | exact ⟨by omega, by omega⟩)) (k + 1) ⟨by omega, by omega⟩ (h + 1) ⟨by omega, by omega⟩ τ hIτ hFτ (show LI σ τ s (h + 1) (k + 1) (1 : Int) from (by first | exact LI_none (by omega) (by omega) (by omega) (by omega) i0 (by omega) | exact LI_no (by omega) (by omega) (by omega) ⟨by omega, by omega⟩ (by omega) i0 (by omega) | exact LI_skip (by omega) (by omega) (by omega) ⟨by omega, by omega⟩ (by omega) i0 (by omega) (by omega) | (rcases q6_0 with ⟨g1, g2, g3⟩ | ⟨g1, g2, _, g3, g4⟩ <;> first | (exfalso; omega) | (subst g3; exact LI_fail (by omega) (by omega) (by omega) ⟨by omega, by omega⟩ (by omega) i0 ⟨by omega, by omega⟩ (by omega) g2) | exact LI_put (by omega) (by omega) (by omega) ⟨by omega, by omega⟩ (by omega) i0 ⟨by omega, by omega⟩ (by omega) g2 g3 g4))) (show ∀ rk : Nat → Int, MOK rk σ → LJ (wM σ) rk s (h + 1) (k + 1) (1 : Int) τ from (fun rk M => by
                                                              have L := i1 rk M
                                                              have L1 := L.1
                                                              first
                                                              | exact LJ_no ⟨by omega, by omega⟩ L (by unfold lay; rw [if_neg (by omega)]) (by omega)
                                                              | (rw [show i = 0 from by omega] at L; exact LJ_dead ⟨by omega, by omega⟩ L (by omega))
                                                              | (rw [show i = 1 from by omega] at L; (have la := lay_at (W := wM σ) (s := s) (f := h.toNat) ⟨by omega, by omega⟩); (have ek : cnt (cW (wM σ)) h.toNat - 1 = k := by omega); rw [ek] at la; first | exact LJ_no ⟨by omega, by omega⟩ L (by omega) (by omega) | (rcases qq9 with ⟨g1, g2, g3⟩ | ⟨g1, g2, t1, g3, g4⟩ <;> first | (exfalso; omega) | (subst g3; exact LJ_fail ⟨by omega, by omega⟩ L ⟨by omega, by omega⟩ (by omega) g2 (by omega)) | exact LJ_put ⟨by omega, by omega⟩ L ⟨by omega, by omega⟩ (by omega) g2 (st_D hIτ _).2 (by omega) g3 g4)))) (show (41 - (h + 1)).toNat < N_ from by omega)
            · refine j_aload_n (pc := 50) dX12_lays_50 rfl rfl ?_
              refine j_iload (pc := 51) dX12_lays_51 rfl ?_
              refine j_callV (pc := 53) (As := [vI h]) (st := []) (c_X12_puts hM h ⟨by omega, by omega⟩ τ hIτ) mv_X12_289 rfl rfl rfl (a_88 hM) dX12_lays_53 ⟨Nat.le_of_ble_eq_true rfl, Nat.le_of_ble_eq_true rfl⟩ ⟨Nat.le_refl _, Nat.le_refl _⟩ rfl (Nat.le_of_ble_eq_true rfl) rfl (fun z13 σ14 hz13 => ?_)
              obtain ⟨r16, rfl, hr16, hIσ14, hGσ14, q15_0⟩ := hz13
              replace q15_0 : (r16 = 0 ∧ τ 89 (382 + mCr τ h).toNat = 0 ∧ σ14 = τ) ∨ (r16 = 1 ∧ ¬ τ 89 (382 + mCr τ h).toNat = 0 ∧ ∃ τ1, τ1 = tw_up τ 89 (382 + mCr τ h).toNat (tw_w32 (τ 89 (382 + mCr τ h).toNat - 1)) ∧ σ14 = tw_up τ1 89 (300 + h).toNat (mCr τ h)) := q15_0
              have hFσ14 : tw_F (fun c j => (c = 89 ∧ 300 ≤ j)) σ σ14 := tw_F_tr hFτ hGσ14 (fun c j q => (show (c = 89 ∧ 300 ≤ j) from by replace q : (c = 89 ∧ 300 ≤ j) := q; exact q))
              refine j_st (st' := [vI r16]) rfl ?_
              rw [show mCr τ h = mCr σ h from i0.1 _] at q15_0
              have qq9 := q15_0; rw [← cw] at qq9
              refine j_ifR_eq (pc := 56) (tgt := 63) ⟨by omega, by omega⟩ dX12_lays_56 rfl (fun h17 => ?_) (fun h17 => ?_)
              · refine j_iconst (pc := 63) dX12_lays_63 ?_
                refine j_istore_n (pc := 64) (i := 2) (ls' := [(0, vR 88), (1, vI s), (2, vI 0), (3, vI k), (4, vI h)]) [1, 2, 0, 3, 4] dX12_lays_64 rfl (Nat.le_of_ble_eq_true rfl) rfl rfl ?_
                refine j_iinc (pc := 65) (i := 3) (n := 1) (ls' := [(0, vR 88), (1, vI s), (2, vI 0), (3, vI (k + 1)), (4, vI h)]) [1, 2, 3, 0, 4] dX12_lays_65 rfl (Nat.le_of_ble_eq_true rfl) rfl rfl ?_
                refine j_iinc (pc := 68) (i := 4) (n := 1) (ls' := [(0, vR 88), (1, vI s), (2, vI 0), (3, vI (k + 1)), (4, vI (h + 1))]) [1, 2, 3, 4, 0] dX12_lays_68 rfl (Nat.le_of_ble_eq_true rfl) rfl rfl ?_
                refine j_goto (pc := 71) (tgt := 11) dX12_lays_71 rfl ?_
                refine j_ls (ls' := [(0, vR 88), (1, vI s), (2, vI 0), (3, vI (k + 1)), (4, vI (h + 1))]) [0, 1, 2, 3, 4] rfl ?_
                exact ih 0 (by (first | decide | exact ⟨by omega, by omega⟩)) (k + 1) ⟨by omega, by omega⟩ (h + 1) ⟨by omega, by omega⟩ σ14 hIσ14 hFσ14 (show LI σ σ14 s (h + 1) (k + 1) (0 : Int) from (by first | exact LI_none (by omega) (by omega) (by omega) (by omega) i0 (by omega) | exact LI_no (by omega) (by omega) (by omega) ⟨by omega, by omega⟩ (by omega) i0 (by omega) | exact LI_skip (by omega) (by omega) (by omega) ⟨by omega, by omega⟩ (by omega) i0 (by omega) (by omega) | (rcases q15_0 with ⟨g1, g2, g3⟩ | ⟨g1, g2, _, g3, g4⟩ <;> first | (exfalso; omega) | (subst g3; exact LI_fail (by omega) (by omega) (by omega) ⟨by omega, by omega⟩ (by omega) i0 ⟨by omega, by omega⟩ (by omega) g2) | exact LI_put (by omega) (by omega) (by omega) ⟨by omega, by omega⟩ (by omega) i0 ⟨by omega, by omega⟩ (by omega) g2 g3 g4))) (show ∀ rk : Nat → Int, MOK rk σ → LJ (wM σ) rk s (h + 1) (k + 1) (0 : Int) σ14 from (fun rk M => by
                                                              have L := i1 rk M
                                                              have L1 := L.1
                                                              first
                                                              | exact LJ_no ⟨by omega, by omega⟩ L (by unfold lay; rw [if_neg (by omega)]) (by omega)
                                                              | (rw [show i = 0 from by omega] at L; exact LJ_dead ⟨by omega, by omega⟩ L (by omega))
                                                              | (rw [show i = 1 from by omega] at L; (have la := lay_at (W := wM σ) (s := s) (f := h.toNat) ⟨by omega, by omega⟩); (have ek : cnt (cW (wM σ)) h.toNat - 1 = k := by omega); rw [ek] at la; first | exact LJ_no ⟨by omega, by omega⟩ L (by omega) (by omega) | (rcases qq9 with ⟨g1, g2, g3⟩ | ⟨g1, g2, t1, g3, g4⟩ <;> first | (exfalso; omega) | (subst g3; exact LJ_fail ⟨by omega, by omega⟩ L ⟨by omega, by omega⟩ (by omega) g2 (by omega)) | exact LJ_put ⟨by omega, by omega⟩ L ⟨by omega, by omega⟩ (by omega) g2 (st_D hIτ _).2 (by omega) g3 g4)))) (show (41 - (h + 1)).toNat < N_ from by omega)
              · refine j_iconst (pc := 59) dX12_lays_59 ?_
                refine j_goto (pc := 60) (tgt := 64) dX12_lays_60 rfl ?_
                refine j_istore_n (pc := 64) (i := 2) (ls' := [(0, vR 88), (1, vI s), (2, vI 1), (3, vI k), (4, vI h)]) [1, 2, 0, 3, 4] dX12_lays_64 rfl (Nat.le_of_ble_eq_true rfl) rfl rfl ?_
                refine j_iinc (pc := 65) (i := 3) (n := 1) (ls' := [(0, vR 88), (1, vI s), (2, vI 1), (3, vI (k + 1)), (4, vI h)]) [1, 2, 3, 0, 4] dX12_lays_65 rfl (Nat.le_of_ble_eq_true rfl) rfl rfl ?_
                refine j_iinc (pc := 68) (i := 4) (n := 1) (ls' := [(0, vR 88), (1, vI s), (2, vI 1), (3, vI (k + 1)), (4, vI (h + 1))]) [1, 2, 3, 4, 0] dX12_lays_68 rfl (Nat.le_of_ble_eq_true rfl) rfl rfl ?_
                refine j_goto (pc := 71) (tgt := 11) dX12_lays_71 rfl ?_
                refine j_ls (ls' := [(0, vR 88), (1, vI s), (2, vI 1), (3, vI (k + 1)), (4, vI (h + 1))]) [0, 1, 2, 3, 4] rfl ?_
                exact ih 1 (by (first | decide | exact ⟨by omega, by omega⟩)) (k + 1) ⟨by omega, by omega⟩ (h + 1) ⟨by omega, by omega⟩ σ14 hIσ14 hFσ14 (show LI σ σ14 s (h + 1) (k + 1) (1 : Int) from (by first | exact LI_none (by omega) (by omega) (by omega) (by omega) i0 (by omega) | exact LI_no (by omega) (by omega) (by omega) ⟨by omega, by omega⟩ (by omega) i0 (by omega) | exact LI_skip (by omega) (by omega) (by omega) ⟨by omega, by omega⟩ (by omega) i0 (by omega) (by omega) | (rcases q15_0 with ⟨g1, g2, g3⟩ | ⟨g1, g2, _, g3, g4⟩ <;> first | (exfalso; omega) | (subst g3; exact LI_fail (by omega) (by omega) (by omega) ⟨by omega, by omega⟩ (by omega) i0 ⟨by omega, by omega⟩ (by omega) g2) | exact LI_put (by omega) (by omega) (by omega) ⟨by omega, by omega⟩ (by omega) i0 ⟨by omega, by omega⟩ (by omega) g2 g3 g4))) (show ∀ rk : Nat → Int, MOK rk σ → LJ (wM σ) rk s (h + 1) (k + 1) (1 : Int) σ14 from (fun rk M => by
                                                              have L := i1 rk M
                                                              have L1 := L.1
                                                              first
                                                              | exact LJ_no ⟨by omega, by omega⟩ L (by unfold lay; rw [if_neg (by omega)]) (by omega)
                                                              | (rw [show i = 0 from by omega] at L; exact LJ_dead ⟨by omega, by omega⟩ L (by omega))
                                                              | (rw [show i = 1 from by omega] at L; (have la := lay_at (W := wM σ) (s := s) (f := h.toNat) ⟨by omega, by omega⟩); (have ek : cnt (cW (wM σ)) h.toNat - 1 = k := by omega); rw [ek] at la; first | exact LJ_no ⟨by omega, by omega⟩ L (by omega) (by omega) | (rcases qq9 with ⟨g1, g2, g3⟩ | ⟨g1, g2, t1, g3, g4⟩ <;> first | (exfalso; omega) | (subst g3; exact LJ_fail ⟨by omega, by omega⟩ L ⟨by omega, by omega⟩ (by omega) g2 (by omega)) | exact LJ_put ⟨by omega, by omega⟩ L ⟨by omega, by omega⟩ (by omega) g2 (st_D hIτ _).2 (by omega) g3 g4)))) (show (41 - (h + 1)).toNat < N_ from by omega)
set_option maxHeartbeats 4000000 in
set_option maxRecDepth 100000 in
theorem c_X12_lays {G : tw_G} (hM : tw_isM G) (s : Int) (hs : -2147483648 ≤ s ∧ s ≤ 2147483647) (σ : tw_M) (hI : tw_I σ) : tw_C G yX12_lays cX12_lays 5 (some .boolean) 2 [vR 88, vI s] σ (q_X12_lays s σ) := by
  refine tw_met [(0, vR 88), (1, vI s)] (by decide +kernel) rfl (Nat.le_of_ble_eq_true rfl) ?_
  have ft : (1 : Int) ≤ σ 91 0 ∧ σ 91 0 ≤ 40 := hI 91 0
  have r0 : wM σ 100 = σ 91 0 := wM_r (j := 0) (by decide)
  refine j_iconst (pc := 0) dX12_lays_0 ?_
  refine j_istore_n (pc := 1) (i := 2) (ls' := [(0, vR 88), (1, vI s), (2, vI 1)]) [1, 2, 0] dX12_lays_1 rfl (Nat.le_of_ble_eq_true rfl) rfl rfl ?_
  refine j_iconst (pc := 2) dX12_lays_2 ?_
  refine j_istore_n (pc := 3) (i := 3) (ls' := [(0, vR 88), (1, vI s), (2, vI 1), (3, vI 0)]) [1, 2, 3, 0] dX12_lays_3 rfl (Nat.le_of_ble_eq_true rfl) rfl rfl ?_
  refine j_aload_n (pc := 4) dX12_lays_4 rfl rfl ?_
  refine j_callV (pc := 5) (As := []) (st := []) (c_X12_bares hM σ hI) mv_X12_286 rfl rfl rfl (a_88 hM) dX12_lays_5 ⟨Nat.le_of_ble_eq_true rfl, Nat.le_of_ble_eq_true rfl⟩ ⟨Nat.le_refl _, Nat.le_refl _⟩ rfl (Nat.le_of_ble_eq_true rfl) rfl (fun z18 σ19 hz18 => ?_)
  obtain ⟨rfl, hIσ19, hGσ19, q20_0, q20_1⟩ := hz18
  replace q20_0 : BZ σ σ19 := q20_0
  replace q20_1 : ∀ rk : Nat → Int, MOK rk σ → BJZ rk σ19 := q20_1
  have hFσ19 : tw_F (fun c j => (c = 89 ∧ 300 ≤ j)) σ σ19 := tw_F_tr (tw_F_rf) hGσ19 (fun c j q => (show (c = 89 ∧ 300 ≤ j) from by replace q : (c = 89 ∧ 300 ≤ j) := q; exact q))
  refine j_st (st' := []) rfl ?_
  refine j_iconst (pc := 8) dX12_lays_8 ?_
  refine j_istore (pc := 9) (i := 4) (ls' := [(0, vR 88), (1, vI s), (2, vI 1), (3, vI 0), (4, vI 1)]) [1, 2, 3, 4, 0] dX12_lays_9 (Nat.le_of_ble_eq_true rfl) rfl rfl ?_
  refine j_ls (ls' := [(0, vR 88), (1, vI s), (2, vI 1), (3, vI 0), (4, vI 1)]) [0, 1, 2, 3, 4] rfl ?_
  exact (l_X12_lays hM s hs σ hI (((41 - (1 : Int)).toNat) + 1)) 1 (by (first | decide | exact ⟨by omega, by omega⟩)) 0 (by (first | decide | exact ⟨by omega, by omega⟩)) 1 (by (first | decide | exact ⟨by omega, by omega⟩)) σ19 hIσ19 hFσ19 (show LI σ σ19 s (1 : Int) (0 : Int) (1 : Int) from LI_start ⟨by omega, by omega⟩ q20_0) (show ∀ rk : Nat → Int, MOK rk σ → LJ (wM σ) rk s (1 : Int) (0 : Int) (1 : Int) σ19 from (fun rk M => LJ_start (q20_1 rk M) (fun x x1 x2 => by (have m := M.1 x x1 x2); (have n := csz_nn (g := gM 0 σ) (s := x) 40); omega))) (Nat.lt_succ_self _)
abbrev q_X12_cracks  (σ : tw_M) : Option tw_V → tw_M → Prop := fun z τ => ∃ r : Int, z = some (vI r) ∧ (0 ≤ r ∧ r ≤ 40) ∧ σ = τ ∧ (r = nc σ (σ 91 0).toNat)
set_option maxHeartbeats 4000000 in
set_option maxRecDepth 100000 in
theorem l_X12_cracks {G : tw_G} (hM : tw_isM G) (σ : tw_M) (hI : tw_I σ) : ∀ N_ : Nat, (∀ (n : Int) (hn : 0 ≤ n ∧ n ≤ 40) (h : Int) (hh : 1 ≤ h ∧ h ≤ 41) (i0 : n = nc σ (h - 1).toNat) (i1 : h ≤ σ 91 0 + 1) (hm : (41 - h).toNat < N_), tw_J G (tw_mt RX12 cX12_cracks 3 (some .int) 1) (tw_E G (q_X12_cracks σ)) 4 [(0, vR 88), (1, vI n), (2, vI h)] [] σ) := by
  intro N_
  induction N_ with
  | zero => exact fun n hn h hh i0 i1 hm => absurd hm (Nat.not_lt_zero _)
  | succ N_ ih =>
    intro n hn h hh i0 i1 hm
    have ft : (1 : Int) ≤ σ 91 0 ∧ σ 91 0 ≤ 40 := hI 91 0
    refine j_iload_n (pc := 4) dX12_cracks_4 rfl rfl ?_
    refine j_aload_n (pc := 5) dX12_cracks_5 rfl rfl ?_
    refine j_getR (pc := 6) (r := 91) fl_X12_17 dX12_cracks_6 (a_88 hM) rfl ?_
    refine j_iconst (pc := 9) dX12_cracks_9 ?_
    refine j_iald (pc := 10) dX12_cracks_10 (a_91 hM) (by omega) (by omega) (by decide) ?_
    refine j_topV (show σ 91 (Int.toNat 0) = σ 91 0 from rfl) ?_
    have f1 : (1 : Int) ≤ σ 91 0 ∧ σ 91 0 ≤ 40 := hI 91 0
    refine j_icmpR_gt (pc := 11) (tgt := 40) ⟨by omega, by omega⟩ ⟨by omega, by omega⟩ dX12_cracks_11 rfl (fun h2 => ?_) (fun h2 => ?_)
    · refine j_iload_n (pc := 40) dX12_cracks_40 rfl rfl ?_
      exact j_iret (pc := 41) ⟨rfl, rfl⟩ dX12_cracks_41 rfl ⟨_, rfl, ⟨by omega, by omega⟩, rfl, by rw [show (σ 91 0) = h - 1 from by omega]; exact i0⟩
    · refine j_iload_n (pc := 14) dX12_cracks_14 rfl rfl ?_
      refine j_aload_n (pc := 15) dX12_cracks_15 rfl rfl ?_
      refine j_iload_n (pc := 16) dX12_cracks_16 rfl rfl ?_
      refine j_iconst (pc := 17) dX12_cracks_17 ?_
      refine j_callV (pc := 18) (As := [vI h, vI 1]) (st := [vI n]) (c_X12_of hM h ⟨by omega, by omega⟩ 1 (by (first | decide | exact ⟨by omega, by omega⟩)) σ hI) mv_X12_184 rfl rfl rfl (a_88 hM) dX12_cracks_18 ⟨Nat.le_of_ble_eq_true rfl, Nat.le_of_ble_eq_true rfl⟩ ⟨Nat.le_refl _, Nat.le_refl _⟩ rfl (Nat.le_of_ble_eq_true rfl) rfl (fun z3 σ4 hz3 => ?_)
      obtain ⟨r6, rfl, hr6, rfl, q5_0⟩ := hz3
      replace q5_0 : r6 = σ 92 (5 * h + (1 : Int)).toNat := q5_0
      refine j_st (st' := [vI r6, vI n]) rfl ?_
      have c9 : mCr σ h = r6 := by unfold mCr; rw [q5_0]
      have n9 := nc_s (σ := σ) (f := h) (by omega)
      have n8 := nc_in σ (h - 1).toNat
      refine j_ifR_le (pc := 21) (tgt := 28) ⟨by omega, by omega⟩ dX12_cracks_21 rfl (fun h7 => ?_) (fun h7 => ?_)
      · refine j_iconst (pc := 28) dX12_cracks_28 ?_
        refine j_callS (pc := 29) (As := [vI 0]) (st := [vI n]) (c_X12_flag 0 (by (first | decide | exact ⟨by omega, by omega⟩)) σ hI) ms_X12_168 rfl dX12_cracks_29 ⟨Nat.le_of_ble_eq_true rfl, Nat.le_of_ble_eq_true rfl⟩ ⟨Nat.le_refl _, Nat.le_refl _⟩ rfl (Nat.le_of_ble_eq_true rfl) rfl (fun z8 σ9 hz8 => ?_)
        obtain ⟨r11, rfl, hr11, rfl, q10_0⟩ := hz8
        replace q10_0 : r11 = (0 : Int) := q10_0
        refine j_st (st' := [vI r11, vI n]) rfl ?_
        refine j_iadd (pc := 32) dX12_cracks_32 ?_
        refine j_istore_n (pc := 33) (i := 1) (ls' := [(0, vR 88), (1, vI (n + r11)), (2, vI h)]) [1, 0, 2] dX12_cracks_33 rfl (Nat.le_of_ble_eq_true rfl) rfl rfl ?_
        refine j_iinc (pc := 34) (i := 2) (n := 1) (ls' := [(0, vR 88), (1, vI (n + r11)), (2, vI (h + 1))]) [1, 2, 0] dX12_cracks_34 rfl (Nat.le_of_ble_eq_true rfl) rfl rfl ?_
        refine j_goto (pc := 37) (tgt := 4) dX12_cracks_37 rfl ?_
        refine j_ls (ls' := [(0, vR 88), (1, vI (n + r11)), (2, vI (h + 1))]) [0, 1, 2] rfl ?_
        exact ih (n + r11) ⟨by omega, by omega⟩ (h + 1) ⟨by omega, by omega⟩ (show (n + r11) = nc σ ((h + 1) - 1).toNat from by rw [show (h + 1 - 1 : Int) = h from by omega]; omega) (show (h + 1) ≤ σ 91 0 + 1 from by omega) (show (41 - (h + 1)).toNat < N_ from by omega)
      · refine j_iconst (pc := 24) dX12_cracks_24 ?_
        refine j_goto (pc := 25) (tgt := 29) dX12_cracks_25 rfl ?_
        refine j_callS (pc := 29) (As := [vI 1]) (st := [vI n]) (c_X12_flag 1 (by (first | decide | exact ⟨by omega, by omega⟩)) σ hI) ms_X12_168 rfl dX12_cracks_29 ⟨Nat.le_of_ble_eq_true rfl, Nat.le_of_ble_eq_true rfl⟩ ⟨Nat.le_refl _, Nat.le_refl _⟩ rfl (Nat.le_of_ble_eq_true rfl) rfl (fun z12 σ13 hz12 => ?_)
        obtain ⟨r15, rfl, hr15, rfl, q14_0⟩ := hz12
        replace q14_0 : r15 = (1 : Int) := q14_0
        refine j_st (st' := [vI r15, vI n]) rfl ?_
        refine j_iadd (pc := 32) dX12_cracks_32 ?_
        refine j_istore_n (pc := 33) (i := 1) (ls' := [(0, vR 88), (1, vI (n + r15)), (2, vI h)]) [1, 0, 2] dX12_cracks_33 rfl (Nat.le_of_ble_eq_true rfl) rfl rfl ?_
        refine j_iinc (pc := 34) (i := 2) (n := 1) (ls' := [(0, vR 88), (1, vI (n + r15)), (2, vI (h + 1))]) [1, 2, 0] dX12_cracks_34 rfl (Nat.le_of_ble_eq_true rfl) rfl rfl ?_
        refine j_goto (pc := 37) (tgt := 4) dX12_cracks_37 rfl ?_
        refine j_ls (ls' := [(0, vR 88), (1, vI (n + r15)), (2, vI (h + 1))]) [0, 1, 2] rfl ?_
        exact ih (n + r15) ⟨by omega, by omega⟩ (h + 1) ⟨by omega, by omega⟩ (show (n + r15) = nc σ ((h + 1) - 1).toNat from by rw [show (h + 1 - 1 : Int) = h from by omega]; omega) (show (h + 1) ≤ σ 91 0 + 1 from by omega) (show (41 - (h + 1)).toNat < N_ from by omega)
set_option maxHeartbeats 4000000 in
set_option maxRecDepth 100000 in
theorem c_X12_cracks {G : tw_G} (hM : tw_isM G) (σ : tw_M) (hI : tw_I σ) : tw_C G yX12_cracks cX12_cracks 3 (some .int) 1 [vR 88] σ (q_X12_cracks σ) := by
  refine tw_met [(0, vR 88)] (by decide +kernel) rfl (Nat.le_of_ble_eq_true rfl) ?_
  have ft : (1 : Int) ≤ σ 91 0 ∧ σ 91 0 ≤ 40 := hI 91 0
  refine j_iconst (pc := 0) dX12_cracks_0 ?_
  refine j_istore_n (pc := 1) (i := 1) (ls' := [(0, vR 88), (1, vI 0)]) [1, 0] dX12_cracks_1 rfl (Nat.le_of_ble_eq_true rfl) rfl rfl ?_
  refine j_iconst (pc := 2) dX12_cracks_2 ?_
  refine j_istore_n (pc := 3) (i := 2) (ls' := [(0, vR 88), (1, vI 0), (2, vI 1)]) [1, 2, 0] dX12_cracks_3 rfl (Nat.le_of_ble_eq_true rfl) rfl rfl ?_
  refine j_ls (ls' := [(0, vR 88), (1, vI 0), (2, vI 1)]) [0, 1, 2] rfl ?_
  exact (l_X12_cracks hM σ hI (((41 - (1 : Int)).toNat) + 1)) 0 (by (first | decide | exact ⟨by omega, by omega⟩)) 1 (by (first | decide | exact ⟨by omega, by omega⟩)) (show (0 : Int) = nc σ ((1 : Int) - 1).toNat from rfl) (show (1 : Int) ≤ σ 91 0 + 1 from by omega) (Nat.lt_succ_self _)
