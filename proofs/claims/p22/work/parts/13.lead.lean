/-! 13.lead -/
theorem dX4_riskOver_0 : decode cX4_riskOver 0 = .ok (.iconst 0, 1) := by decide +kernel
theorem dX4_riskOver_1 : decode cX4_riskOver 1 = .ok (.istore 5, 2) := by decide +kernel
theorem dX4_riskOver_3 : decode cX4_riskOver 3 = .ok (.iload_n 3, 1) := by decide +kernel
theorem dX4_riskOver_4 : decode cX4_riskOver 4 = .ok (.aload_n 0, 1) := by decide +kernel
theorem dX4_riskOver_5 : decode cX4_riskOver 5 = .ok (.getfield 29, 3) := by decide +kernel
theorem dX4_riskOver_8 : decode cX4_riskOver 8 = .ok (.getfield 43, 3) := by decide +kernel
theorem dX4_riskOver_11 : decode cX4_riskOver 11 = .ok (.bipush 8, 2) := by decide +kernel
theorem dX4_riskOver_13 : decode cX4_riskOver 13 = .ok (.iaload, 1) := by decide +kernel
theorem dX4_riskOver_14 : decode cX4_riskOver 14 = .ok (.iconst 1, 1) := by decide +kernel
theorem dX4_riskOver_15 : decode cX4_riskOver 15 = .ok (.iadd, 1) := by decide +kernel
theorem dX4_riskOver_16 : decode cX4_riskOver 16 = .ok (.invokestatic 47, 3) := by decide +kernel
theorem dX4_riskOver_19 : decode cX4_riskOver 19 = .ok (.istore 6, 2) := by decide +kernel
theorem dX4_riskOver_21 : decode cX4_riskOver 21 = .ok (.iload 6, 2) := by decide +kernel
theorem dX4_riskOver_23 : decode cX4_riskOver 23 = .ok (.iload 4, 2) := by decide +kernel
theorem dX4_riskOver_25 : decode cX4_riskOver 25 = .ok (.if_icmp .gt 47, 3) := by decide +kernel
theorem dX4_riskOver_28 : decode cX4_riskOver 28 = .ok (.aload_n 0, 1) := by decide +kernel
theorem dX4_riskOver_29 : decode cX4_riskOver 29 = .ok (.getfield 10, 3) := by decide +kernel
theorem dX4_riskOver_32 : decode cX4_riskOver 32 = .ok (.aload_n 0, 1) := by decide +kernel
theorem dX4_riskOver_33 : decode cX4_riskOver 33 = .ok (.getfield 29, 3) := by decide +kernel
theorem dX4_riskOver_36 : decode cX4_riskOver 36 = .ok (.aload_n 1, 1) := by decide +kernel
theorem dX4_riskOver_37 : decode cX4_riskOver 37 = .ok (.iload 6, 2) := by decide +kernel
theorem dX4_riskOver_39 : decode cX4_riskOver 39 = .ok (.iload_n 2, 1) := by decide +kernel
theorem dX4_riskOver_40 : decode cX4_riskOver 40 = .ok (.invokevirtual 53, 3) := by decide +kernel
theorem dX4_riskOver_43 : decode cX4_riskOver 43 = .ok (.iload 5, 2) := by decide +kernel
theorem dX4_riskOver_45 : decode cX4_riskOver 45 = .ok (.aload_n 0, 1) := by decide +kernel
theorem dX4_riskOver_46 : decode cX4_riskOver 46 = .ok (.getfield 29, 3) := by decide +kernel
theorem dX4_riskOver_49 : decode cX4_riskOver 49 = .ok (.getfield 57, 3) := by decide +kernel
theorem dX4_riskOver_52 : decode cX4_riskOver 52 = .ok (.iload 6, 2) := by decide +kernel
theorem dX4_riskOver_54 : decode cX4_riskOver 54 = .ok (.iaload, 1) := by decide +kernel
theorem dX4_riskOver_55 : decode cX4_riskOver 55 = .ok (.aload_n 0, 1) := by decide +kernel
theorem dX4_riskOver_56 : decode cX4_riskOver 56 = .ok (.getfield 10, 3) := by decide +kernel
theorem dX4_riskOver_59 : decode cX4_riskOver 59 = .ok (.getfield 60, 3) := by decide +kernel
theorem dX4_riskOver_62 : decode cX4_riskOver 62 = .ok (.imul, 1) := by decide +kernel
theorem dX4_riskOver_63 : decode cX4_riskOver 63 = .ok (.iadd, 1) := by decide +kernel
theorem dX4_riskOver_64 : decode cX4_riskOver 64 = .ok (.istore 5, 2) := by decide +kernel
theorem dX4_riskOver_66 : decode cX4_riskOver 66 = .ok (.iinc 6 1, 3) := by decide +kernel
theorem dX4_riskOver_69 : decode cX4_riskOver 69 = .ok (.goto (-48), 3) := by decide +kernel
theorem dX4_riskOver_72 : decode cX4_riskOver 72 = .ok (.iload 5, 2) := by decide +kernel
theorem dX4_riskOver_74 : decode cX4_riskOver 74 = .ok (.ireturn, 1) := by decide +kernel
theorem dX4_riskOf_0 : decode cX4_riskOf 0 = .ok (.aload_n 0, 1) := by decide +kernel
theorem dX4_riskOf_1 : decode cX4_riskOf 1 = .ok (.aload_n 1, 1) := by decide +kernel
theorem dX4_riskOf_2 : decode cX4_riskOf 2 = .ok (.iload_n 2, 1) := by decide +kernel
theorem dX4_riskOf_3 : decode cX4_riskOf 3 = .ok (.iconst 1, 1) := by decide +kernel
theorem dX4_riskOf_4 : decode cX4_riskOf 4 = .ok (.aload_n 0, 1) := by decide +kernel
theorem dX4_riskOf_5 : decode cX4_riskOf 5 = .ok (.getfield 29, 3) := by decide +kernel
theorem dX4_riskOf_8 : decode cX4_riskOf 8 = .ok (.invokevirtual 33, 3) := by decide +kernel
theorem dX4_riskOf_11 : decode cX4_riskOf 11 = .ok (.invokevirtual 39, 3) := by decide +kernel
theorem dX4_riskOf_14 : decode cX4_riskOf 14 = .ok (.ireturn, 1) := by decide +kernel
theorem dX4_begin_0 : decode cX4_begin 0 = .ok (.aload_n 0, 1) := by decide +kernel
theorem dX4_begin_1 : decode cX4_begin 1 = .ok (.iload_n 1, 1) := by decide +kernel
theorem dX4_begin_2 : decode cX4_begin 2 = .ok (.putfield 16, 3) := by decide +kernel
theorem dX4_begin_5 : decode cX4_begin 5 = .ok (.aload_n 0, 1) := by decide +kernel
theorem dX4_begin_6 : decode cX4_begin 6 = .ok (.iconst 0, 1) := by decide +kernel
theorem dX4_begin_7 : decode cX4_begin 7 = .ok (.putfield 20, 3) := by decide +kernel
theorem dX4_begin_10 : decode cX4_begin 10 = .ok (.return_, 1) := by decide +kernel
theorem dX4_climb_0 : decode cX4_climb 0 = .ok (.aload_n 1, 1) := by decide +kernel
theorem dX4_climb_1 : decode cX4_climb 1 = .ok (.iload_n 2, 1) := by decide +kernel
theorem dX4_climb_2 : decode cX4_climb 2 = .ok (.invokevirtual 71, 3) := by decide +kernel
theorem dX4_climb_5 : decode cX4_climb 5 = .ok (.istore 4, 2) := by decide +kernel
theorem dX4_climb_7 : decode cX4_climb 7 = .ok (.iload_n 2, 1) := by decide +kernel
theorem dX4_climb_8 : decode cX4_climb 8 = .ok (.istore 5, 2) := by decide +kernel
theorem dX4_climb_10 : decode cX4_climb 10 = .ok (.iload 5, 2) := by decide +kernel
theorem dX4_climb_12 : decode cX4_climb 12 = .ok (.iload_n 3, 1) := by decide +kernel
theorem dX4_climb_13 : decode cX4_climb 13 = .ok (.if_icmp .gt 117, 3) := by decide +kernel
theorem dX4_climb_16 : decode cX4_climb 16 = .ok (.aload_n 0, 1) := by decide +kernel
theorem dX4_climb_17 : decode cX4_climb 17 = .ok (.dup, 1) := by decide +kernel
theorem dX4_climb_18 : decode cX4_climb 18 = .ok (.getfield 16, 3) := by decide +kernel
theorem dX4_climb_21 : decode cX4_climb 21 = .ok (.aload_n 0, 1) := by decide +kernel
theorem dX4_climb_22 : decode cX4_climb 22 = .ok (.getfield 29, 3) := by decide +kernel
theorem dX4_climb_25 : decode cX4_climb 25 = .ok (.getfield 57, 3) := by decide +kernel
theorem dX4_climb_28 : decode cX4_climb 28 = .ok (.iload 5, 2) := by decide +kernel
theorem dX4_climb_30 : decode cX4_climb 30 = .ok (.iaload, 1) := by decide +kernel
theorem dX4_climb_31 : decode cX4_climb 31 = .ok (.iadd, 1) := by decide +kernel
theorem dX4_climb_32 : decode cX4_climb 32 = .ok (.putfield 16, 3) := by decide +kernel
theorem dX4_climb_35 : decode cX4_climb 35 = .ok (.iload 4, 2) := by decide +kernel
theorem dX4_climb_37 : decode cX4_climb 37 = .ok (.aload_n 1, 1) := by decide +kernel
theorem dX4_climb_38 : decode cX4_climb 38 = .ok (.getfield 77, 3) := by decide +kernel
theorem dX4_climb_41 : decode cX4_climb 41 = .ok (.if_icmp .ge 36, 3) := by decide +kernel
theorem dX4_climb_44 : decode cX4_climb 44 = .ok (.aload_n 1, 1) := by decide +kernel
theorem dX4_climb_45 : decode cX4_climb 45 = .ok (.getfield 80, 3) := by decide +kernel
theorem dX4_climb_48 : decode cX4_climb 48 = .ok (.iload 4, 2) := by decide +kernel
theorem dX4_climb_50 : decode cX4_climb 50 = .ok (.iaload, 1) := by decide +kernel
theorem dX4_climb_51 : decode cX4_climb 51 = .ok (.iload 5, 2) := by decide +kernel
theorem dX4_climb_53 : decode cX4_climb 53 = .ok (.if_icmp .ne 24, 3) := by decide +kernel
theorem dX4_climb_56 : decode cX4_climb 56 = .ok (.aload_n 0, 1) := by decide +kernel
theorem dX4_climb_57 : decode cX4_climb 57 = .ok (.dup, 1) := by decide +kernel
theorem dX4_climb_58 : decode cX4_climb 58 = .ok (.getfield 16, 3) := by decide +kernel
theorem dX4_climb_61 : decode cX4_climb 61 = .ok (.aload_n 0, 1) := by decide +kernel
theorem dX4_climb_62 : decode cX4_climb 62 = .ok (.getfield 29, 3) := by decide +kernel
theorem dX4_climb_65 : decode cX4_climb 65 = .ok (.getfield 43, 3) := by decide +kernel
theorem dX4_climb_68 : decode cX4_climb 68 = .ok (.iconst 2, 1) := by decide +kernel
theorem dX4_climb_69 : decode cX4_climb 69 = .ok (.iaload, 1) := by decide +kernel
theorem dX4_climb_70 : decode cX4_climb 70 = .ok (.iadd, 1) := by decide +kernel
theorem dX4_climb_71 : decode cX4_climb 71 = .ok (.putfield 16, 3) := by decide +kernel
theorem dX4_climb_74 : decode cX4_climb 74 = .ok (.iinc 4 1, 3) := by decide +kernel
theorem dX4_climb_77 : decode cX4_climb 77 = .ok (.aload_n 0, 1) := by decide +kernel
theorem dX4_climb_78 : decode cX4_climb 78 = .ok (.getfield 20, 3) := by decide +kernel
theorem dX4_climb_81 : decode cX4_climb 81 = .ok (.ifCond .ne 25, 3) := by decide +kernel
theorem dX4_climb_84 : decode cX4_climb 84 = .ok (.aload_n 0, 1) := by decide +kernel
theorem dX4_climb_85 : decode cX4_climb 85 = .ok (.getfield 16, 3) := by decide +kernel
theorem dX4_climb_88 : decode cX4_climb 88 = .ok (.aload_n 0, 1) := by decide +kernel
theorem dX4_climb_89 : decode cX4_climb 89 = .ok (.getfield 29, 3) := by decide +kernel
theorem dX4_climb_92 : decode cX4_climb 92 = .ok (.getfield 43, 3) := by decide +kernel
theorem dX4_climb_95 : decode cX4_climb 95 = .ok (.iconst 1, 1) := by decide +kernel
theorem dX4_climb_96 : decode cX4_climb 96 = .ok (.iaload, 1) := by decide +kernel
theorem dX4_climb_97 : decode cX4_climb 97 = .ok (.if_icmp .le 9, 3) := by decide +kernel
theorem dX4_climb_100 : decode cX4_climb 100 = .ok (.aload_n 0, 1) := by decide +kernel
theorem dX4_climb_101 : decode cX4_climb 101 = .ok (.iload 5, 2) := by decide +kernel
theorem dX4_climb_103 : decode cX4_climb 103 = .ok (.putfield 20, 3) := by decide +kernel
theorem dX4_climb_106 : decode cX4_climb 106 = .ok (.aload_n 0, 1) := by decide +kernel
theorem dX4_climb_107 : decode cX4_climb 107 = .ok (.getfield 29, 3) := by decide +kernel
theorem dX4_climb_110 : decode cX4_climb 110 = .ok (.getfield 83, 3) := by decide +kernel
theorem dX4_climb_113 : decode cX4_climb 113 = .ok (.iload 5, 2) := by decide +kernel
theorem dX4_climb_115 : decode cX4_climb 115 = .ok (.iaload, 1) := by decide +kernel
theorem dX4_climb_116 : decode cX4_climb 116 = .ok (.ifCond .eq 8, 3) := by decide +kernel
theorem dX4_climb_119 : decode cX4_climb 119 = .ok (.aload_n 0, 1) := by decide +kernel
theorem dX4_climb_120 : decode cX4_climb 120 = .ok (.iconst 0, 1) := by decide +kernel
theorem dX4_climb_121 : decode cX4_climb 121 = .ok (.putfield 16, 3) := by decide +kernel
theorem dX4_climb_124 : decode cX4_climb 124 = .ok (.iinc 5 1, 3) := by decide +kernel
theorem dX4_climb_127 : decode cX4_climb 127 = .ok (.goto (-117), 3) := by decide +kernel
theorem dX4_climb_130 : decode cX4_climb 130 = .ok (.return_, 1) := by decide +kernel
theorem dX4_climbAll_0 : decode cX4_climbAll 0 = .ok (.aload_n 0, 1) := by decide +kernel
theorem dX4_climbAll_1 : decode cX4_climbAll 1 = .ok (.iconst 0, 1) := by decide +kernel
theorem dX4_climbAll_2 : decode cX4_climbAll 2 = .ok (.invokevirtual 63, 3) := by decide +kernel
theorem dX4_climbAll_5 : decode cX4_climbAll 5 = .ok (.aload_n 0, 1) := by decide +kernel
theorem dX4_climbAll_6 : decode cX4_climbAll 6 = .ok (.aload_n 1, 1) := by decide +kernel
theorem dX4_climbAll_7 : decode cX4_climbAll 7 = .ok (.iconst 1, 1) := by decide +kernel
theorem dX4_climbAll_8 : decode cX4_climbAll 8 = .ok (.aload_n 0, 1) := by decide +kernel
theorem dX4_climbAll_9 : decode cX4_climbAll 9 = .ok (.getfield 29, 3) := by decide +kernel
theorem dX4_climbAll_12 : decode cX4_climbAll 12 = .ok (.invokevirtual 33, 3) := by decide +kernel
theorem dX4_climbAll_15 : decode cX4_climbAll 15 = .ok (.invokevirtual 67, 3) := by decide +kernel
theorem dX4_climbAll_18 : decode cX4_climbAll 18 = .ok (.return_, 1) := by decide +kernel
theorem dX4_findWorst_0 : decode cX4_findWorst 0 = .ok (.aload_n 0, 1) := by decide +kernel
theorem dX4_findWorst_1 : decode cX4_findWorst 1 = .ok (.iconst 0, 1) := by decide +kernel
theorem dX4_findWorst_2 : decode cX4_findWorst 2 = .ok (.putfield 23, 3) := by decide +kernel
theorem dX4_findWorst_5 : decode cX4_findWorst 5 = .ok (.aload_n 0, 1) := by decide +kernel
theorem dX4_findWorst_6 : decode cX4_findWorst 6 = .ok (.iconst 0, 1) := by decide +kernel
theorem dX4_findWorst_7 : decode cX4_findWorst 7 = .ok (.putfield 26, 3) := by decide +kernel
theorem dX4_findWorst_10 : decode cX4_findWorst 10 = .ok (.iconst 1, 1) := by decide +kernel
theorem dX4_findWorst_11 : decode cX4_findWorst 11 = .ok (.istore_n 2, 1) := by decide +kernel
theorem dX4_findWorst_12 : decode cX4_findWorst 12 = .ok (.iload_n 2, 1) := by decide +kernel
theorem dX4_findWorst_13 : decode cX4_findWorst 13 = .ok (.aload_n 0, 1) := by decide +kernel
theorem dX4_findWorst_14 : decode cX4_findWorst 14 = .ok (.getfield 29, 3) := by decide +kernel
theorem dX4_findWorst_17 : decode cX4_findWorst 17 = .ok (.invokevirtual 33, 3) := by decide +kernel
theorem dX4_findWorst_20 : decode cX4_findWorst 20 = .ok (.if_icmp .gt 56, 3) := by decide +kernel
theorem dX4_findWorst_23 : decode cX4_findWorst 23 = .ok (.aload_n 0, 1) := by decide +kernel
theorem dX4_findWorst_24 : decode cX4_findWorst 24 = .ok (.getfield 10, 3) := by decide +kernel
theorem dX4_findWorst_27 : decode cX4_findWorst 27 = .ok (.aload_n 0, 1) := by decide +kernel
theorem dX4_findWorst_28 : decode cX4_findWorst 28 = .ok (.getfield 29, 3) := by decide +kernel
theorem dX4_findWorst_31 : decode cX4_findWorst 31 = .ok (.aload_n 1, 1) := by decide +kernel
theorem dX4_findWorst_32 : decode cX4_findWorst 32 = .ok (.iload_n 2, 1) := by decide +kernel
theorem dX4_findWorst_33 : decode cX4_findWorst 33 = .ok (.aload_n 1, 1) := by decide +kernel
theorem dX4_findWorst_34 : decode cX4_findWorst 34 = .ok (.invokevirtual 86, 3) := by decide +kernel
theorem dX4_findWorst_37 : decode cX4_findWorst 37 = .ok (.invokevirtual 53, 3) := by decide +kernel
theorem dX4_findWorst_40 : decode cX4_findWorst 40 = .ok (.aload_n 0, 1) := by decide +kernel
theorem dX4_findWorst_41 : decode cX4_findWorst 41 = .ok (.getfield 10, 3) := by decide +kernel
theorem dX4_findWorst_44 : decode cX4_findWorst 44 = .ok (.getfield 60, 3) := by decide +kernel
theorem dX4_findWorst_47 : decode cX4_findWorst 47 = .ok (.aload_n 0, 1) := by decide +kernel
theorem dX4_findWorst_48 : decode cX4_findWorst 48 = .ok (.getfield 26, 3) := by decide +kernel
theorem dX4_findWorst_51 : decode cX4_findWorst 51 = .ok (.if_icmp .le 19, 3) := by decide +kernel
theorem dX4_findWorst_54 : decode cX4_findWorst 54 = .ok (.aload_n 0, 1) := by decide +kernel
theorem dX4_findWorst_55 : decode cX4_findWorst 55 = .ok (.iload_n 2, 1) := by decide +kernel
theorem dX4_findWorst_56 : decode cX4_findWorst 56 = .ok (.putfield 23, 3) := by decide +kernel
theorem dX4_findWorst_59 : decode cX4_findWorst 59 = .ok (.aload_n 0, 1) := by decide +kernel
theorem dX4_findWorst_60 : decode cX4_findWorst 60 = .ok (.aload_n 0, 1) := by decide +kernel
theorem dX4_findWorst_61 : decode cX4_findWorst 61 = .ok (.getfield 10, 3) := by decide +kernel
theorem dX4_findWorst_64 : decode cX4_findWorst 64 = .ok (.getfield 60, 3) := by decide +kernel
theorem dX4_findWorst_67 : decode cX4_findWorst 67 = .ok (.putfield 26, 3) := by decide +kernel
theorem dX4_findWorst_70 : decode cX4_findWorst 70 = .ok (.iinc 2 1, 3) := by decide +kernel
theorem dX4_findWorst_73 : decode cX4_findWorst 73 = .ok (.goto (-61), 3) := by decide +kernel
theorem dX4_findWorst_76 : decode cX4_findWorst 76 = .ok (.return_, 1) := by decide +kernel
abbrev q_X4_riskOver (o : Nat) (g : Int) (a : Int) (b : Int) (σ : tw_M) : Option tw_V → tw_M → Prop := fun z τ => ∃ r : Int, z = some (vI r) ∧ (-2147483648 ≤ r ∧ r ≤ 2147483647) ∧ tw_I τ ∧ tw_F (fun c j => c = 57) σ τ ∧ (∀ gg qq : Nat → Int, RG o gg qq σ → a ≤ b + 1 → r = rsk (wW 1 σ) gg g b.toNat - rsk (wW 1 σ) gg g (a - 1).toNat) ∧ (-16000 ≤ r ∧ r ≤ 16000)
set_option maxHeartbeats 4000000 in
set_option maxRecDepth 100000 in
theorem l_X4_riskOver {G : tw_G} (hX : tw_isX G) (o : Nat) (ho : IsRow G o) (g : Int) (hg : -2147483648 ≤ g ∧ g ≤ 2147483647) (a : Int) (ha : 0 ≤ a ∧ a ≤ 41) (b : Int) (hb : -1 ≤ b ∧ b ≤ 40) (σ : tw_M) (hI : tw_I σ) (hq0 : o + 4 ≤ 56 ∨ 57 < o) : ∀ N_ : Nat, (∀ (s : Int) (hs : -2147483648 ≤ s ∧ s ≤ 2147483647) (h : Int) (hh : 1 ≤ h ∧ h ≤ 41) (τ : tw_M) (hIτ : tw_I τ) (hFτ : tw_F (fun c j => c = 57) σ τ) (i0 : a ≤ h) (i1 : σ 2 8 + 1 ≤ h) (i2 : h ≤ b + 1 ∨ h = σ 2 8 + 1 ∨ h = a) (i3 : -400 * (h - 1) ≤ s ∧ s ≤ 400 * (h - 1)) (i4 : ∀ gg qq : Nat → Int, RG o gg qq σ → s = rsk (wW 1 σ) gg g (h - 1).toNat - rsk (wW 1 σ) gg g (a - 1).toNat) (hm : (41 - h).toNat < N_), tw_J G (tw_mt RX4 cX4_riskOver 7 (some .int) 2) (tw_E G (q_X4_riskOver o g a b σ)) 21 [(0, vR 56), (1, vR o), (2, vI g), (4, vI b), (5, vI s), (6, vI h)] [] τ) := by
  intro N_
  induction N_ with
  | zero => exact fun s hs h hh τ hIτ hFτ i0 i1 i2 i3 i4 hm => absurd hm (Nat.not_lt_zero _)
  | succ N_ ih =>
    intro s hs h hh τ hIτ hFτ i0 i1 i2 i3 i4 hm
    have RT : ∀ gg qq : Nat → Int, RG o gg qq σ → RG o gg qq τ := fun gg qq H => RG_F H (fun c j a b => hFτ c j (show ¬ (c = 57) from by omega))
    have WT : wW 1 τ = wW 1 σ := wW_F (fun c j a b => hFτ c j (show ¬ (c = 57) from by omega))
    have r8 : wW 1 σ 108 = τ 2 8 := (wW_r (w := 1) (j := 8) (by decide)).trans (hFτ 2 8 (show ¬ (2 = 57) from by decide)).symm
    have f7 : (0 : Int) ≤ σ 2 8 ∧ σ 2 8 ≤ 9 := hI 2 8
    have n7 : τ 2 8 = σ 2 8 := hFτ 2 8 (show ¬ (2 = 57) from by decide)
    refine j_iload (pc := 21) dX4_riskOver_21 rfl ?_
    refine j_iload (pc := 23) dX4_riskOver_23 rfl ?_
    refine j_icmpR_gt (pc := 25) (tgt := 72) ⟨by omega, by omega⟩ ⟨by omega, by omega⟩ dX4_riskOver_25 rfl (fun h1 => ?_) (fun h1 => ?_)
    · refine j_iload (pc := 72) dX4_riskOver_72 rfl ?_
      exact j_iret (pc := 74) ⟨rfl, rfl⟩ dX4_riskOver_74 rfl ⟨_, rfl, ⟨by omega, by omega⟩, hIτ, hFτ, (fun gg qq H e0 => by (have e1 := i4 gg qq H); by_cases q : h = b + 1; (rw [show b = h - 1 from by omega]; exact e1); (rw [e1, rsk_low (a := b.toNat) (b := (h - 1).toNat) (by omega) (by rw [r8]; omega)])), by omega⟩
    · refine j_aload_n (pc := 28) dX4_riskOver_28 rfl rfl ?_
      refine j_getR (pc := 29) (r := 57) fl_X4_10 dX4_riskOver_29 (a_56 hX) rfl ?_
      refine j_aload_n (pc := 32) dX4_riskOver_32 rfl rfl ?_
      refine j_getR (pc := 33) (r := 1) fl_X4_29 dX4_riskOver_33 (a_56 hX) rfl ?_
      refine j_aload_n (pc := 36) dX4_riskOver_36 rfl rfl ?_
      refine j_iload (pc := 37) dX4_riskOver_37 rfl ?_
      refine j_iload_n (pc := 39) dX4_riskOver_39 rfl rfl ?_
      refine j_callV (pc := 40) (As := [vR 1, vR o, vI h, vI g]) (st := []) (c_X2_from 57 (s_Fall_57 hX) 1 (s_Wall_1 hX) o ho h ⟨by omega, by omega⟩ g ⟨by omega, by omega⟩ τ hIτ (by omega) (by omega)) mv_X4_53 rfl rfl rfl (a_57 hX) dX4_riskOver_40 ⟨Nat.le_of_ble_eq_true rfl, Nat.le_of_ble_eq_true rfl⟩ ⟨Nat.le_refl _, Nat.le_refl _⟩ rfl (Nat.le_of_ble_eq_true rfl) rfl (fun z2 σ3 hz2 => ?_)
      obtain ⟨rfl, hIσ3, hGσ3, q4_0, q4_1, q4_2, q4_3⟩ := hz2
      replace q4_0 : ∀ gg qq : Nat → Int, RG o gg qq τ → (σ3 57 0, σ3 57 1, σ3 57 2, σ3 57 3) = fallG (wW 1 τ) gg h g h.toNat 0 := q4_0
      replace q4_1 : σ3 57 4 = strS (wW 1 τ) h (σ3 57 0) := q4_1
      replace q4_2 : σ3 57 5 = harS (wW 1 τ) h (σ3 57 0) := q4_2
      replace q4_3 : -40 ≤ σ3 57 5 ∧ σ3 57 5 ≤ 40 := q4_3
      have hFσ3 : tw_F (fun c j => c = 57) σ σ3 := tw_F_tr hFτ hGσ3 (fun c j q => (show c = 57 from by replace q : c = 57 := q; exact q))
      refine j_st (st' := []) rfl ?_
      have hf : ∀ gg qq : Nat → Int, RG o gg qq σ → σ3 57 5 = harF (wW 1 σ) gg h g := fun gg qq H => by
        have t := q4_0 gg qq (RT gg qq H)
        have q := q4_2
        rw [WT] at t q
        unfold harF
        rw [← t]
        exact q
      have hh9 : wH (wW 1 σ) h = τ 4 h.toNat := (wW_0 (w := 1) ⟨by omega, by omega⟩).trans (hFτ 4 _ (show ¬ (4 = 57) from by decide)).symm
      have f8 : (0 : Int) ≤ τ 2 8 ∧ τ 2 8 ≤ 9 := hIτ 2 8
      have n8 : τ 2 8 = σ 2 8 := hFτ 2 8 (show ¬ (2 = 57) from by decide)
      refine j_iload (pc := 43) dX4_riskOver_43 rfl ?_
      refine j_aload_n (pc := 45) dX4_riskOver_45 rfl rfl ?_
      refine j_getR (pc := 46) (r := 1) fl_X4_29 dX4_riskOver_46 (a_56 hX) rfl ?_
      refine j_getR (pc := 49) (r := 4) fl_X4_57 dX4_riskOver_49 (a_1 hX) rfl ?_
      refine j_iload (pc := 52) dX4_riskOver_52 rfl ?_
      refine j_iald (pc := 54) dX4_riskOver_54 (a_4 hX) (by omega) (by omega) (by decide) ?_
      refine j_topV (show σ3 4 (h.toNat) = τ 4 (h.toNat) from (hGσ3 4 (h.toNat) (show ¬ (4 = 57) from by decide))) ?_
      have f6 : (0 : Int) ≤ τ 4 (h.toNat) ∧ τ 4 (h.toNat) ≤ 9 := hIτ 4 (h.toNat)
      refine j_aload_n (pc := 55) dX4_riskOver_55 rfl rfl ?_
      refine j_getR (pc := 56) (r := 57) fl_X4_10 dX4_riskOver_56 (a_56 hX) rfl ?_
      refine j_getI (pc := 59) fl_X4_60 dX4_riskOver_59 (a_57 hX) rfl ?_
      have f7 : (-2147483648 : Int) ≤ σ3 57 5 ∧ σ3 57 5 ≤ 2147483647 := hIσ3 57 5
      have p9 := mul_bd (a := (τ 4 (h.toNat))) (b := (σ3 57 5)) ⟨by omega, by omega⟩ ⟨by omega, by omega⟩
      refine j_imul (pc := 62) dX4_riskOver_62 ?_
      refine j_top (fun z8 ez8 hz8 => ?_)
      have gz8 : (τ 4 (h.toNat)) * (σ3 57 5) < -2147483648 ∨ 2147483647 < (τ 4 (h.toNat)) * (σ3 57 5) ∨ z8 = (τ 4 (h.toNat)) * (σ3 57 5) := by rw [ez8]; exact w32_or _
      obtain ⟨p8, hp8⟩ : ∃ p8, p8 = z8 := ⟨_, rfl⟩
      refine j_iadd (pc := 63) dX4_riskOver_63 ?_
      refine j_top (fun z9 ez9 hz9 => ?_)
      have gz9 : s + z8 < -2147483648 ∨ 2147483647 < s + z8 ∨ z9 = s + z8 := by rw [ez9]; exact w32_or _
      refine j_istore (pc := 64) (i := 5) (ls' := [(0, vR 56), (1, vR o), (2, vI g), (4, vI b), (5, vI z9), (6, vI h)]) [1, 2, 3, 4, 0, 5] dX4_riskOver_64 (Nat.le_of_ble_eq_true rfl) rfl rfl ?_
      refine j_iinc (pc := 66) (i := 6) (n := 1) (ls' := [(0, vR 56), (1, vR o), (2, vI g), (4, vI b), (5, vI z9), (6, vI (h + 1))]) [1, 2, 3, 4, 5, 0] dX4_riskOver_66 rfl (Nat.le_of_ble_eq_true rfl) rfl rfl ?_
      refine j_goto (pc := 69) (tgt := 21) dX4_riskOver_69 rfl ?_
      refine j_ls (ls' := [(0, vR 56), (1, vR o), (2, vI g), (4, vI b), (5, vI z9), (6, vI (h + 1))]) [0, 1, 2, 3, 4, 5] rfl ?_
      exact ih z9 ⟨by omega, by omega⟩ (h + 1) ⟨by omega, by omega⟩ σ3 hIσ3 hFσ3 (show a ≤ (h + 1) from by omega) (show σ 2 8 + 1 ≤ (h + 1) from by omega) (show (h + 1) ≤ b + 1 ∨ (h + 1) = σ 2 8 + 1 ∨ (h + 1) = a from by omega) (show -400 * ((h + 1) - 1) ≤ z9 ∧ z9 ≤ 400 * ((h + 1) - 1) from by omega) (show ∀ gg qq : Nat → Int, RG o gg qq σ → z9 = rsk (wW 1 σ) gg g ((h + 1) - 1).toNat - rsk (wW 1 σ) gg g (a - 1).toNat from (fun gg qq H => rsk_up (p := p8) (by omega) (by rw [r8]; omega) (i4 gg qq H) (by (have a1 := hf gg qq H); rw [hh9, ← a1]; omega) (by omega))) (show (41 - (h + 1)).toNat < N_ from by omega)
set_option maxHeartbeats 4000000 in
set_option maxRecDepth 100000 in
theorem c_X4_riskOver {G : tw_G} (hX : tw_isX G) (o : Nat) (ho : IsRow G o) (g : Int) (hg : -2147483648 ≤ g ∧ g ≤ 2147483647) (a : Int) (ha : 0 ≤ a ∧ a ≤ 41) (b : Int) (hb : -1 ≤ b ∧ b ≤ 40) (σ : tw_M) (hI : tw_I σ) (hq0 : o + 4 ≤ 56 ∨ 57 < o) : tw_C G yX4_riskOver cX4_riskOver 7 (some .int) 2 [vR 56, vR o, vI g, vI a, vI b] σ (q_X4_riskOver o g a b σ) := by
  refine tw_met [(0, vR 56), (1, vR o), (2, vI g), (3, vI a), (4, vI b)] (by decide +kernel) rfl (Nat.le_of_ble_eq_true rfl) ?_
  have r8 : wW 1 σ 108 = σ 2 8 := wW_r (w := 1) (j := 8) (by decide)
  refine j_iconst (pc := 0) dX4_riskOver_0 ?_
  refine j_istore (pc := 1) (i := 5) (ls' := [(0, vR 56), (1, vR o), (2, vI g), (3, vI a), (4, vI b), (5, vI 0)]) [1, 2, 3, 4, 5, 0] dX4_riskOver_1 (Nat.le_of_ble_eq_true rfl) rfl rfl ?_
  refine j_iload_n (pc := 3) dX4_riskOver_3 rfl rfl ?_
  refine j_aload_n (pc := 4) dX4_riskOver_4 rfl rfl ?_
  refine j_getR (pc := 5) (r := 1) fl_X4_29 dX4_riskOver_5 (a_56 hX) rfl ?_
  refine j_getR (pc := 8) (r := 2) fl_X4_43 dX4_riskOver_8 (a_1 hX) rfl ?_
  refine j_bipush (pc := 11) dX4_riskOver_11 rfl ?_
  refine j_iald (pc := 13) dX4_riskOver_13 (a_2 hX) (by omega) (by omega) (by decide) ?_
  refine j_topV (show σ 2 (Int.toNat 8) = σ 2 8 from rfl) ?_
  have f10 : (0 : Int) ≤ σ 2 8 ∧ σ 2 8 ≤ 9 := hI 2 8
  refine j_iconst (pc := 14) dX4_riskOver_14 ?_
  refine j_iadd (pc := 15) dX4_riskOver_15 ?_
  refine j_mmax (pc := 16) mm_X4_47 dX4_riskOver_16 ⟨Nat.le_of_ble_eq_true rfl, Nat.le_of_ble_eq_true rfl⟩ ⟨Nat.le_refl _, Nat.le_refl _⟩ rfl (fun z11 ez11 => ?_)
  have hz11 := tw_max_eq (a := a) (b := (σ 2 8) + 1) ⟨by omega, by omega⟩ ⟨by omega, by omega⟩ ez11
  refine j_istore (pc := 19) (i := 6) (ls' := [(0, vR 56), (1, vR o), (2, vI g), (4, vI b), (5, vI 0), (6, vI z11)]) [1, 2, 3, 5, 6, 0] dX4_riskOver_19 (Nat.le_of_ble_eq_true rfl) rfl rfl ?_
  refine j_ls (ls' := [(0, vR 56), (1, vR o), (2, vI g), (4, vI b), (5, vI 0), (6, vI z11)]) [0, 1, 2, 3, 4, 5] rfl ?_
  exact (l_X4_riskOver hX o ho g hg a ha b hb σ hI hq0 (((41 - z11).toNat) + 1)) 0 (by (first | decide | exact ⟨by omega, by omega⟩)) z11 ⟨by omega, by omega⟩ σ hI (tw_F_rf) (show a ≤ z11 from by omega) (show σ 2 8 + 1 ≤ z11 from by omega) (show z11 ≤ b + 1 ∨ z11 = σ 2 8 + 1 ∨ z11 = a from by omega) (show -400 * (z11 - 1) ≤ (0 : Int) ∧ (0 : Int) ≤ 400 * (z11 - 1) from by omega) (show ∀ gg qq : Nat → Int, RG o gg qq σ → (0 : Int) = rsk (wW 1 σ) gg g (z11 - 1).toNat - rsk (wW 1 σ) gg g (a - 1).toNat from (fun gg qq H => by rcases (show z11 = a ∨ z11 = σ 2 8 + 1 by omega) with q | q; (rw [q]; omega); (rw [rsk_low (a := (a - 1).toNat) (b := (z11 - 1).toNat) (by omega) (by rw [r8]; omega)]; omega))) (Nat.lt_succ_self _)
abbrev q_X4_riskOf (o : Nat) (g : Int) (σ : tw_M) : Option tw_V → tw_M → Prop := fun z τ => ∃ r : Int, z = some (vI r) ∧ (-2147483648 ≤ r ∧ r ≤ 2147483647) ∧ tw_I τ ∧ tw_F (fun c j => c = 57) σ τ ∧ (∀ gg qq : Nat → Int, RG o gg qq σ → r = rsk (wW 1 σ) gg g (σ 2 0).toNat) ∧ (-16000 ≤ r ∧ r ≤ 16000)
set_option maxHeartbeats 4000000 in
set_option maxRecDepth 100000 in
theorem c_X4_riskOf {G : tw_G} (hX : tw_isX G) (o : Nat) (ho : IsRow G o) (g : Int) (hg : -2147483648 ≤ g ∧ g ≤ 2147483647) (σ : tw_M) (hI : tw_I σ) (hq0 : o + 4 ≤ 56 ∨ 57 < o) : tw_C G yX4_riskOf cX4_riskOf 3 (some .int) 3 [vR 56, vR o, vI g] σ (q_X4_riskOf o g σ) := by
  refine tw_met [(0, vR 56), (1, vR o), (2, vI g)] (by decide +kernel) rfl (Nat.le_of_ble_eq_true rfl) ?_
  refine j_aload_n (pc := 0) dX4_riskOf_0 rfl rfl ?_
  refine j_aload_n (pc := 1) dX4_riskOf_1 rfl rfl ?_
  refine j_iload_n (pc := 2) dX4_riskOf_2 rfl rfl ?_
  refine j_iconst (pc := 3) dX4_riskOf_3 ?_
  refine j_aload_n (pc := 4) dX4_riskOf_4 rfl rfl ?_
  refine j_getR (pc := 5) (r := 1) fl_X4_29 dX4_riskOf_5 (a_56 hX) rfl ?_
  refine j_callV (pc := 8) (As := []) (st := [vI 1, vI g, vR o, vR 56]) (c_X10_top 1 (s_Wall_1 hX) σ hI) mv_X4_33 rfl rfl rfl (a_1 hX) dX4_riskOf_8 ⟨Nat.le_of_ble_eq_true rfl, Nat.le_of_ble_eq_true rfl⟩ ⟨Nat.le_refl _, Nat.le_refl _⟩ rfl (Nat.le_of_ble_eq_true rfl) rfl (fun z1 σ2 hz1 => ?_)
  obtain ⟨r4, rfl, hr4, rfl, q3_0⟩ := hz1
  replace q3_0 : r4 = σ 2 0 := q3_0
  refine j_st (st' := [vI r4, vI 1, vI g, vR o, vR 56]) rfl ?_
  refine j_callV (pc := 11) (As := [vR o, vI g, vI 1, vI r4]) (st := []) (c_X4_riskOver hX o ho g ⟨by omega, by omega⟩ 1 (by (first | decide | exact ⟨by omega, by omega⟩)) r4 ⟨by omega, by omega⟩ σ hI (by omega)) mv_X4_39 rfl rfl rfl (a_56 hX) dX4_riskOf_11 ⟨Nat.le_of_ble_eq_true rfl, Nat.le_of_ble_eq_true rfl⟩ ⟨Nat.le_refl _, Nat.le_refl _⟩ rfl (Nat.le_of_ble_eq_true rfl) rfl (fun z5 σ6 hz5 => ?_)
  obtain ⟨r8, rfl, hr8, hIσ6, hGσ6, q7_0, q7_1⟩ := hz5
  replace q7_0 : ∀ gg qq : Nat → Int, RG o gg qq σ → (1 : Int) ≤ r4 + 1 → r8 = rsk (wW 1 σ) gg g r4.toNat - rsk (wW 1 σ) gg g ((1 : Int) - 1).toNat := q7_0
  replace q7_1 : -16000 ≤ r8 ∧ r8 ≤ 16000 := q7_1
  have hFσ6 : tw_F (fun c j => c = 57) σ σ6 := tw_F_tr (tw_F_rf) hGσ6 (fun c j q => (show c = 57 from by replace q : c = 57 := q; exact q))
  refine j_st (st' := [vI r8]) rfl ?_
  exact j_iret (pc := 14) ⟨rfl, rfl⟩ dX4_riskOf_14 rfl ⟨_, rfl, ⟨by omega, by omega⟩, hIσ6, hFσ6, (fun gg qq H => by
                                                              have e := q7_0 gg qq H (by omega)
                                                              have z : rsk (wW 1 σ) gg g ((1 : Int) - 1).toNat = 0 := rfl
                                                              rw [z, q3_0] at e
                                                              omega), by omega⟩
abbrev q_X4_begin (e : Int) (σ : tw_M) : Option tw_V → tw_M → Prop := fun z τ => z = none ∧ tw_I τ ∧ tw_F (fun c j => (c = 56 ∧ (j = 2 ∨ j = 3))) σ τ ∧ (τ 56 2 = e) ∧ (τ 56 3 = 0)
set_option maxHeartbeats 4000000 in
set_option maxRecDepth 100000 in
theorem c_X4_begin {G : tw_G} (hX : tw_isX G) (e : Int) (he : -2147483648 ≤ e ∧ e ≤ 2147483647) (σ : tw_M) (hI : tw_I σ) : tw_C G yX4_begin cX4_begin 2 none 0 [vR 56, vI e] σ (q_X4_begin e σ) := by
  refine tw_met [(0, vR 56), (1, vI e)] (by decide +kernel) rfl (Nat.le_of_ble_eq_true rfl) ?_
  refine j_aload_n (pc := 0) dX4_begin_0 rfl rfl ?_
  refine j_iload_n (pc := 1) dX4_begin_1 rfl rfl ?_
  refine j_putI (pc := 2) fl_X4_16 fp_X4_2 dX4_begin_2 (a_56 hX) rfl (j_nm (fun σ1 (eσ1 : σ1 = tw_up σ 56 2 e) => ?_))
  have hIσ1 : tw_I σ1 := tw_I_up hI eσ1 (show (-2147483648 : Int) ≤ e ∧ e ≤ 2147483647 from ⟨by omega, by omega⟩)
  have hFσ1 : tw_F (fun c j => (c = 56 ∧ (j = 2 ∨ j = 3))) σ σ1 := tw_F_up (tw_F_rf) eσ1 (show (56 = 56 ∧ (2 = 2 ∨ 2 = 3)) from ⟨rfl, (Or.inl rfl)⟩)
  refine j_aload_n (pc := 5) dX4_begin_5 rfl rfl ?_
  refine j_iconst (pc := 6) dX4_begin_6 ?_
  refine j_putI (pc := 7) fl_X4_20 fp_X4_3 dX4_begin_7 (a_56 hX) rfl (j_nm (fun σ2 (eσ2 : σ2 = tw_up σ1 56 3 0) => ?_))
  have hIσ2 : tw_I σ2 := tw_I_up hIσ1 eσ2 (show (-2147483648 : Int) ≤ 0 ∧ 0 ≤ 2147483647 from by decide)
  have hFσ2 : tw_F (fun c j => (c = 56 ∧ (j = 2 ∨ j = 3))) σ σ2 := tw_F_up hFσ1 eσ2 (show (56 = 56 ∧ (3 = 2 ∨ 3 = 3)) from ⟨rfl, (Or.inr rfl)⟩)
  have y3 : σ2 56 2 = e := ((tw_ne1 eσ2 (by (first | decide | omega)))).trans (tw_eq1 eσ1)
  have y4 : σ2 56 3 = 0 := (tw_eq1 eσ2)
  exact j_vret (pc := 10) ⟨rfl, rfl⟩ dX4_begin_10 rfl ⟨rfl, hIσ2, hFσ2, by omega, by omega⟩
abbrev q_X4_climb (o : Nat) (a : Int) (b : Int) (σ : tw_M) : Option tw_V → tw_M → Prop := fun z τ => z = none ∧ tw_I τ ∧ tw_F (fun c j => (c = 56 ∧ (j = 2 ∨ j = 3))) σ τ ∧ (∀ gg qq : Nat → Int, RG o gg qq σ → 1 ≤ a → a ≤ b + 1 → σ 56 2 = eff (wW 1 σ) gg (a - 1).toNat → σ 56 3 = 0 → τ 56 2 = eff (wW 1 σ) gg b.toNat ∧ TMs (wW 1 σ) gg 0 a (b + 1) (τ 56 3))
set_option maxHeartbeats 4000000 in
set_option maxRecDepth 100000 in
theorem l_X4_climb {G : tw_G} (hX : tw_isX G) (o : Nat) (ho : IsRow G o) (a : Int) (ha : 0 ≤ a ∧ a ≤ 41) (b : Int) (hb : -1 ≤ b ∧ b ≤ 40) (σ : tw_M) (hI : tw_I σ) (hq0 : o + 4 ≤ 56 ∨ 57 < o) : ∀ N_ : Nat, (∀ (k : Int) (hk : 0 ≤ k ∧ k ≤ 10) (h : Int) (hh : 0 ≤ h ∧ h ≤ 41) (τ : tw_M) (hIτ : tw_I τ) (hFτ : tw_F (fun c j => (c = 56 ∧ (j = 2 ∨ j = 3))) σ τ) (i0 : a ≤ h) (i1 : h ≤ b + 1 ∨ h = a) (i2 : ∀ gg qq : Nat → Int, RG o gg qq σ → 1 ≤ a → σ 56 2 = eff (wW 1 σ) gg (a - 1).toNat → σ 56 3 = 0 → CLI (wW 1 σ) gg 0 a h k (τ 56 2) (τ 56 3)) (hm : (41 - h).toNat < N_), tw_J G (tw_mt RX4 cX4_climb 6 none 1) (tw_E G (q_X4_climb o a b σ)) 10 [(0, vR 56), (1, vR o), (3, vI b), (4, vI k), (5, vI h)] [] τ) := by
  intro N_
  induction N_ with
  | zero => exact fun k hk h hh τ hIτ hFτ i0 i1 i2 hm => absurd hm (Nat.not_lt_zero _)
  | succ N_ ih =>
    intro k hk h hh τ hIτ hFτ i0 i1 i2 hm
    have RT : ∀ gg qq : Nat → Int, RG o gg qq σ → RG o gg qq τ := fun gg qq H => RG_F H (fun c j a b => hFτ c j (show ¬ ((c = 56 ∧ (j = 2 ∨ j = 3))) from by omega))
    have WT : wW 1 τ = wW 1 σ := wW_F (fun c j a b => hFτ c j (show ¬ ((c = 56 ∧ (j = 2 ∨ j = 3))) from by omega))
    have r1 : wW 1 σ 101 = τ 2 1 := (wW_r (w := 1) (j := 1) (by decide)).trans (hFτ 2 1 (show ¬ ((2 = 56 ∧ (1 = 2 ∨ 1 = 3))) from by decide)).symm
    have r2 : wW 1 σ 102 = τ 2 2 := (wW_r (w := 1) (j := 2) (by decide)).trans (hFτ 2 2 (show ¬ ((2 = 56 ∧ (2 = 2 ∨ 2 = 3))) from by decide)).symm
    have n0 : τ o 0 = σ o 0 := hFτ o 0 (show ¬ ((o = 56 ∧ (0 = 2 ∨ 0 = 3))) from by omega)
    refine j_iload (pc := 10) dX4_climb_10 rfl ?_
    refine j_iload_n (pc := 12) dX4_climb_12 rfl rfl ?_
    refine j_icmpR_gt (pc := 13) (tgt := 130) ⟨by omega, by omega⟩ ⟨by omega, by omega⟩ dX4_climb_13 rfl (fun h1 => ?_) (fun h1 => ?_)
    · exact j_vret (pc := 130) ⟨rfl, rfl⟩ dX4_climb_130 rfl ⟨rfl, hIτ, hFτ, (fun gg qq H e0 e3 e1 e2 => by (have c := i2 gg qq H e0 e1 e2); rw [show h = b + 1 from by omega] at c; exact ⟨by rw [c.2.1, show b + 1 - 1 = b from by omega], c.2.2⟩)⟩
    · have hh9 : wH (wW 1 σ) h = τ 4 h.toNat := (wW_0 (w := 1) ⟨by omega, by omega⟩).trans (hFτ 4 _ (show ¬ ((4 = 56 ∧ (h.toNat = 2 ∨ h.toNat = 3))) from fun h => absurd h.1 (by decide))).symm
      have h39 : wR (wW 1 σ) h = τ 7 h.toNat := (wW_3 (w := 1) ⟨by omega, by omega⟩).trans (hFτ 7 _ (show ¬ ((7 = 56 ∧ (h.toNat = 2 ∨ h.toNat = 3))) from fun h => absurd h.1 (by decide))).symm
      refine j_aload_n (pc := 16) dX4_climb_16 rfl rfl ?_
      refine j_dup (pc := 17) dX4_climb_17 rfl ?_
      refine j_getI (pc := 18) fl_X4_16 dX4_climb_18 (a_56 hX) rfl ?_
      have f2 : (-2147483648 : Int) ≤ τ 56 2 ∧ τ 56 2 ≤ 2147483647 := hIτ 56 2
      refine j_aload_n (pc := 21) dX4_climb_21 rfl rfl ?_
      refine j_getR (pc := 22) (r := 1) fl_X4_29 dX4_climb_22 (a_56 hX) rfl ?_
      refine j_getR (pc := 25) (r := 4) fl_X4_57 dX4_climb_25 (a_1 hX) rfl ?_
      refine j_iload (pc := 28) dX4_climb_28 rfl ?_
      refine j_iald (pc := 30) dX4_climb_30 (a_4 hX) (by omega) (by omega) (by decide) ?_
      have f3 : (0 : Int) ≤ τ 4 (h.toNat) ∧ τ 4 (h.toNat) ≤ 9 := hIτ 4 (h.toNat)
      refine j_iadd (pc := 31) dX4_climb_31 ?_
      refine j_top (fun z4 ez4 hz4 => ?_)
      have x1 := ez4; rw [← hh9] at x1
      refine j_putI (pc := 32) fl_X4_16 fp_X4_2 dX4_climb_32 (a_56 hX) rfl (j_nm (fun σ5 (eσ5 : σ5 = tw_up τ 56 2 z4) => ?_))
      have hIσ5 : tw_I σ5 := tw_I_up hIτ eσ5 (show (-2147483648 : Int) ≤ z4 ∧ z4 ≤ 2147483647 from ⟨by omega, by omega⟩)
      have hFσ5 : tw_F (fun c j => (c = 56 ∧ (j = 2 ∨ j = 3))) σ σ5 := tw_F_up hFτ eσ5 (show (56 = 56 ∧ (2 = 2 ∨ 2 = 3)) from ⟨rfl, (Or.inl rfl)⟩)
      refine j_iload (pc := 35) dX4_climb_35 rfl ?_
      refine j_aload_n (pc := 37) dX4_climb_37 rfl rfl ?_
      refine j_getI (pc := 38) fl_X4_77 dX4_climb_38 ho.1.1 rfl ?_
      refine j_topV (show σ5 o 0 = τ o 0 from (tw_ne1 eσ5 (by (first | decide | omega)))) ?_
      have f6 : (0 : Int) ≤ τ o 0 ∧ τ o 0 ≤ 10 := tw_Ig ho.2.1 hIτ 0
      refine j_icmpR_ge (pc := 41) (tgt := 77) ⟨by omega, by omega⟩ ⟨by omega, by omega⟩ dX4_climb_41 rfl (fun h7 => ?_) (fun h7 => ?_)
      · have he7 : σ5 56 2 = _ := (tw_eq1 eσ5)
        refine j_aload_n (pc := 77) dX4_climb_77 rfl rfl ?_
        refine j_getI (pc := 78) fl_X4_20 dX4_climb_78 (a_56 hX) rfl ?_
        refine j_topV (show σ5 56 3 = τ 56 3 from (tw_ne1 eσ5 (by (first | decide | omega)))) ?_
        have f8 : (-2147483648 : Int) ≤ τ 56 3 ∧ τ 56 3 ≤ 2147483647 := hIτ 56 3
        refine j_ifR_ne (pc := 81) (tgt := 106) ⟨by omega, by omega⟩ dX4_climb_81 rfl (fun h9 => ?_) (fun h9 => ?_)
        · refine j_aload_n (pc := 106) dX4_climb_106 rfl rfl ?_
          refine j_getR (pc := 107) (r := 1) fl_X4_29 dX4_climb_107 (a_56 hX) rfl ?_
          refine j_getR (pc := 110) (r := 7) fl_X4_83 dX4_climb_110 (a_1 hX) rfl ?_
          refine j_iload (pc := 113) dX4_climb_113 rfl ?_
          refine j_iald (pc := 115) dX4_climb_115 (a_7 hX) (by omega) (by omega) (by decide) ?_
          refine j_topV (show σ5 7 (h.toNat) = τ 7 (h.toNat) from (tw_ne1 eσ5 (by (first | decide | omega)))) ?_
          have f10 : (0 : Int) ≤ τ 7 (h.toNat) ∧ τ 7 (h.toNat) ≤ 1 := hIτ 7 (h.toNat)
          refine j_ifR_eq (pc := 116) (tgt := 124) ⟨by omega, by omega⟩ dX4_climb_116 rfl (fun h11 => ?_) (fun h11 => ?_)
          · refine j_iinc (pc := 124) (i := 5) (n := 1) (ls' := [(0, vR 56), (1, vR o), (3, vI b), (4, vI k), (5, vI (h + 1))]) [1, 2, 3, 4, 0] dX4_climb_124 rfl (Nat.le_of_ble_eq_true rfl) rfl rfl ?_
            refine j_goto (pc := 127) (tgt := 10) dX4_climb_127 rfl ?_
            refine j_ls (ls' := [(0, vR 56), (1, vR o), (3, vI b), (4, vI k), (5, vI (h + 1))]) [0, 1, 2, 3, 4] rfl ?_
            have y12 : σ5 56 2 = z4 := (tw_eq1 eσ5)
            have y13 : σ5 56 3 = τ 56 3 := (tw_ne1 eσ5 (by (first | decide | omega)))
            exact ih k ⟨by omega, by omega⟩ (h + 1) ⟨by omega, by omega⟩ σ5 hIσ5 hFσ5 (show a ≤ (h + 1) from by omega) (show (h + 1) ≤ b + 1 ∨ (h + 1) = a from by omega) (show ∀ gg qq : Nat → Int, RG o gg qq σ → 1 ≤ a → σ 56 2 = eff (wW 1 σ) gg (a - 1).toNat → σ 56 3 = 0 → CLI (wW 1 σ) gg 0 a (h + 1) k (σ5 56 2) (σ5 56 3) from (fun gg qq H e0 e1 e2 => by
                                                              have c := i2 gg qq H e0 e1 e2
                                                              exact CL_s (e2 := σ5 56 2) c (by omega) ⟨e0, by omega⟩ x1 (by (have y := RG_here (RT gg qq H) (by omega) c.1); rcases y with ⟨y1, y2, y3⟩ | ⟨y1, y2⟩; (first | exact Or.inl ⟨y1, rfl, he7.trans x2⟩ | (exfalso; omega)); (first | exact Or.inr ⟨y1, rfl, he7⟩ | (exfalso; omega))) (by omega) (by omega))) (show (41 - (h + 1)).toNat < N_ from by omega)
          · refine j_aload_n (pc := 119) dX4_climb_119 rfl rfl ?_
            refine j_iconst (pc := 120) dX4_climb_120 ?_
            refine j_putI (pc := 121) fl_X4_16 fp_X4_2 dX4_climb_121 (a_56 hX) rfl (j_nm (fun σ14 (eσ14 : σ14 = tw_up σ5 56 2 0) => ?_))
            have hIσ14 : tw_I σ14 := tw_I_up hIσ5 eσ14 (show (-2147483648 : Int) ≤ 0 ∧ 0 ≤ 2147483647 from by decide)
            have hFσ14 : tw_F (fun c j => (c = 56 ∧ (j = 2 ∨ j = 3))) σ σ14 := tw_F_up hFσ5 eσ14 (show (56 = 56 ∧ (2 = 2 ∨ 2 = 3)) from ⟨rfl, (Or.inl rfl)⟩)
            refine j_iinc (pc := 124) (i := 5) (n := 1) (ls' := [(0, vR 56), (1, vR o), (3, vI b), (4, vI k), (5, vI (h + 1))]) [1, 2, 3, 4, 0] dX4_climb_124 rfl (Nat.le_of_ble_eq_true rfl) rfl rfl ?_
            refine j_goto (pc := 127) (tgt := 10) dX4_climb_127 rfl ?_
            refine j_ls (ls' := [(0, vR 56), (1, vR o), (3, vI b), (4, vI k), (5, vI (h + 1))]) [0, 1, 2, 3, 4] rfl ?_
            have y15 : σ14 56 2 = 0 := (tw_eq1 eσ14)
            have y16 : σ14 56 3 = τ 56 3 := ((tw_ne1 eσ14 (by (first | decide | omega)))).trans (tw_ne1 eσ5 (by (first | decide | omega)))
            exact ih k ⟨by omega, by omega⟩ (h + 1) ⟨by omega, by omega⟩ σ14 hIσ14 hFσ14 (show a ≤ (h + 1) from by omega) (show (h + 1) ≤ b + 1 ∨ (h + 1) = a from by omega) (show ∀ gg qq : Nat → Int, RG o gg qq σ → 1 ≤ a → σ 56 2 = eff (wW 1 σ) gg (a - 1).toNat → σ 56 3 = 0 → CLI (wW 1 σ) gg 0 a (h + 1) k (σ14 56 2) (σ14 56 3) from (fun gg qq H e0 e1 e2 => by
                                                              have c := i2 gg qq H e0 e1 e2
                                                              exact CL_s (e2 := σ5 56 2) c (by omega) ⟨e0, by omega⟩ x1 (by (have y := RG_here (RT gg qq H) (by omega) c.1); rcases y with ⟨y1, y2, y3⟩ | ⟨y1, y2⟩; (first | exact Or.inl ⟨y1, rfl, he7.trans x2⟩ | (exfalso; omega)); (first | exact Or.inr ⟨y1, rfl, he7⟩ | (exfalso; omega))) (by omega) (by omega))) (show (41 - (h + 1)).toNat < N_ from by omega)
        · refine j_aload_n (pc := 84) dX4_climb_84 rfl rfl ?_
          refine j_getI (pc := 85) fl_X4_16 dX4_climb_85 (a_56 hX) rfl ?_
          refine j_topV (show σ5 56 2 = z4 from (tw_eq1 eσ5)) ?_
          refine j_aload_n (pc := 88) dX4_climb_88 rfl rfl ?_
          refine j_getR (pc := 89) (r := 1) fl_X4_29 dX4_climb_89 (a_56 hX) rfl ?_
          refine j_getR (pc := 92) (r := 2) fl_X4_43 dX4_climb_92 (a_1 hX) rfl ?_
          refine j_iconst (pc := 95) dX4_climb_95 ?_
          refine j_iald (pc := 96) dX4_climb_96 (a_2 hX) (by omega) (by omega) (by decide) ?_
          refine j_topV (show σ5 2 (Int.toNat 1) = σ5 2 1 from rfl) ?_
          refine j_topV (show σ5 2 1 = τ 2 1 from (tw_ne1 eσ5 (by (first | decide | omega)))) ?_
          have f17 : (1 : Int) ≤ τ 2 1 ∧ τ 2 1 ≤ 999 := hIτ 2 1
          refine j_icmpR_le (pc := 97) (tgt := 106) ⟨by omega, by omega⟩ ⟨by omega, by omega⟩ dX4_climb_97 rfl (fun h18 => ?_) (fun h18 => ?_)
          · refine j_aload_n (pc := 106) dX4_climb_106 rfl rfl ?_
            refine j_getR (pc := 107) (r := 1) fl_X4_29 dX4_climb_107 (a_56 hX) rfl ?_
            refine j_getR (pc := 110) (r := 7) fl_X4_83 dX4_climb_110 (a_1 hX) rfl ?_
            refine j_iload (pc := 113) dX4_climb_113 rfl ?_
            refine j_iald (pc := 115) dX4_climb_115 (a_7 hX) (by omega) (by omega) (by decide) ?_
            refine j_topV (show σ5 7 (h.toNat) = τ 7 (h.toNat) from (tw_ne1 eσ5 (by (first | decide | omega)))) ?_
            have f19 : (0 : Int) ≤ τ 7 (h.toNat) ∧ τ 7 (h.toNat) ≤ 1 := hIτ 7 (h.toNat)
            refine j_ifR_eq (pc := 116) (tgt := 124) ⟨by omega, by omega⟩ dX4_climb_116 rfl (fun h20 => ?_) (fun h20 => ?_)
            · refine j_iinc (pc := 124) (i := 5) (n := 1) (ls' := [(0, vR 56), (1, vR o), (3, vI b), (4, vI k), (5, vI (h + 1))]) [1, 2, 3, 4, 0] dX4_climb_124 rfl (Nat.le_of_ble_eq_true rfl) rfl rfl ?_
              refine j_goto (pc := 127) (tgt := 10) dX4_climb_127 rfl ?_
              refine j_ls (ls' := [(0, vR 56), (1, vR o), (3, vI b), (4, vI k), (5, vI (h + 1))]) [0, 1, 2, 3, 4] rfl ?_
              have y21 : σ5 56 2 = z4 := (tw_eq1 eσ5)
              have y22 : σ5 56 3 = τ 56 3 := (tw_ne1 eσ5 (by (first | decide | omega)))
              exact ih k ⟨by omega, by omega⟩ (h + 1) ⟨by omega, by omega⟩ σ5 hIσ5 hFσ5 (show a ≤ (h + 1) from by omega) (show (h + 1) ≤ b + 1 ∨ (h + 1) = a from by omega) (show ∀ gg qq : Nat → Int, RG o gg qq σ → 1 ≤ a → σ 56 2 = eff (wW 1 σ) gg (a - 1).toNat → σ 56 3 = 0 → CLI (wW 1 σ) gg 0 a (h + 1) k (σ5 56 2) (σ5 56 3) from (fun gg qq H e0 e1 e2 => by
                                                              have c := i2 gg qq H e0 e1 e2
                                                              exact CL_s (e2 := σ5 56 2) c (by omega) ⟨e0, by omega⟩ x1 (by (have y := RG_here (RT gg qq H) (by omega) c.1); rcases y with ⟨y1, y2, y3⟩ | ⟨y1, y2⟩; (first | exact Or.inl ⟨y1, rfl, he7.trans x2⟩ | (exfalso; omega)); (first | exact Or.inr ⟨y1, rfl, he7⟩ | (exfalso; omega))) (by omega) (by omega))) (show (41 - (h + 1)).toNat < N_ from by omega)
            · refine j_aload_n (pc := 119) dX4_climb_119 rfl rfl ?_
              refine j_iconst (pc := 120) dX4_climb_120 ?_
              refine j_putI (pc := 121) fl_X4_16 fp_X4_2 dX4_climb_121 (a_56 hX) rfl (j_nm (fun σ23 (eσ23 : σ23 = tw_up σ5 56 2 0) => ?_))
              have hIσ23 : tw_I σ23 := tw_I_up hIσ5 eσ23 (show (-2147483648 : Int) ≤ 0 ∧ 0 ≤ 2147483647 from by decide)
              have hFσ23 : tw_F (fun c j => (c = 56 ∧ (j = 2 ∨ j = 3))) σ σ23 := tw_F_up hFσ5 eσ23 (show (56 = 56 ∧ (2 = 2 ∨ 2 = 3)) from ⟨rfl, (Or.inl rfl)⟩)
              refine j_iinc (pc := 124) (i := 5) (n := 1) (ls' := [(0, vR 56), (1, vR o), (3, vI b), (4, vI k), (5, vI (h + 1))]) [1, 2, 3, 4, 0] dX4_climb_124 rfl (Nat.le_of_ble_eq_true rfl) rfl rfl ?_
              refine j_goto (pc := 127) (tgt := 10) dX4_climb_127 rfl ?_
              refine j_ls (ls' := [(0, vR 56), (1, vR o), (3, vI b), (4, vI k), (5, vI (h + 1))]) [0, 1, 2, 3, 4] rfl ?_
              have y24 : σ23 56 2 = 0 := (tw_eq1 eσ23)
              have y25 : σ23 56 3 = τ 56 3 := ((tw_ne1 eσ23 (by (first | decide | omega)))).trans (tw_ne1 eσ5 (by (first | decide | omega)))
              exact ih k ⟨by omega, by omega⟩ (h + 1) ⟨by omega, by omega⟩ σ23 hIσ23 hFσ23 (show a ≤ (h + 1) from by omega) (show (h + 1) ≤ b + 1 ∨ (h + 1) = a from by omega) (show ∀ gg qq : Nat → Int, RG o gg qq σ → 1 ≤ a → σ 56 2 = eff (wW 1 σ) gg (a - 1).toNat → σ 56 3 = 0 → CLI (wW 1 σ) gg 0 a (h + 1) k (σ23 56 2) (σ23 56 3) from (fun gg qq H e0 e1 e2 => by
                                                              have c := i2 gg qq H e0 e1 e2
                                                              exact CL_s (e2 := σ5 56 2) c (by omega) ⟨e0, by omega⟩ x1 (by (have y := RG_here (RT gg qq H) (by omega) c.1); rcases y with ⟨y1, y2, y3⟩ | ⟨y1, y2⟩; (first | exact Or.inl ⟨y1, rfl, he7.trans x2⟩ | (exfalso; omega)); (first | exact Or.inr ⟨y1, rfl, he7⟩ | (exfalso; omega))) (by omega) (by omega))) (show (41 - (h + 1)).toNat < N_ from by omega)
          · refine j_aload_n (pc := 100) dX4_climb_100 rfl rfl ?_
            refine j_iload (pc := 101) dX4_climb_101 rfl ?_
            refine j_putI (pc := 103) fl_X4_20 fp_X4_3 dX4_climb_103 (a_56 hX) rfl (j_nm (fun σ26 (eσ26 : σ26 = tw_up σ5 56 3 h) => ?_))
            have hIσ26 : tw_I σ26 := tw_I_up hIσ5 eσ26 (show (-2147483648 : Int) ≤ h ∧ h ≤ 2147483647 from ⟨by omega, by omega⟩)
            have hFσ26 : tw_F (fun c j => (c = 56 ∧ (j = 2 ∨ j = 3))) σ σ26 := tw_F_up hFσ5 eσ26 (show (56 = 56 ∧ (3 = 2 ∨ 3 = 3)) from ⟨rfl, (Or.inr rfl)⟩)
            refine j_aload_n (pc := 106) dX4_climb_106 rfl rfl ?_
            refine j_getR (pc := 107) (r := 1) fl_X4_29 dX4_climb_107 (a_56 hX) rfl ?_
            refine j_getR (pc := 110) (r := 7) fl_X4_83 dX4_climb_110 (a_1 hX) rfl ?_
            refine j_iload (pc := 113) dX4_climb_113 rfl ?_
            refine j_iald (pc := 115) dX4_climb_115 (a_7 hX) (by omega) (by omega) (by decide) ?_
            refine j_topV (show σ26 7 (h.toNat) = τ 7 (h.toNat) from ((tw_ne1 eσ26 (by (first | decide | omega)))).trans (tw_ne1 eσ5 (by (first | decide | omega)))) ?_
            have f27 : (0 : Int) ≤ τ 7 (h.toNat) ∧ τ 7 (h.toNat) ≤ 1 := hIτ 7 (h.toNat)
            refine j_ifR_eq (pc := 116) (tgt := 124) ⟨by omega, by omega⟩ dX4_climb_116 rfl (fun h28 => ?_) (fun h28 => ?_)
            · refine j_iinc (pc := 124) (i := 5) (n := 1) (ls' := [(0, vR 56), (1, vR o), (3, vI b), (4, vI k), (5, vI (h + 1))]) [1, 2, 3, 4, 0] dX4_climb_124 rfl (Nat.le_of_ble_eq_true rfl) rfl rfl ?_
              refine j_goto (pc := 127) (tgt := 10) dX4_climb_127 rfl ?_
              refine j_ls (ls' := [(0, vR 56), (1, vR o), (3, vI b), (4, vI k), (5, vI (h + 1))]) [0, 1, 2, 3, 4] rfl ?_
              have y29 : σ26 56 2 = z4 := ((tw_ne1 eσ26 (by (first | decide | omega)))).trans (tw_eq1 eσ5)
              have y30 : σ26 56 3 = h := (tw_eq1 eσ26)
              exact ih k ⟨by omega, by omega⟩ (h + 1) ⟨by omega, by omega⟩ σ26 hIσ26 hFσ26 (show a ≤ (h + 1) from by omega) (show (h + 1) ≤ b + 1 ∨ (h + 1) = a from by omega) (show ∀ gg qq : Nat → Int, RG o gg qq σ → 1 ≤ a → σ 56 2 = eff (wW 1 σ) gg (a - 1).toNat → σ 56 3 = 0 → CLI (wW 1 σ) gg 0 a (h + 1) k (σ26 56 2) (σ26 56 3) from (fun gg qq H e0 e1 e2 => by
                                                              have c := i2 gg qq H e0 e1 e2
                                                              exact CL_s (e2 := σ5 56 2) c (by omega) ⟨e0, by omega⟩ x1 (by (have y := RG_here (RT gg qq H) (by omega) c.1); rcases y with ⟨y1, y2, y3⟩ | ⟨y1, y2⟩; (first | exact Or.inl ⟨y1, rfl, he7.trans x2⟩ | (exfalso; omega)); (first | exact Or.inr ⟨y1, rfl, he7⟩ | (exfalso; omega))) (by omega) (by omega))) (show (41 - (h + 1)).toNat < N_ from by omega)
            · refine j_aload_n (pc := 119) dX4_climb_119 rfl rfl ?_
              refine j_iconst (pc := 120) dX4_climb_120 ?_
              refine j_putI (pc := 121) fl_X4_16 fp_X4_2 dX4_climb_121 (a_56 hX) rfl (j_nm (fun σ31 (eσ31 : σ31 = tw_up σ26 56 2 0) => ?_))
              have hIσ31 : tw_I σ31 := tw_I_up hIσ26 eσ31 (show (-2147483648 : Int) ≤ 0 ∧ 0 ≤ 2147483647 from by decide)
              have hFσ31 : tw_F (fun c j => (c = 56 ∧ (j = 2 ∨ j = 3))) σ σ31 := tw_F_up hFσ26 eσ31 (show (56 = 56 ∧ (2 = 2 ∨ 2 = 3)) from ⟨rfl, (Or.inl rfl)⟩)
              refine j_iinc (pc := 124) (i := 5) (n := 1) (ls' := [(0, vR 56), (1, vR o), (3, vI b), (4, vI k), (5, vI (h + 1))]) [1, 2, 3, 4, 0] dX4_climb_124 rfl (Nat.le_of_ble_eq_true rfl) rfl rfl ?_
              refine j_goto (pc := 127) (tgt := 10) dX4_climb_127 rfl ?_
              refine j_ls (ls' := [(0, vR 56), (1, vR o), (3, vI b), (4, vI k), (5, vI (h + 1))]) [0, 1, 2, 3, 4] rfl ?_
              have y32 : σ31 56 2 = 0 := (tw_eq1 eσ31)
              have y33 : σ31 56 3 = h := ((tw_ne1 eσ31 (by (first | decide | omega)))).trans (tw_eq1 eσ26)
              exact ih k ⟨by omega, by omega⟩ (h + 1) ⟨by omega, by omega⟩ σ31 hIσ31 hFσ31 (show a ≤ (h + 1) from by omega) (show (h + 1) ≤ b + 1 ∨ (h + 1) = a from by omega) (show ∀ gg qq : Nat → Int, RG o gg qq σ → 1 ≤ a → σ 56 2 = eff (wW 1 σ) gg (a - 1).toNat → σ 56 3 = 0 → CLI (wW 1 σ) gg 0 a (h + 1) k (σ31 56 2) (σ31 56 3) from (fun gg qq H e0 e1 e2 => by
                                                              have c := i2 gg qq H e0 e1 e2
                                                              exact CL_s (e2 := σ5 56 2) c (by omega) ⟨e0, by omega⟩ x1 (by (have y := RG_here (RT gg qq H) (by omega) c.1); rcases y with ⟨y1, y2, y3⟩ | ⟨y1, y2⟩; (first | exact Or.inl ⟨y1, rfl, he7.trans x2⟩ | (exfalso; omega)); (first | exact Or.inr ⟨y1, rfl, he7⟩ | (exfalso; omega))) (by omega) (by omega))) (show (41 - (h + 1)).toNat < N_ from by omega)
      · refine j_aload_n (pc := 44) dX4_climb_44 rfl rfl ?_
        refine j_getR (pc := 45) (r := o + 1) fl_X4_80 dX4_climb_45 ho.1.1 rfl ?_
        refine j_iload (pc := 48) dX4_climb_48 rfl ?_
        refine j_iald (pc := 50) dX4_climb_50 ho.1.2.1 (by omega) (by omega) (by decide) ?_
        refine j_topV (show σ5 (o + 1) (k.toNat) = τ (o + 1) (k.toNat) from (tw_ne1 eσ5 (by (first | decide | omega)))) ?_
        have f34 : (0 : Int) ≤ τ (o + 1) (k.toNat) ∧ τ (o + 1) (k.toNat) ≤ 40 := tw_Ig ho.2.2.1 hIτ (k.toNat)
        refine j_iload (pc := 51) dX4_climb_51 rfl ?_
        refine j_icmpR_ne (pc := 53) (tgt := 77) ⟨by omega, by omega⟩ ⟨by omega, by omega⟩ dX4_climb_53 rfl (fun h35 => ?_) (fun h35 => ?_)
        · have he7 : σ5 56 2 = _ := (tw_eq1 eσ5)
          refine j_aload_n (pc := 77) dX4_climb_77 rfl rfl ?_
          refine j_getI (pc := 78) fl_X4_20 dX4_climb_78 (a_56 hX) rfl ?_
          refine j_topV (show σ5 56 3 = τ 56 3 from (tw_ne1 eσ5 (by (first | decide | omega)))) ?_
          have f36 : (-2147483648 : Int) ≤ τ 56 3 ∧ τ 56 3 ≤ 2147483647 := hIτ 56 3
          refine j_ifR_ne (pc := 81) (tgt := 106) ⟨by omega, by omega⟩ dX4_climb_81 rfl (fun h37 => ?_) (fun h37 => ?_)
          · refine j_aload_n (pc := 106) dX4_climb_106 rfl rfl ?_
            refine j_getR (pc := 107) (r := 1) fl_X4_29 dX4_climb_107 (a_56 hX) rfl ?_
            refine j_getR (pc := 110) (r := 7) fl_X4_83 dX4_climb_110 (a_1 hX) rfl ?_
            refine j_iload (pc := 113) dX4_climb_113 rfl ?_
            refine j_iald (pc := 115) dX4_climb_115 (a_7 hX) (by omega) (by omega) (by decide) ?_
            refine j_topV (show σ5 7 (h.toNat) = τ 7 (h.toNat) from (tw_ne1 eσ5 (by (first | decide | omega)))) ?_
            have f38 : (0 : Int) ≤ τ 7 (h.toNat) ∧ τ 7 (h.toNat) ≤ 1 := hIτ 7 (h.toNat)
            refine j_ifR_eq (pc := 116) (tgt := 124) ⟨by omega, by omega⟩ dX4_climb_116 rfl (fun h39 => ?_) (fun h39 => ?_)
            · refine j_iinc (pc := 124) (i := 5) (n := 1) (ls' := [(0, vR 56), (1, vR o), (3, vI b), (4, vI k), (5, vI (h + 1))]) [1, 2, 3, 4, 0] dX4_climb_124 rfl (Nat.le_of_ble_eq_true rfl) rfl rfl ?_
              refine j_goto (pc := 127) (tgt := 10) dX4_climb_127 rfl ?_
              refine j_ls (ls' := [(0, vR 56), (1, vR o), (3, vI b), (4, vI k), (5, vI (h + 1))]) [0, 1, 2, 3, 4] rfl ?_
              have y40 : σ5 56 2 = z4 := (tw_eq1 eσ5)
              have y41 : σ5 56 3 = τ 56 3 := (tw_ne1 eσ5 (by (first | decide | omega)))
              exact ih k ⟨by omega, by omega⟩ (h + 1) ⟨by omega, by omega⟩ σ5 hIσ5 hFσ5 (show a ≤ (h + 1) from by omega) (show (h + 1) ≤ b + 1 ∨ (h + 1) = a from by omega) (show ∀ gg qq : Nat → Int, RG o gg qq σ → 1 ≤ a → σ 56 2 = eff (wW 1 σ) gg (a - 1).toNat → σ 56 3 = 0 → CLI (wW 1 σ) gg 0 a (h + 1) k (σ5 56 2) (σ5 56 3) from (fun gg qq H e0 e1 e2 => by
                                                              have c := i2 gg qq H e0 e1 e2
                                                              exact CL_s (e2 := σ5 56 2) c (by omega) ⟨e0, by omega⟩ x1 (by (have y := RG_here (RT gg qq H) (by omega) c.1); rcases y with ⟨y1, y2, y3⟩ | ⟨y1, y2⟩; (first | exact Or.inl ⟨y1, rfl, he7.trans x2⟩ | (exfalso; omega)); (first | exact Or.inr ⟨y1, rfl, he7⟩ | (exfalso; omega))) (by omega) (by omega))) (show (41 - (h + 1)).toNat < N_ from by omega)
            · refine j_aload_n (pc := 119) dX4_climb_119 rfl rfl ?_
              refine j_iconst (pc := 120) dX4_climb_120 ?_
              refine j_putI (pc := 121) fl_X4_16 fp_X4_2 dX4_climb_121 (a_56 hX) rfl (j_nm (fun σ42 (eσ42 : σ42 = tw_up σ5 56 2 0) => ?_))
              have hIσ42 : tw_I σ42 := tw_I_up hIσ5 eσ42 (show (-2147483648 : Int) ≤ 0 ∧ 0 ≤ 2147483647 from by decide)
              have hFσ42 : tw_F (fun c j => (c = 56 ∧ (j = 2 ∨ j = 3))) σ σ42 := tw_F_up hFσ5 eσ42 (show (56 = 56 ∧ (2 = 2 ∨ 2 = 3)) from ⟨rfl, (Or.inl rfl)⟩)
              refine j_iinc (pc := 124) (i := 5) (n := 1) (ls' := [(0, vR 56), (1, vR o), (3, vI b), (4, vI k), (5, vI (h + 1))]) [1, 2, 3, 4, 0] dX4_climb_124 rfl (Nat.le_of_ble_eq_true rfl) rfl rfl ?_
              refine j_goto (pc := 127) (tgt := 10) dX4_climb_127 rfl ?_
              refine j_ls (ls' := [(0, vR 56), (1, vR o), (3, vI b), (4, vI k), (5, vI (h + 1))]) [0, 1, 2, 3, 4] rfl ?_
              have y43 : σ42 56 2 = 0 := (tw_eq1 eσ42)
              have y44 : σ42 56 3 = τ 56 3 := ((tw_ne1 eσ42 (by (first | decide | omega)))).trans (tw_ne1 eσ5 (by (first | decide | omega)))
              exact ih k ⟨by omega, by omega⟩ (h + 1) ⟨by omega, by omega⟩ σ42 hIσ42 hFσ42 (show a ≤ (h + 1) from by omega) (show (h + 1) ≤ b + 1 ∨ (h + 1) = a from by omega) (show ∀ gg qq : Nat → Int, RG o gg qq σ → 1 ≤ a → σ 56 2 = eff (wW 1 σ) gg (a - 1).toNat → σ 56 3 = 0 → CLI (wW 1 σ) gg 0 a (h + 1) k (σ42 56 2) (σ42 56 3) from (fun gg qq H e0 e1 e2 => by
                                                              have c := i2 gg qq H e0 e1 e2
                                                              exact CL_s (e2 := σ5 56 2) c (by omega) ⟨e0, by omega⟩ x1 (by (have y := RG_here (RT gg qq H) (by omega) c.1); rcases y with ⟨y1, y2, y3⟩ | ⟨y1, y2⟩; (first | exact Or.inl ⟨y1, rfl, he7.trans x2⟩ | (exfalso; omega)); (first | exact Or.inr ⟨y1, rfl, he7⟩ | (exfalso; omega))) (by omega) (by omega))) (show (41 - (h + 1)).toNat < N_ from by omega)
          · refine j_aload_n (pc := 84) dX4_climb_84 rfl rfl ?_
            refine j_getI (pc := 85) fl_X4_16 dX4_climb_85 (a_56 hX) rfl ?_
            refine j_topV (show σ5 56 2 = z4 from (tw_eq1 eσ5)) ?_
            refine j_aload_n (pc := 88) dX4_climb_88 rfl rfl ?_
            refine j_getR (pc := 89) (r := 1) fl_X4_29 dX4_climb_89 (a_56 hX) rfl ?_
            refine j_getR (pc := 92) (r := 2) fl_X4_43 dX4_climb_92 (a_1 hX) rfl ?_
            refine j_iconst (pc := 95) dX4_climb_95 ?_
            refine j_iald (pc := 96) dX4_climb_96 (a_2 hX) (by omega) (by omega) (by decide) ?_
            refine j_topV (show σ5 2 (Int.toNat 1) = σ5 2 1 from rfl) ?_
            refine j_topV (show σ5 2 1 = τ 2 1 from (tw_ne1 eσ5 (by (first | decide | omega)))) ?_
            have f45 : (1 : Int) ≤ τ 2 1 ∧ τ 2 1 ≤ 999 := hIτ 2 1
            refine j_icmpR_le (pc := 97) (tgt := 106) ⟨by omega, by omega⟩ ⟨by omega, by omega⟩ dX4_climb_97 rfl (fun h46 => ?_) (fun h46 => ?_)
            · refine j_aload_n (pc := 106) dX4_climb_106 rfl rfl ?_
              refine j_getR (pc := 107) (r := 1) fl_X4_29 dX4_climb_107 (a_56 hX) rfl ?_
              refine j_getR (pc := 110) (r := 7) fl_X4_83 dX4_climb_110 (a_1 hX) rfl ?_
              refine j_iload (pc := 113) dX4_climb_113 rfl ?_
              refine j_iald (pc := 115) dX4_climb_115 (a_7 hX) (by omega) (by omega) (by decide) ?_
              refine j_topV (show σ5 7 (h.toNat) = τ 7 (h.toNat) from (tw_ne1 eσ5 (by (first | decide | omega)))) ?_
              have f47 : (0 : Int) ≤ τ 7 (h.toNat) ∧ τ 7 (h.toNat) ≤ 1 := hIτ 7 (h.toNat)
              refine j_ifR_eq (pc := 116) (tgt := 124) ⟨by omega, by omega⟩ dX4_climb_116 rfl (fun h48 => ?_) (fun h48 => ?_)
              · refine j_iinc (pc := 124) (i := 5) (n := 1) (ls' := [(0, vR 56), (1, vR o), (3, vI b), (4, vI k), (5, vI (h + 1))]) [1, 2, 3, 4, 0] dX4_climb_124 rfl (Nat.le_of_ble_eq_true rfl) rfl rfl ?_
                refine j_goto (pc := 127) (tgt := 10) dX4_climb_127 rfl ?_
                refine j_ls (ls' := [(0, vR 56), (1, vR o), (3, vI b), (4, vI k), (5, vI (h + 1))]) [0, 1, 2, 3, 4] rfl ?_
                have y49 : σ5 56 2 = z4 := (tw_eq1 eσ5)
                have y50 : σ5 56 3 = τ 56 3 := (tw_ne1 eσ5 (by (first | decide | omega)))
                exact ih k ⟨by omega, by omega⟩ (h + 1) ⟨by omega, by omega⟩ σ5 hIσ5 hFσ5 (show a ≤ (h + 1) from by omega) (show (h + 1) ≤ b + 1 ∨ (h + 1) = a from by omega) (show ∀ gg qq : Nat → Int, RG o gg qq σ → 1 ≤ a → σ 56 2 = eff (wW 1 σ) gg (a - 1).toNat → σ 56 3 = 0 → CLI (wW 1 σ) gg 0 a (h + 1) k (σ5 56 2) (σ5 56 3) from (fun gg qq H e0 e1 e2 => by
                                                              have c := i2 gg qq H e0 e1 e2
                                                              exact CL_s (e2 := σ5 56 2) c (by omega) ⟨e0, by omega⟩ x1 (by (have y := RG_here (RT gg qq H) (by omega) c.1); rcases y with ⟨y1, y2, y3⟩ | ⟨y1, y2⟩; (first | exact Or.inl ⟨y1, rfl, he7.trans x2⟩ | (exfalso; omega)); (first | exact Or.inr ⟨y1, rfl, he7⟩ | (exfalso; omega))) (by omega) (by omega))) (show (41 - (h + 1)).toNat < N_ from by omega)
              · refine j_aload_n (pc := 119) dX4_climb_119 rfl rfl ?_
                refine j_iconst (pc := 120) dX4_climb_120 ?_
                refine j_putI (pc := 121) fl_X4_16 fp_X4_2 dX4_climb_121 (a_56 hX) rfl (j_nm (fun σ51 (eσ51 : σ51 = tw_up σ5 56 2 0) => ?_))
                have hIσ51 : tw_I σ51 := tw_I_up hIσ5 eσ51 (show (-2147483648 : Int) ≤ 0 ∧ 0 ≤ 2147483647 from by decide)
                have hFσ51 : tw_F (fun c j => (c = 56 ∧ (j = 2 ∨ j = 3))) σ σ51 := tw_F_up hFσ5 eσ51 (show (56 = 56 ∧ (2 = 2 ∨ 2 = 3)) from ⟨rfl, (Or.inl rfl)⟩)
                refine j_iinc (pc := 124) (i := 5) (n := 1) (ls' := [(0, vR 56), (1, vR o), (3, vI b), (4, vI k), (5, vI (h + 1))]) [1, 2, 3, 4, 0] dX4_climb_124 rfl (Nat.le_of_ble_eq_true rfl) rfl rfl ?_
                refine j_goto (pc := 127) (tgt := 10) dX4_climb_127 rfl ?_
                refine j_ls (ls' := [(0, vR 56), (1, vR o), (3, vI b), (4, vI k), (5, vI (h + 1))]) [0, 1, 2, 3, 4] rfl ?_
                have y52 : σ51 56 2 = 0 := (tw_eq1 eσ51)
                have y53 : σ51 56 3 = τ 56 3 := ((tw_ne1 eσ51 (by (first | decide | omega)))).trans (tw_ne1 eσ5 (by (first | decide | omega)))
                exact ih k ⟨by omega, by omega⟩ (h + 1) ⟨by omega, by omega⟩ σ51 hIσ51 hFσ51 (show a ≤ (h + 1) from by omega) (show (h + 1) ≤ b + 1 ∨ (h + 1) = a from by omega) (show ∀ gg qq : Nat → Int, RG o gg qq σ → 1 ≤ a → σ 56 2 = eff (wW 1 σ) gg (a - 1).toNat → σ 56 3 = 0 → CLI (wW 1 σ) gg 0 a (h + 1) k (σ51 56 2) (σ51 56 3) from (fun gg qq H e0 e1 e2 => by
                                                              have c := i2 gg qq H e0 e1 e2
                                                              exact CL_s (e2 := σ5 56 2) c (by omega) ⟨e0, by omega⟩ x1 (by (have y := RG_here (RT gg qq H) (by omega) c.1); rcases y with ⟨y1, y2, y3⟩ | ⟨y1, y2⟩; (first | exact Or.inl ⟨y1, rfl, he7.trans x2⟩ | (exfalso; omega)); (first | exact Or.inr ⟨y1, rfl, he7⟩ | (exfalso; omega))) (by omega) (by omega))) (show (41 - (h + 1)).toNat < N_ from by omega)
            · refine j_aload_n (pc := 100) dX4_climb_100 rfl rfl ?_
              refine j_iload (pc := 101) dX4_climb_101 rfl ?_
              refine j_putI (pc := 103) fl_X4_20 fp_X4_3 dX4_climb_103 (a_56 hX) rfl (j_nm (fun σ54 (eσ54 : σ54 = tw_up σ5 56 3 h) => ?_))
              have hIσ54 : tw_I σ54 := tw_I_up hIσ5 eσ54 (show (-2147483648 : Int) ≤ h ∧ h ≤ 2147483647 from ⟨by omega, by omega⟩)
              have hFσ54 : tw_F (fun c j => (c = 56 ∧ (j = 2 ∨ j = 3))) σ σ54 := tw_F_up hFσ5 eσ54 (show (56 = 56 ∧ (3 = 2 ∨ 3 = 3)) from ⟨rfl, (Or.inr rfl)⟩)
              refine j_aload_n (pc := 106) dX4_climb_106 rfl rfl ?_
              refine j_getR (pc := 107) (r := 1) fl_X4_29 dX4_climb_107 (a_56 hX) rfl ?_
              refine j_getR (pc := 110) (r := 7) fl_X4_83 dX4_climb_110 (a_1 hX) rfl ?_
              refine j_iload (pc := 113) dX4_climb_113 rfl ?_
              refine j_iald (pc := 115) dX4_climb_115 (a_7 hX) (by omega) (by omega) (by decide) ?_
              refine j_topV (show σ54 7 (h.toNat) = τ 7 (h.toNat) from ((tw_ne1 eσ54 (by (first | decide | omega)))).trans (tw_ne1 eσ5 (by (first | decide | omega)))) ?_
              have f55 : (0 : Int) ≤ τ 7 (h.toNat) ∧ τ 7 (h.toNat) ≤ 1 := hIτ 7 (h.toNat)
              refine j_ifR_eq (pc := 116) (tgt := 124) ⟨by omega, by omega⟩ dX4_climb_116 rfl (fun h56 => ?_) (fun h56 => ?_)
              · refine j_iinc (pc := 124) (i := 5) (n := 1) (ls' := [(0, vR 56), (1, vR o), (3, vI b), (4, vI k), (5, vI (h + 1))]) [1, 2, 3, 4, 0] dX4_climb_124 rfl (Nat.le_of_ble_eq_true rfl) rfl rfl ?_
                refine j_goto (pc := 127) (tgt := 10) dX4_climb_127 rfl ?_
                refine j_ls (ls' := [(0, vR 56), (1, vR o), (3, vI b), (4, vI k), (5, vI (h + 1))]) [0, 1, 2, 3, 4] rfl ?_
                have y57 : σ54 56 2 = z4 := ((tw_ne1 eσ54 (by (first | decide | omega)))).trans (tw_eq1 eσ5)
                have y58 : σ54 56 3 = h := (tw_eq1 eσ54)
                exact ih k ⟨by omega, by omega⟩ (h + 1) ⟨by omega, by omega⟩ σ54 hIσ54 hFσ54 (show a ≤ (h + 1) from by omega) (show (h + 1) ≤ b + 1 ∨ (h + 1) = a from by omega) (show ∀ gg qq : Nat → Int, RG o gg qq σ → 1 ≤ a → σ 56 2 = eff (wW 1 σ) gg (a - 1).toNat → σ 56 3 = 0 → CLI (wW 1 σ) gg 0 a (h + 1) k (σ54 56 2) (σ54 56 3) from (fun gg qq H e0 e1 e2 => by
                                                              have c := i2 gg qq H e0 e1 e2
                                                              exact CL_s (e2 := σ5 56 2) c (by omega) ⟨e0, by omega⟩ x1 (by (have y := RG_here (RT gg qq H) (by omega) c.1); rcases y with ⟨y1, y2, y3⟩ | ⟨y1, y2⟩; (first | exact Or.inl ⟨y1, rfl, he7.trans x2⟩ | (exfalso; omega)); (first | exact Or.inr ⟨y1, rfl, he7⟩ | (exfalso; omega))) (by omega) (by omega))) (show (41 - (h + 1)).toNat < N_ from by omega)
              · refine j_aload_n (pc := 119) dX4_climb_119 rfl rfl ?_
                refine j_iconst (pc := 120) dX4_climb_120 ?_
                refine j_putI (pc := 121) fl_X4_16 fp_X4_2 dX4_climb_121 (a_56 hX) rfl (j_nm (fun σ59 (eσ59 : σ59 = tw_up σ54 56 2 0) => ?_))
                have hIσ59 : tw_I σ59 := tw_I_up hIσ54 eσ59 (show (-2147483648 : Int) ≤ 0 ∧ 0 ≤ 2147483647 from by decide)
                have hFσ59 : tw_F (fun c j => (c = 56 ∧ (j = 2 ∨ j = 3))) σ σ59 := tw_F_up hFσ54 eσ59 (show (56 = 56 ∧ (2 = 2 ∨ 2 = 3)) from ⟨rfl, (Or.inl rfl)⟩)
                refine j_iinc (pc := 124) (i := 5) (n := 1) (ls' := [(0, vR 56), (1, vR o), (3, vI b), (4, vI k), (5, vI (h + 1))]) [1, 2, 3, 4, 0] dX4_climb_124 rfl (Nat.le_of_ble_eq_true rfl) rfl rfl ?_
                refine j_goto (pc := 127) (tgt := 10) dX4_climb_127 rfl ?_
                refine j_ls (ls' := [(0, vR 56), (1, vR o), (3, vI b), (4, vI k), (5, vI (h + 1))]) [0, 1, 2, 3, 4] rfl ?_
                have y60 : σ59 56 2 = 0 := (tw_eq1 eσ59)
                have y61 : σ59 56 3 = h := ((tw_ne1 eσ59 (by (first | decide | omega)))).trans (tw_eq1 eσ54)
                exact ih k ⟨by omega, by omega⟩ (h + 1) ⟨by omega, by omega⟩ σ59 hIσ59 hFσ59 (show a ≤ (h + 1) from by omega) (show (h + 1) ≤ b + 1 ∨ (h + 1) = a from by omega) (show ∀ gg qq : Nat → Int, RG o gg qq σ → 1 ≤ a → σ 56 2 = eff (wW 1 σ) gg (a - 1).toNat → σ 56 3 = 0 → CLI (wW 1 σ) gg 0 a (h + 1) k (σ59 56 2) (σ59 56 3) from (fun gg qq H e0 e1 e2 => by
                                                              have c := i2 gg qq H e0 e1 e2
                                                              exact CL_s (e2 := σ5 56 2) c (by omega) ⟨e0, by omega⟩ x1 (by (have y := RG_here (RT gg qq H) (by omega) c.1); rcases y with ⟨y1, y2, y3⟩ | ⟨y1, y2⟩; (first | exact Or.inl ⟨y1, rfl, he7.trans x2⟩ | (exfalso; omega)); (first | exact Or.inr ⟨y1, rfl, he7⟩ | (exfalso; omega))) (by omega) (by omega))) (show (41 - (h + 1)).toNat < N_ from by omega)
        · refine j_aload_n (pc := 56) dX4_climb_56 rfl rfl ?_
          refine j_dup (pc := 57) dX4_climb_57 rfl ?_
          refine j_getI (pc := 58) fl_X4_16 dX4_climb_58 (a_56 hX) rfl ?_
          refine j_topV (show σ5 56 2 = z4 from (tw_eq1 eσ5)) ?_
          refine j_aload_n (pc := 61) dX4_climb_61 rfl rfl ?_
          refine j_getR (pc := 62) (r := 1) fl_X4_29 dX4_climb_62 (a_56 hX) rfl ?_
          refine j_getR (pc := 65) (r := 2) fl_X4_43 dX4_climb_65 (a_1 hX) rfl ?_
          refine j_iconst (pc := 68) dX4_climb_68 ?_
          refine j_iald (pc := 69) dX4_climb_69 (a_2 hX) (by omega) (by omega) (by decide) ?_
          refine j_topV (show σ5 2 (Int.toNat 2) = σ5 2 2 from rfl) ?_
          refine j_topV (show σ5 2 2 = τ 2 2 from (tw_ne1 eσ5 (by (first | decide | omega)))) ?_
          have f62 : (0 : Int) ≤ τ 2 2 ∧ τ 2 2 ≤ 99 := hIτ 2 2
          refine j_iadd (pc := 70) dX4_climb_70 ?_
          refine j_top (fun z63 ez63 hz63 => ?_)
          have x2 := ez63; rw [← r2] at x2
          refine j_putI (pc := 71) fl_X4_16 fp_X4_2 dX4_climb_71 (a_56 hX) rfl (j_nm (fun σ64 (eσ64 : σ64 = tw_up σ5 56 2 z63) => ?_))
          have hIσ64 : tw_I σ64 := tw_I_up hIσ5 eσ64 (show (-2147483648 : Int) ≤ z63 ∧ z63 ≤ 2147483647 from ⟨by omega, by omega⟩)
          have hFσ64 : tw_F (fun c j => (c = 56 ∧ (j = 2 ∨ j = 3))) σ σ64 := tw_F_up hFσ5 eσ64 (show (56 = 56 ∧ (2 = 2 ∨ 2 = 3)) from ⟨rfl, (Or.inl rfl)⟩)
          refine j_iinc (pc := 74) (i := 4) (n := 1) (ls' := [(0, vR 56), (1, vR o), (3, vI b), (4, vI (k + 1)), (5, vI h)]) [1, 2, 3, 0, 4] dX4_climb_74 rfl (Nat.le_of_ble_eq_true rfl) rfl rfl ?_
          have he7 : σ64 56 2 = _ := (tw_eq1 eσ64)
          refine j_aload_n (pc := 77) dX4_climb_77 rfl rfl ?_
          refine j_getI (pc := 78) fl_X4_20 dX4_climb_78 (a_56 hX) rfl ?_
          refine j_topV (show σ64 56 3 = τ 56 3 from ((tw_ne1 eσ64 (by (first | decide | omega)))).trans (tw_ne1 eσ5 (by (first | decide | omega)))) ?_
          have f65 : (-2147483648 : Int) ≤ τ 56 3 ∧ τ 56 3 ≤ 2147483647 := hIτ 56 3
          refine j_ifR_ne (pc := 81) (tgt := 106) ⟨by omega, by omega⟩ dX4_climb_81 rfl (fun h66 => ?_) (fun h66 => ?_)
          · refine j_aload_n (pc := 106) dX4_climb_106 rfl rfl ?_
            refine j_getR (pc := 107) (r := 1) fl_X4_29 dX4_climb_107 (a_56 hX) rfl ?_
            refine j_getR (pc := 110) (r := 7) fl_X4_83 dX4_climb_110 (a_1 hX) rfl ?_
            refine j_iload (pc := 113) dX4_climb_113 rfl ?_
            refine j_iald (pc := 115) dX4_climb_115 (a_7 hX) (by omega) (by omega) (by decide) ?_
            refine j_topV (show σ64 7 (h.toNat) = τ 7 (h.toNat) from ((tw_ne1 eσ64 (by (first | decide | omega)))).trans (tw_ne1 eσ5 (by (first | decide | omega)))) ?_
            have f67 : (0 : Int) ≤ τ 7 (h.toNat) ∧ τ 7 (h.toNat) ≤ 1 := hIτ 7 (h.toNat)
            refine j_ifR_eq (pc := 116) (tgt := 124) ⟨by omega, by omega⟩ dX4_climb_116 rfl (fun h68 => ?_) (fun h68 => ?_)
            · refine j_iinc (pc := 124) (i := 5) (n := 1) (ls' := [(0, vR 56), (1, vR o), (3, vI b), (4, vI (k + 1)), (5, vI (h + 1))]) [1, 2, 3, 4, 0] dX4_climb_124 rfl (Nat.le_of_ble_eq_true rfl) rfl rfl ?_
              refine j_goto (pc := 127) (tgt := 10) dX4_climb_127 rfl ?_
              refine j_ls (ls' := [(0, vR 56), (1, vR o), (3, vI b), (4, vI (k + 1)), (5, vI (h + 1))]) [0, 1, 2, 3, 4] rfl ?_
              have y69 : σ64 56 2 = z63 := (tw_eq1 eσ64)
              have y70 : σ64 56 3 = τ 56 3 := ((tw_ne1 eσ64 (by (first | decide | omega)))).trans (tw_ne1 eσ5 (by (first | decide | omega)))
              exact ih (k + 1) ⟨by omega, by omega⟩ (h + 1) ⟨by omega, by omega⟩ σ64 hIσ64 hFσ64 (show a ≤ (h + 1) from by omega) (show (h + 1) ≤ b + 1 ∨ (h + 1) = a from by omega) (show ∀ gg qq : Nat → Int, RG o gg qq σ → 1 ≤ a → σ 56 2 = eff (wW 1 σ) gg (a - 1).toNat → σ 56 3 = 0 → CLI (wW 1 σ) gg 0 a (h + 1) (k + 1) (σ64 56 2) (σ64 56 3) from (fun gg qq H e0 e1 e2 => by
                                                              have c := i2 gg qq H e0 e1 e2
                                                              exact CL_s (e2 := σ64 56 2) c (by omega) ⟨e0, by omega⟩ x1 (by (have y := RG_here (RT gg qq H) (by omega) c.1); rcases y with ⟨y1, y2, y3⟩ | ⟨y1, y2⟩; (first | exact Or.inl ⟨y1, rfl, he7.trans x2⟩ | (exfalso; omega)); (first | exact Or.inr ⟨y1, rfl, he7⟩ | (exfalso; omega))) (by omega) (by omega))) (show (41 - (h + 1)).toNat < N_ from by omega)
            · refine j_aload_n (pc := 119) dX4_climb_119 rfl rfl ?_
              refine j_iconst (pc := 120) dX4_climb_120 ?_
              refine j_putI (pc := 121) fl_X4_16 fp_X4_2 dX4_climb_121 (a_56 hX) rfl (j_nm (fun σ71 (eσ71 : σ71 = tw_up σ64 56 2 0) => ?_))
              have hIσ71 : tw_I σ71 := tw_I_up hIσ64 eσ71 (show (-2147483648 : Int) ≤ 0 ∧ 0 ≤ 2147483647 from by decide)
              have hFσ71 : tw_F (fun c j => (c = 56 ∧ (j = 2 ∨ j = 3))) σ σ71 := tw_F_up hFσ64 eσ71 (show (56 = 56 ∧ (2 = 2 ∨ 2 = 3)) from ⟨rfl, (Or.inl rfl)⟩)
              refine j_iinc (pc := 124) (i := 5) (n := 1) (ls' := [(0, vR 56), (1, vR o), (3, vI b), (4, vI (k + 1)), (5, vI (h + 1))]) [1, 2, 3, 4, 0] dX4_climb_124 rfl (Nat.le_of_ble_eq_true rfl) rfl rfl ?_
              refine j_goto (pc := 127) (tgt := 10) dX4_climb_127 rfl ?_
              refine j_ls (ls' := [(0, vR 56), (1, vR o), (3, vI b), (4, vI (k + 1)), (5, vI (h + 1))]) [0, 1, 2, 3, 4] rfl ?_
              have y72 : σ71 56 2 = 0 := (tw_eq1 eσ71)
              have y73 : σ71 56 3 = τ 56 3 := (((tw_ne1 eσ71 (by (first | decide | omega)))).trans (tw_ne1 eσ64 (by (first | decide | omega)))).trans (tw_ne1 eσ5 (by (first | decide | omega)))
              exact ih (k + 1) ⟨by omega, by omega⟩ (h + 1) ⟨by omega, by omega⟩ σ71 hIσ71 hFσ71 (show a ≤ (h + 1) from by omega) (show (h + 1) ≤ b + 1 ∨ (h + 1) = a from by omega) (show ∀ gg qq : Nat → Int, RG o gg qq σ → 1 ≤ a → σ 56 2 = eff (wW 1 σ) gg (a - 1).toNat → σ 56 3 = 0 → CLI (wW 1 σ) gg 0 a (h + 1) (k + 1) (σ71 56 2) (σ71 56 3) from (fun gg qq H e0 e1 e2 => by
                                                              have c := i2 gg qq H e0 e1 e2
                                                              exact CL_s (e2 := σ64 56 2) c (by omega) ⟨e0, by omega⟩ x1 (by (have y := RG_here (RT gg qq H) (by omega) c.1); rcases y with ⟨y1, y2, y3⟩ | ⟨y1, y2⟩; (first | exact Or.inl ⟨y1, rfl, he7.trans x2⟩ | (exfalso; omega)); (first | exact Or.inr ⟨y1, rfl, he7⟩ | (exfalso; omega))) (by omega) (by omega))) (show (41 - (h + 1)).toNat < N_ from by omega)
          · refine j_aload_n (pc := 84) dX4_climb_84 rfl rfl ?_
            refine j_getI (pc := 85) fl_X4_16 dX4_climb_85 (a_56 hX) rfl ?_
            refine j_topV (show σ64 56 2 = z63 from (tw_eq1 eσ64)) ?_
            refine j_aload_n (pc := 88) dX4_climb_88 rfl rfl ?_
            refine j_getR (pc := 89) (r := 1) fl_X4_29 dX4_climb_89 (a_56 hX) rfl ?_
            refine j_getR (pc := 92) (r := 2) fl_X4_43 dX4_climb_92 (a_1 hX) rfl ?_
            refine j_iconst (pc := 95) dX4_climb_95 ?_
            refine j_iald (pc := 96) dX4_climb_96 (a_2 hX) (by omega) (by omega) (by decide) ?_
            refine j_topV (show σ64 2 (Int.toNat 1) = σ64 2 1 from rfl) ?_
            refine j_topV (show σ64 2 1 = τ 2 1 from ((tw_ne1 eσ64 (by (first | decide | omega)))).trans (tw_ne1 eσ5 (by (first | decide | omega)))) ?_
            have f74 : (1 : Int) ≤ τ 2 1 ∧ τ 2 1 ≤ 999 := hIτ 2 1
            refine j_icmpR_le (pc := 97) (tgt := 106) ⟨by omega, by omega⟩ ⟨by omega, by omega⟩ dX4_climb_97 rfl (fun h75 => ?_) (fun h75 => ?_)
            · refine j_aload_n (pc := 106) dX4_climb_106 rfl rfl ?_
              refine j_getR (pc := 107) (r := 1) fl_X4_29 dX4_climb_107 (a_56 hX) rfl ?_
              refine j_getR (pc := 110) (r := 7) fl_X4_83 dX4_climb_110 (a_1 hX) rfl ?_
              refine j_iload (pc := 113) dX4_climb_113 rfl ?_
              refine j_iald (pc := 115) dX4_climb_115 (a_7 hX) (by omega) (by omega) (by decide) ?_
              refine j_topV (show σ64 7 (h.toNat) = τ 7 (h.toNat) from ((tw_ne1 eσ64 (by (first | decide | omega)))).trans (tw_ne1 eσ5 (by (first | decide | omega)))) ?_
              have f76 : (0 : Int) ≤ τ 7 (h.toNat) ∧ τ 7 (h.toNat) ≤ 1 := hIτ 7 (h.toNat)
              refine j_ifR_eq (pc := 116) (tgt := 124) ⟨by omega, by omega⟩ dX4_climb_116 rfl (fun h77 => ?_) (fun h77 => ?_)
              · refine j_iinc (pc := 124) (i := 5) (n := 1) (ls' := [(0, vR 56), (1, vR o), (3, vI b), (4, vI (k + 1)), (5, vI (h + 1))]) [1, 2, 3, 4, 0] dX4_climb_124 rfl (Nat.le_of_ble_eq_true rfl) rfl rfl ?_
                refine j_goto (pc := 127) (tgt := 10) dX4_climb_127 rfl ?_
                refine j_ls (ls' := [(0, vR 56), (1, vR o), (3, vI b), (4, vI (k + 1)), (5, vI (h + 1))]) [0, 1, 2, 3, 4] rfl ?_
                have y78 : σ64 56 2 = z63 := (tw_eq1 eσ64)
                have y79 : σ64 56 3 = τ 56 3 := ((tw_ne1 eσ64 (by (first | decide | omega)))).trans (tw_ne1 eσ5 (by (first | decide | omega)))
                exact ih (k + 1) ⟨by omega, by omega⟩ (h + 1) ⟨by omega, by omega⟩ σ64 hIσ64 hFσ64 (show a ≤ (h + 1) from by omega) (show (h + 1) ≤ b + 1 ∨ (h + 1) = a from by omega) (show ∀ gg qq : Nat → Int, RG o gg qq σ → 1 ≤ a → σ 56 2 = eff (wW 1 σ) gg (a - 1).toNat → σ 56 3 = 0 → CLI (wW 1 σ) gg 0 a (h + 1) (k + 1) (σ64 56 2) (σ64 56 3) from (fun gg qq H e0 e1 e2 => by
                                                              have c := i2 gg qq H e0 e1 e2
                                                              exact CL_s (e2 := σ64 56 2) c (by omega) ⟨e0, by omega⟩ x1 (by (have y := RG_here (RT gg qq H) (by omega) c.1); rcases y with ⟨y1, y2, y3⟩ | ⟨y1, y2⟩; (first | exact Or.inl ⟨y1, rfl, he7.trans x2⟩ | (exfalso; omega)); (first | exact Or.inr ⟨y1, rfl, he7⟩ | (exfalso; omega))) (by omega) (by omega))) (show (41 - (h + 1)).toNat < N_ from by omega)
              · refine j_aload_n (pc := 119) dX4_climb_119 rfl rfl ?_
                refine j_iconst (pc := 120) dX4_climb_120 ?_
                refine j_putI (pc := 121) fl_X4_16 fp_X4_2 dX4_climb_121 (a_56 hX) rfl (j_nm (fun σ80 (eσ80 : σ80 = tw_up σ64 56 2 0) => ?_))
                have hIσ80 : tw_I σ80 := tw_I_up hIσ64 eσ80 (show (-2147483648 : Int) ≤ 0 ∧ 0 ≤ 2147483647 from by decide)
                have hFσ80 : tw_F (fun c j => (c = 56 ∧ (j = 2 ∨ j = 3))) σ σ80 := tw_F_up hFσ64 eσ80 (show (56 = 56 ∧ (2 = 2 ∨ 2 = 3)) from ⟨rfl, (Or.inl rfl)⟩)
                refine j_iinc (pc := 124) (i := 5) (n := 1) (ls' := [(0, vR 56), (1, vR o), (3, vI b), (4, vI (k + 1)), (5, vI (h + 1))]) [1, 2, 3, 4, 0] dX4_climb_124 rfl (Nat.le_of_ble_eq_true rfl) rfl rfl ?_
                refine j_goto (pc := 127) (tgt := 10) dX4_climb_127 rfl ?_
                refine j_ls (ls' := [(0, vR 56), (1, vR o), (3, vI b), (4, vI (k + 1)), (5, vI (h + 1))]) [0, 1, 2, 3, 4] rfl ?_
                have y81 : σ80 56 2 = 0 := (tw_eq1 eσ80)
                have y82 : σ80 56 3 = τ 56 3 := (((tw_ne1 eσ80 (by (first | decide | omega)))).trans (tw_ne1 eσ64 (by (first | decide | omega)))).trans (tw_ne1 eσ5 (by (first | decide | omega)))
                exact ih (k + 1) ⟨by omega, by omega⟩ (h + 1) ⟨by omega, by omega⟩ σ80 hIσ80 hFσ80 (show a ≤ (h + 1) from by omega) (show (h + 1) ≤ b + 1 ∨ (h + 1) = a from by omega) (show ∀ gg qq : Nat → Int, RG o gg qq σ → 1 ≤ a → σ 56 2 = eff (wW 1 σ) gg (a - 1).toNat → σ 56 3 = 0 → CLI (wW 1 σ) gg 0 a (h + 1) (k + 1) (σ80 56 2) (σ80 56 3) from (fun gg qq H e0 e1 e2 => by
                                                              have c := i2 gg qq H e0 e1 e2
                                                              exact CL_s (e2 := σ64 56 2) c (by omega) ⟨e0, by omega⟩ x1 (by (have y := RG_here (RT gg qq H) (by omega) c.1); rcases y with ⟨y1, y2, y3⟩ | ⟨y1, y2⟩; (first | exact Or.inl ⟨y1, rfl, he7.trans x2⟩ | (exfalso; omega)); (first | exact Or.inr ⟨y1, rfl, he7⟩ | (exfalso; omega))) (by omega) (by omega))) (show (41 - (h + 1)).toNat < N_ from by omega)
            · refine j_aload_n (pc := 100) dX4_climb_100 rfl rfl ?_
              refine j_iload (pc := 101) dX4_climb_101 rfl ?_
              refine j_putI (pc := 103) fl_X4_20 fp_X4_3 dX4_climb_103 (a_56 hX) rfl (j_nm (fun σ83 (eσ83 : σ83 = tw_up σ64 56 3 h) => ?_))
              have hIσ83 : tw_I σ83 := tw_I_up hIσ64 eσ83 (show (-2147483648 : Int) ≤ h ∧ h ≤ 2147483647 from ⟨by omega, by omega⟩)
              have hFσ83 : tw_F (fun c j => (c = 56 ∧ (j = 2 ∨ j = 3))) σ σ83 := tw_F_up hFσ64 eσ83 (show (56 = 56 ∧ (3 = 2 ∨ 3 = 3)) from ⟨rfl, (Or.inr rfl)⟩)
              refine j_aload_n (pc := 106) dX4_climb_106 rfl rfl ?_
              refine j_getR (pc := 107) (r := 1) fl_X4_29 dX4_climb_107 (a_56 hX) rfl ?_
              refine j_getR (pc := 110) (r := 7) fl_X4_83 dX4_climb_110 (a_1 hX) rfl ?_
              refine j_iload (pc := 113) dX4_climb_113 rfl ?_
              refine j_iald (pc := 115) dX4_climb_115 (a_7 hX) (by omega) (by omega) (by decide) ?_
              refine j_topV (show σ83 7 (h.toNat) = τ 7 (h.toNat) from (((tw_ne1 eσ83 (by (first | decide | omega)))).trans (tw_ne1 eσ64 (by (first | decide | omega)))).trans (tw_ne1 eσ5 (by (first | decide | omega)))) ?_
              have f84 : (0 : Int) ≤ τ 7 (h.toNat) ∧ τ 7 (h.toNat) ≤ 1 := hIτ 7 (h.toNat)
              refine j_ifR_eq (pc := 116) (tgt := 124) ⟨by omega, by omega⟩ dX4_climb_116 rfl (fun h85 => ?_) (fun h85 => ?_)
              · refine j_iinc (pc := 124) (i := 5) (n := 1) (ls' := [(0, vR 56), (1, vR o), (3, vI b), (4, vI (k + 1)), (5, vI (h + 1))]) [1, 2, 3, 4, 0] dX4_climb_124 rfl (Nat.le_of_ble_eq_true rfl) rfl rfl ?_
                refine j_goto (pc := 127) (tgt := 10) dX4_climb_127 rfl ?_
                refine j_ls (ls' := [(0, vR 56), (1, vR o), (3, vI b), (4, vI (k + 1)), (5, vI (h + 1))]) [0, 1, 2, 3, 4] rfl ?_
                have y86 : σ83 56 2 = z63 := ((tw_ne1 eσ83 (by (first | decide | omega)))).trans (tw_eq1 eσ64)
                have y87 : σ83 56 3 = h := (tw_eq1 eσ83)
                exact ih (k + 1) ⟨by omega, by omega⟩ (h + 1) ⟨by omega, by omega⟩ σ83 hIσ83 hFσ83 (show a ≤ (h + 1) from by omega) (show (h + 1) ≤ b + 1 ∨ (h + 1) = a from by omega) (show ∀ gg qq : Nat → Int, RG o gg qq σ → 1 ≤ a → σ 56 2 = eff (wW 1 σ) gg (a - 1).toNat → σ 56 3 = 0 → CLI (wW 1 σ) gg 0 a (h + 1) (k + 1) (σ83 56 2) (σ83 56 3) from (fun gg qq H e0 e1 e2 => by
                                                              have c := i2 gg qq H e0 e1 e2
                                                              exact CL_s (e2 := σ64 56 2) c (by omega) ⟨e0, by omega⟩ x1 (by (have y := RG_here (RT gg qq H) (by omega) c.1); rcases y with ⟨y1, y2, y3⟩ | ⟨y1, y2⟩; (first | exact Or.inl ⟨y1, rfl, he7.trans x2⟩ | (exfalso; omega)); (first | exact Or.inr ⟨y1, rfl, he7⟩ | (exfalso; omega))) (by omega) (by omega))) (show (41 - (h + 1)).toNat < N_ from by omega)
              · refine j_aload_n (pc := 119) dX4_climb_119 rfl rfl ?_
                refine j_iconst (pc := 120) dX4_climb_120 ?_
                refine j_putI (pc := 121) fl_X4_16 fp_X4_2 dX4_climb_121 (a_56 hX) rfl (j_nm (fun σ88 (eσ88 : σ88 = tw_up σ83 56 2 0) => ?_))
                have hIσ88 : tw_I σ88 := tw_I_up hIσ83 eσ88 (show (-2147483648 : Int) ≤ 0 ∧ 0 ≤ 2147483647 from by decide)
                have hFσ88 : tw_F (fun c j => (c = 56 ∧ (j = 2 ∨ j = 3))) σ σ88 := tw_F_up hFσ83 eσ88 (show (56 = 56 ∧ (2 = 2 ∨ 2 = 3)) from ⟨rfl, (Or.inl rfl)⟩)
                refine j_iinc (pc := 124) (i := 5) (n := 1) (ls' := [(0, vR 56), (1, vR o), (3, vI b), (4, vI (k + 1)), (5, vI (h + 1))]) [1, 2, 3, 4, 0] dX4_climb_124 rfl (Nat.le_of_ble_eq_true rfl) rfl rfl ?_
                refine j_goto (pc := 127) (tgt := 10) dX4_climb_127 rfl ?_
                refine j_ls (ls' := [(0, vR 56), (1, vR o), (3, vI b), (4, vI (k + 1)), (5, vI (h + 1))]) [0, 1, 2, 3, 4] rfl ?_
                have y89 : σ88 56 2 = 0 := (tw_eq1 eσ88)
                have y90 : σ88 56 3 = h := ((tw_ne1 eσ88 (by (first | decide | omega)))).trans (tw_eq1 eσ83)
                exact ih (k + 1) ⟨by omega, by omega⟩ (h + 1) ⟨by omega, by omega⟩ σ88 hIσ88 hFσ88 (show a ≤ (h + 1) from by omega) (show (h + 1) ≤ b + 1 ∨ (h + 1) = a from by omega) (show ∀ gg qq : Nat → Int, RG o gg qq σ → 1 ≤ a → σ 56 2 = eff (wW 1 σ) gg (a - 1).toNat → σ 56 3 = 0 → CLI (wW 1 σ) gg 0 a (h + 1) (k + 1) (σ88 56 2) (σ88 56 3) from (fun gg qq H e0 e1 e2 => by
                                                              have c := i2 gg qq H e0 e1 e2
                                                              exact CL_s (e2 := σ64 56 2) c (by omega) ⟨e0, by omega⟩ x1 (by (have y := RG_here (RT gg qq H) (by omega) c.1); rcases y with ⟨y1, y2, y3⟩ | ⟨y1, y2⟩; (first | exact Or.inl ⟨y1, rfl, he7.trans x2⟩ | (exfalso; omega)); (first | exact Or.inr ⟨y1, rfl, he7⟩ | (exfalso; omega))) (by omega) (by omega))) (show (41 - (h + 1)).toNat < N_ from by omega)
set_option maxHeartbeats 4000000 in
set_option maxRecDepth 100000 in
theorem c_X4_climb {G : tw_G} (hX : tw_isX G) (o : Nat) (ho : IsRow G o) (a : Int) (ha : 0 ≤ a ∧ a ≤ 41) (b : Int) (hb : -1 ≤ b ∧ b ≤ 40) (σ : tw_M) (hI : tw_I σ) (hq0 : o + 4 ≤ 56 ∨ 57 < o) : tw_C G yX4_climb cX4_climb 6 none 1 [vR 56, vR o, vI a, vI b] σ (q_X4_climb o a b σ) := by
  refine tw_met [(0, vR 56), (1, vR o), (2, vI a), (3, vI b)] (by decide +kernel) rfl (Nat.le_of_ble_eq_true rfl) ?_
  refine j_aload_n (pc := 0) dX4_climb_0 rfl rfl ?_
  refine j_iload_n (pc := 1) dX4_climb_1 rfl rfl ?_
  refine j_callV (pc := 2) (As := [vI a]) (st := []) (c_X7_firstFrom o ho a ⟨by omega, by omega⟩ σ hI) mv_X4_71 rfl rfl rfl ho.1.1 dX4_climb_2 ⟨Nat.le_of_ble_eq_true rfl, Nat.le_of_ble_eq_true rfl⟩ ⟨Nat.le_refl _, Nat.le_refl _⟩ rfl (Nat.le_of_ble_eq_true rfl) rfl (fun z91 σ92 hz91 => ?_)
  obtain ⟨r94, rfl, hr94, rfl, q93_0⟩ := hz91
  replace q93_0 : ∀ gg qq : Nat → Int, RG o gg qq σ → 1 ≤ a → r94 = cnt gg (a - 1).toNat := q93_0
  refine j_st (st' := [vI r94]) rfl ?_
  refine j_istore (pc := 5) (i := 4) (ls' := [(0, vR 56), (1, vR o), (2, vI a), (3, vI b), (4, vI r94)]) [1, 2, 3, 4, 0] dX4_climb_5 (Nat.le_of_ble_eq_true rfl) rfl rfl ?_
  refine j_iload_n (pc := 7) dX4_climb_7 rfl rfl ?_
  refine j_istore (pc := 8) (i := 5) (ls' := [(0, vR 56), (1, vR o), (3, vI b), (4, vI r94), (5, vI a)]) [1, 2, 4, 5, 0] dX4_climb_8 (Nat.le_of_ble_eq_true rfl) rfl rfl ?_
  refine j_ls (ls' := [(0, vR 56), (1, vR o), (3, vI b), (4, vI r94), (5, vI a)]) [0, 1, 2, 3, 4] rfl ?_
  exact (l_X4_climb hX o ho a ha b hb σ hI hq0 (((41 - a).toNat) + 1)) r94 ⟨by omega, by omega⟩ a ⟨by omega, by omega⟩ σ hI (tw_F_rf) (show a ≤ a from by omega) (show a ≤ b + 1 ∨ a = a from by omega) (show ∀ gg qq : Nat → Int, RG o gg qq σ → 1 ≤ a → σ 56 2 = eff (wW 1 σ) gg (a - 1).toNat → σ 56 3 = 0 → CLI (wW 1 σ) gg 0 a a r94 (σ 56 2) (σ 56 3) from (fun gg qq H e0 e1 e2 => CL_0 (q93_0 gg qq H e0) e1 e2)) (Nat.lt_succ_self _)
abbrev q_X4_climbAll (o : Nat) (σ : tw_M) : Option tw_V → tw_M → Prop := fun z τ => z = none ∧ tw_I τ ∧ tw_F (fun c j => (c = 56 ∧ (j = 2 ∨ j = 3))) σ τ ∧ (∀ gg qq : Nat → Int, RG o gg qq σ → τ 56 2 = eff (wW 1 σ) gg (σ 2 0).toNat ∧ TMs (wW 1 σ) gg 0 1 (σ 2 0 + 1) (τ 56 3))
set_option maxHeartbeats 4000000 in
set_option maxRecDepth 100000 in
theorem c_X4_climbAll {G : tw_G} (hX : tw_isX G) (o : Nat) (ho : IsRow G o) (σ : tw_M) (hI : tw_I σ) (hq0 : o + 4 ≤ 56 ∨ 57 < o) : tw_C G yX4_climbAll cX4_climbAll 2 none 2 [vR 56, vR o] σ (q_X4_climbAll o σ) := by
  refine tw_met [(0, vR 56), (1, vR o)] (by decide +kernel) rfl (Nat.le_of_ble_eq_true rfl) ?_
  refine j_aload_n (pc := 0) dX4_climbAll_0 rfl rfl ?_
  refine j_iconst (pc := 1) dX4_climbAll_1 ?_
  refine j_callV (pc := 2) (As := [vI 0]) (st := []) (c_X4_begin hX 0 (by (first | decide | exact ⟨by omega, by omega⟩)) σ hI) mv_X4_63 rfl rfl rfl (a_56 hX) dX4_climbAll_2 ⟨Nat.le_of_ble_eq_true rfl, Nat.le_of_ble_eq_true rfl⟩ ⟨Nat.le_refl _, Nat.le_refl _⟩ rfl (Nat.le_of_ble_eq_true rfl) rfl (fun z1 σ2 hz1 => ?_)
  obtain ⟨rfl, hIσ2, hGσ2, q3_0, q3_1⟩ := hz1
  replace q3_0 : σ2 56 2 = (0 : Int) := q3_0
  replace q3_1 : σ2 56 3 = 0 := q3_1
  have hFσ2 : tw_F (fun c j => (c = 56 ∧ (j = 2 ∨ j = 3))) σ σ2 := tw_F_tr (tw_F_rf) hGσ2 (fun c j q => (show (c = 56 ∧ (j = 2 ∨ j = 3)) from by replace q : (c = 56 ∧ (j = 2 ∨ j = 3)) := q; exact q))
  refine j_st (st' := []) rfl ?_
  refine j_aload_n (pc := 5) dX4_climbAll_5 rfl rfl ?_
  refine j_aload_n (pc := 6) dX4_climbAll_6 rfl rfl ?_
  refine j_iconst (pc := 7) dX4_climbAll_7 ?_
  refine j_aload_n (pc := 8) dX4_climbAll_8 rfl rfl ?_
  refine j_getR (pc := 9) (r := 1) fl_X4_29 dX4_climbAll_9 (a_56 hX) rfl ?_
  refine j_callV (pc := 12) (As := []) (st := [vI 1, vR o, vR 56]) (c_X10_top 1 (s_Wall_1 hX) σ2 hIσ2) mv_X4_33 rfl rfl rfl (a_1 hX) dX4_climbAll_12 ⟨Nat.le_of_ble_eq_true rfl, Nat.le_of_ble_eq_true rfl⟩ ⟨Nat.le_refl _, Nat.le_refl _⟩ rfl (Nat.le_of_ble_eq_true rfl) rfl (fun z5 σ6 hz5 => ?_)
  obtain ⟨r8, rfl, hr8, rfl, q7_0⟩ := hz5
  replace q7_0 : r8 = σ2 2 0 := q7_0
  have y9 : σ2 2 0 = σ 2 0 := (hGσ2 2 0 (show ¬ ((2 = 56 ∧ (0 = 2 ∨ 0 = 3))) from by decide))
  have f10 : (1 : Int) ≤ σ 2 0 ∧ σ 2 0 ≤ 40 := hI 2 0
  refine j_st (st' := [vI r8, vI 1, vR o, vR 56]) rfl ?_
  refine j_callV (pc := 15) (As := [vR o, vI 1, vI r8]) (st := []) (c_X4_climb hX o ho 1 (by (first | decide | exact ⟨by omega, by omega⟩)) r8 ⟨by omega, by omega⟩ σ2 hIσ2 (by omega)) mv_X4_67 rfl rfl rfl (a_56 hX) dX4_climbAll_15 ⟨Nat.le_of_ble_eq_true rfl, Nat.le_of_ble_eq_true rfl⟩ ⟨Nat.le_refl _, Nat.le_refl _⟩ rfl (Nat.le_of_ble_eq_true rfl) rfl (fun z11 σ12 hz11 => ?_)
  obtain ⟨rfl, hIσ12, hGσ12, q13_0⟩ := hz11
  replace q13_0 : ∀ gg qq : Nat → Int, RG o gg qq σ2 → 1 ≤ (1 : Int) → (1 : Int) ≤ r8 + 1 → σ2 56 2 = eff (wW 1 σ2) gg ((1 : Int) - 1).toNat → σ2 56 3 = 0 → σ12 56 2 = eff (wW 1 σ2) gg r8.toNat ∧ TMs (wW 1 σ2) gg 0 (1 : Int) (r8 + 1) (σ12 56 3) := q13_0
  have hFσ12 : tw_F (fun c j => (c = 56 ∧ (j = 2 ∨ j = 3))) σ σ12 := tw_F_tr hFσ2 hGσ12 (fun c j q => (show (c = 56 ∧ (j = 2 ∨ j = 3)) from by replace q : (c = 56 ∧ (j = 2 ∨ j = 3)) := q; exact q))
  refine j_st (st' := []) rfl ?_
  exact j_vret (pc := 18) ⟨rfl, rfl⟩ dX4_climbAll_18 rfl ⟨rfl, hIσ12, hFσ12, (fun gg qq H => by
                                                              have W9 : wW 1 σ2 = wW 1 σ := wW_F (fun c j a b => hGσ2 c j (show ¬ ((c = 56 ∧ (j = 2 ∨ j = 3))) from by omega))
                                                              have e := q13_0 gg qq (RG_F H (fun c j a b => hGσ2 c j (show ¬ ((c = 56 ∧ (j = 2 ∨ j = 3))) from by omega))) (by omega) (by omega) ((q3_0).trans rfl) q3_1
                                                              rw [q7_0, hGσ2 2 0 (show ¬ ((2 = 56 ∧ (0 = 2 ∨ 0 = 3))) from by decide), W9] at e
                                                              exact e)⟩
abbrev q_X4_findWorst (o : Nat) (σ : tw_M) : Option tw_V → tw_M → Prop := fun z τ => z = none ∧ tw_I τ ∧ tw_F (fun c j => c = 57 ∨ (c = 56 ∧ (j = 4 ∨ j = 5))) σ τ ∧ True
set_option maxHeartbeats 4000000 in
set_option maxRecDepth 100000 in
theorem l_X4_findWorst {G : tw_G} (hX : tw_isX G) (o : Nat) (ho : IsRow G o) (σ : tw_M) (hI : tw_I σ) (hq0 : o + 4 ≤ 56 ∨ 57 < o) : ∀ N_ : Nat, (∀ (h : Int) (hh : 1 ≤ h ∧ h ≤ 41) (τ : tw_M) (hIτ : tw_I τ) (hFτ : tw_F (fun c j => c = 57 ∨ (c = 56 ∧ (j = 4 ∨ j = 5))) σ τ)  (hm : (41 - h).toNat < N_), tw_J G (tw_mt RX4 cX4_findWorst 3 none 2) (tw_E G (q_X4_findWorst o σ)) 12 [(0, vR 56), (1, vR o), (2, vI h)] [] τ) := by
  intro N_
  induction N_ with
  | zero => exact fun h hh τ hIτ hFτ hm => absurd hm (Nat.not_lt_zero _)
  | succ N_ ih =>
    intro h hh τ hIτ hFτ hm
    refine j_iload_n (pc := 12) dX4_findWorst_12 rfl rfl ?_
    refine j_aload_n (pc := 13) dX4_findWorst_13 rfl rfl ?_
    refine j_getR (pc := 14) (r := 1) fl_X4_29 dX4_findWorst_14 (a_56 hX) rfl ?_
    refine j_callV (pc := 17) (As := []) (st := [vI h]) (c_X10_top 1 (s_Wall_1 hX) τ hIτ) mv_X4_33 rfl rfl rfl (a_1 hX) dX4_findWorst_17 ⟨Nat.le_of_ble_eq_true rfl, Nat.le_of_ble_eq_true rfl⟩ ⟨Nat.le_refl _, Nat.le_refl _⟩ rfl (Nat.le_of_ble_eq_true rfl) rfl (fun z1 σ2 hz1 => ?_)
    obtain ⟨r4, rfl, hr4, rfl, q3_0⟩ := hz1
    replace q3_0 : r4 = τ 2 0 := q3_0
    refine j_st (st' := [vI r4, vI h]) rfl ?_
    refine j_icmpR_gt (pc := 20) (tgt := 76) ⟨by omega, by omega⟩ ⟨by omega, by omega⟩ dX4_findWorst_20 rfl (fun h5 => ?_) (fun h5 => ?_)
    · exact j_vret (pc := 76) ⟨rfl, rfl⟩ dX4_findWorst_76 rfl ⟨rfl, hIτ, hFτ, trivial⟩
    · refine j_aload_n (pc := 23) dX4_findWorst_23 rfl rfl ?_
      refine j_getR (pc := 24) (r := 57) fl_X4_10 dX4_findWorst_24 (a_56 hX) rfl ?_
      refine j_aload_n (pc := 27) dX4_findWorst_27 rfl rfl ?_
      refine j_getR (pc := 28) (r := 1) fl_X4_29 dX4_findWorst_28 (a_56 hX) rfl ?_
      refine j_aload_n (pc := 31) dX4_findWorst_31 rfl rfl ?_
      refine j_iload_n (pc := 32) dX4_findWorst_32 rfl rfl ?_
      refine j_aload_n (pc := 33) dX4_findWorst_33 rfl rfl ?_
      refine j_callV (pc := 34) (As := []) (st := [vI h, vR o, vR 1, vR 57]) (c_X7_all o ho τ hIτ) mv_X4_86 rfl rfl rfl ho.1.1 dX4_findWorst_34 ⟨Nat.le_of_ble_eq_true rfl, Nat.le_of_ble_eq_true rfl⟩ ⟨Nat.le_refl _, Nat.le_refl _⟩ rfl (Nat.le_of_ble_eq_true rfl) rfl (fun z6 σ7 hz6 => ?_)
      obtain ⟨r9, rfl, hr9, rfl, q8_0⟩ := hz6
      replace q8_0 : r9 = pt (τ o 0) - 1 := q8_0
      refine j_st (st' := [vI r9, vI h, vR o, vR 1, vR 57]) rfl ?_
      refine j_callV (pc := 37) (As := [vR 1, vR o, vI h, vI r9]) (st := []) (c_X2_from 57 (s_Fall_57 hX) 1 (s_Wall_1 hX) o ho h ⟨by omega, by omega⟩ r9 ⟨by omega, by omega⟩ τ hIτ (by omega) (by omega)) mv_X4_53 rfl rfl rfl (a_57 hX) dX4_findWorst_37 ⟨Nat.le_of_ble_eq_true rfl, Nat.le_of_ble_eq_true rfl⟩ ⟨Nat.le_refl _, Nat.le_refl _⟩ rfl (Nat.le_of_ble_eq_true rfl) rfl (fun z10 σ11 hz10 => ?_)
      obtain ⟨rfl, hIσ11, hGσ11, q12_0, q12_1, q12_2, q12_3⟩ := hz10
      replace q12_0 : ∀ gg qq : Nat → Int, RG o gg qq τ → (σ11 57 0, σ11 57 1, σ11 57 2, σ11 57 3) = fallG (wW 1 τ) gg h r9 h.toNat 0 := q12_0
      replace q12_1 : σ11 57 4 = strS (wW 1 τ) h (σ11 57 0) := q12_1
      replace q12_2 : σ11 57 5 = harS (wW 1 τ) h (σ11 57 0) := q12_2
      replace q12_3 : -40 ≤ σ11 57 5 ∧ σ11 57 5 ≤ 40 := q12_3
      have hFσ11 : tw_F (fun c j => c = 57 ∨ (c = 56 ∧ (j = 4 ∨ j = 5))) σ σ11 := tw_F_tr hFτ hGσ11 (fun c j q => (show c = 57 ∨ (c = 56 ∧ (j = 4 ∨ j = 5)) from by replace q : c = 57 := q; exact (Or.inl q)))
      refine j_st (st' := []) rfl ?_
      refine j_aload_n (pc := 40) dX4_findWorst_40 rfl rfl ?_
      refine j_getR (pc := 41) (r := 57) fl_X4_10 dX4_findWorst_41 (a_56 hX) rfl ?_
      refine j_getI (pc := 44) fl_X4_60 dX4_findWorst_44 (a_57 hX) rfl ?_
      have f14 : (-2147483648 : Int) ≤ σ11 57 5 ∧ σ11 57 5 ≤ 2147483647 := hIσ11 57 5
      refine j_aload_n (pc := 47) dX4_findWorst_47 rfl rfl ?_
      refine j_getI (pc := 48) fl_X4_26 dX4_findWorst_48 (a_56 hX) rfl ?_
      refine j_topV (show σ11 56 5 = τ 56 5 from (hGσ11 56 5 (show ¬ (56 = 57) from by decide))) ?_
      have f15 : (-2147483648 : Int) ≤ τ 56 5 ∧ τ 56 5 ≤ 2147483647 := hIτ 56 5
      refine j_icmpR_le (pc := 51) (tgt := 70) ⟨by omega, by omega⟩ ⟨by omega, by omega⟩ dX4_findWorst_51 rfl (fun h16 => ?_) (fun h16 => ?_)
      · refine j_iinc (pc := 70) (i := 2) (n := 1) (ls' := [(0, vR 56), (1, vR o), (2, vI (h + 1))]) [1, 2, 0] dX4_findWorst_70 rfl (Nat.le_of_ble_eq_true rfl) rfl rfl ?_
        refine j_goto (pc := 73) (tgt := 12) dX4_findWorst_73 rfl ?_
        refine j_ls (ls' := [(0, vR 56), (1, vR o), (2, vI (h + 1))]) [0, 1, 2] rfl ?_
        exact ih (h + 1) ⟨by omega, by omega⟩ σ11 hIσ11 hFσ11 (show (41 - (h + 1)).toNat < N_ from by omega)
      · refine j_aload_n (pc := 54) dX4_findWorst_54 rfl rfl ?_
        refine j_iload_n (pc := 55) dX4_findWorst_55 rfl rfl ?_
        refine j_putI (pc := 56) fl_X4_23 fp_X4_4 dX4_findWorst_56 (a_56 hX) rfl (j_nm (fun σ17 (eσ17 : σ17 = tw_up σ11 56 4 h) => ?_))
        have hIσ17 : tw_I σ17 := tw_I_up hIσ11 eσ17 (show (-2147483648 : Int) ≤ h ∧ h ≤ 2147483647 from ⟨by omega, by omega⟩)
        have hFσ17 : tw_F (fun c j => c = 57 ∨ (c = 56 ∧ (j = 4 ∨ j = 5))) σ σ17 := tw_F_up hFσ11 eσ17 (show 56 = 57 ∨ (56 = 56 ∧ (4 = 4 ∨ 4 = 5)) from (Or.inr ⟨rfl, (Or.inl rfl)⟩))
        refine j_aload_n (pc := 59) dX4_findWorst_59 rfl rfl ?_
        refine j_aload_n (pc := 60) dX4_findWorst_60 rfl rfl ?_
        refine j_getR (pc := 61) (r := 57) fl_X4_10 dX4_findWorst_61 (a_56 hX) rfl ?_
        refine j_getI (pc := 64) fl_X4_60 dX4_findWorst_64 (a_57 hX) rfl ?_
        refine j_topV (show σ17 57 5 = σ11 57 5 from (tw_ne1 eσ17 (by (first | decide | omega)))) ?_
        refine j_putI (pc := 67) fl_X4_26 fp_X4_5 dX4_findWorst_67 (a_56 hX) rfl (j_nm (fun σ18 (eσ18 : σ18 = tw_up σ17 56 5 (σ11 57 5)) => ?_))
        have hIσ18 : tw_I σ18 := tw_I_up hIσ17 eσ18 (show (-2147483648 : Int) ≤ σ11 57 5 ∧ σ11 57 5 ≤ 2147483647 from ⟨by omega, by omega⟩)
        have hFσ18 : tw_F (fun c j => c = 57 ∨ (c = 56 ∧ (j = 4 ∨ j = 5))) σ σ18 := tw_F_up hFσ17 eσ18 (show 56 = 57 ∨ (56 = 56 ∧ (5 = 4 ∨ 5 = 5)) from (Or.inr ⟨rfl, (Or.inr rfl)⟩))
        refine j_iinc (pc := 70) (i := 2) (n := 1) (ls' := [(0, vR 56), (1, vR o), (2, vI (h + 1))]) [1, 2, 0] dX4_findWorst_70 rfl (Nat.le_of_ble_eq_true rfl) rfl rfl ?_
        refine j_goto (pc := 73) (tgt := 12) dX4_findWorst_73 rfl ?_
        refine j_ls (ls' := [(0, vR 56), (1, vR o), (2, vI (h + 1))]) [0, 1, 2] rfl ?_
        exact ih (h + 1) ⟨by omega, by omega⟩ σ18 hIσ18 hFσ18 (show (41 - (h + 1)).toNat < N_ from by omega)
set_option maxHeartbeats 4000000 in
set_option maxRecDepth 100000 in
theorem c_X4_findWorst {G : tw_G} (hX : tw_isX G) (o : Nat) (ho : IsRow G o) (σ : tw_M) (hI : tw_I σ) (hq0 : o + 4 ≤ 56 ∨ 57 < o) : tw_C G yX4_findWorst cX4_findWorst 3 none 2 [vR 56, vR o] σ (q_X4_findWorst o σ) := by
  refine tw_met [(0, vR 56), (1, vR o)] (by decide +kernel) rfl (Nat.le_of_ble_eq_true rfl) ?_
  refine j_aload_n (pc := 0) dX4_findWorst_0 rfl rfl ?_
  refine j_iconst (pc := 1) dX4_findWorst_1 ?_
  refine j_putI (pc := 2) fl_X4_23 fp_X4_4 dX4_findWorst_2 (a_56 hX) rfl (j_nm (fun σ19 (eσ19 : σ19 = tw_up σ 56 4 0) => ?_))
  have hIσ19 : tw_I σ19 := tw_I_up hI eσ19 (show (-2147483648 : Int) ≤ 0 ∧ 0 ≤ 2147483647 from by decide)
  have hFσ19 : tw_F (fun c j => c = 57 ∨ (c = 56 ∧ (j = 4 ∨ j = 5))) σ σ19 := tw_F_up (tw_F_rf) eσ19 (show 56 = 57 ∨ (56 = 56 ∧ (4 = 4 ∨ 4 = 5)) from (Or.inr ⟨rfl, (Or.inl rfl)⟩))
  refine j_aload_n (pc := 5) dX4_findWorst_5 rfl rfl ?_
  refine j_iconst (pc := 6) dX4_findWorst_6 ?_
  refine j_putI (pc := 7) fl_X4_26 fp_X4_5 dX4_findWorst_7 (a_56 hX) rfl (j_nm (fun σ20 (eσ20 : σ20 = tw_up σ19 56 5 0) => ?_))
  have hIσ20 : tw_I σ20 := tw_I_up hIσ19 eσ20 (show (-2147483648 : Int) ≤ 0 ∧ 0 ≤ 2147483647 from by decide)
  have hFσ20 : tw_F (fun c j => c = 57 ∨ (c = 56 ∧ (j = 4 ∨ j = 5))) σ σ20 := tw_F_up hFσ19 eσ20 (show 56 = 57 ∨ (56 = 56 ∧ (5 = 4 ∨ 5 = 5)) from (Or.inr ⟨rfl, (Or.inr rfl)⟩))
  refine j_iconst (pc := 10) dX4_findWorst_10 ?_
  refine j_istore_n (pc := 11) (i := 2) (ls' := [(0, vR 56), (1, vR o), (2, vI 1)]) [1, 2, 0] dX4_findWorst_11 rfl (Nat.le_of_ble_eq_true rfl) rfl rfl ?_
  refine j_ls (ls' := [(0, vR 56), (1, vR o), (2, vI 1)]) [0, 1, 2] rfl ?_
  exact (l_X4_findWorst hX o ho σ hI hq0 (((41 - (1 : Int)).toNat) + 1)) 1 (by (first | decide | exact ⟨by omega, by omega⟩)) σ20 hIσ20 hFσ20 (Nat.lt_succ_self _)
