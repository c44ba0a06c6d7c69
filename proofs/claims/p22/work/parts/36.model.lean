/-! 36.model -/
theorem dX12_firstDraft_0 : decode cX12_firstDraft 0 = .ok (.iconst 0, 1) := by decide +kernel
theorem dX12_firstDraft_1 : decode cX12_firstDraft 1 = .ok (.istore_n 1, 1) := by decide +kernel
theorem dX12_firstDraft_2 : decode cX12_firstDraft 2 = .ok (.iload_n 1, 1) := by decide +kernel
theorem dX12_firstDraft_3 : decode cX12_firstDraft 3 = .ok (.bipush 40, 2) := by decide +kernel
theorem dX12_firstDraft_5 : decode cX12_firstDraft 5 = .ok (.if_icmp .gt 57, 3) := by decide +kernel
theorem dX12_firstDraft_8 : decode cX12_firstDraft 8 = .ok (.aload_n 0, 1) := by decide +kernel
theorem dX12_firstDraft_9 : decode cX12_firstDraft 9 = .ok (.getfield 32, 3) := by decide +kernel
theorem dX12_firstDraft_12 : decode cX12_firstDraft 12 = .ok (.iload_n 1, 1) := by decide +kernel
theorem dX12_firstDraft_13 : decode cX12_firstDraft 13 = .ok (.iconst 0, 1) := by decide +kernel
theorem dX12_firstDraft_14 : decode cX12_firstDraft 14 = .ok (.bastore, 1) := by decide +kernel
theorem dX12_firstDraft_15 : decode cX12_firstDraft 15 = .ok (.iconst 0, 1) := by decide +kernel
theorem dX12_firstDraft_16 : decode cX12_firstDraft 16 = .ok (.istore_n 2, 1) := by decide +kernel
theorem dX12_firstDraft_17 : decode cX12_firstDraft 17 = .ok (.iload_n 2, 1) := by decide +kernel
theorem dX12_firstDraft_18 : decode cX12_firstDraft 18 = .ok (.iconst 5, 1) := by decide +kernel
theorem dX12_firstDraft_19 : decode cX12_firstDraft 19 = .ok (.if_icmp .ge 37, 3) := by decide +kernel
theorem dX12_firstDraft_22 : decode cX12_firstDraft 22 = .ok (.aload_n 0, 1) := by decide +kernel
theorem dX12_firstDraft_23 : decode cX12_firstDraft 23 = .ok (.getfield 26, 3) := by decide +kernel
theorem dX12_firstDraft_26 : decode cX12_firstDraft 26 = .ok (.iconst 5, 1) := by decide +kernel
theorem dX12_firstDraft_27 : decode cX12_firstDraft 27 = .ok (.iload_n 1, 1) := by decide +kernel
theorem dX12_firstDraft_28 : decode cX12_firstDraft 28 = .ok (.imul, 1) := by decide +kernel
theorem dX12_firstDraft_29 : decode cX12_firstDraft 29 = .ok (.iload_n 2, 1) := by decide +kernel
theorem dX12_firstDraft_30 : decode cX12_firstDraft 30 = .ok (.iadd, 1) := by decide +kernel
theorem dX12_firstDraft_31 : decode cX12_firstDraft 31 = .ok (.iload_n 2, 1) := by decide +kernel
theorem dX12_firstDraft_32 : decode cX12_firstDraft 32 = .ok (.ifCond .ne 7, 3) := by decide +kernel
theorem dX12_firstDraft_35 : decode cX12_firstDraft 35 = .ok (.iconst 1, 1) := by decide +kernel
theorem dX12_firstDraft_36 : decode cX12_firstDraft 36 = .ok (.goto 13, 3) := by decide +kernel
theorem dX12_firstDraft_39 : decode cX12_firstDraft 39 = .ok (.iload_n 2, 1) := by decide +kernel
theorem dX12_firstDraft_40 : decode cX12_firstDraft 40 = .ok (.iconst 4, 1) := by decide +kernel
theorem dX12_firstDraft_41 : decode cX12_firstDraft 41 = .ok (.if_icmp .ne 7, 3) := by decide +kernel
theorem dX12_firstDraft_44 : decode cX12_firstDraft 44 = .ok (.iconst 5, 1) := by decide +kernel
theorem dX12_firstDraft_45 : decode cX12_firstDraft 45 = .ok (.goto 4, 3) := by decide +kernel
theorem dX12_firstDraft_48 : decode cX12_firstDraft 48 = .ok (.iconst 0, 1) := by decide +kernel
theorem dX12_firstDraft_49 : decode cX12_firstDraft 49 = .ok (.iastore, 1) := by decide +kernel
theorem dX12_firstDraft_50 : decode cX12_firstDraft 50 = .ok (.iinc 2 1, 3) := by decide +kernel
theorem dX12_firstDraft_53 : decode cX12_firstDraft 53 = .ok (.goto (-36), 3) := by decide +kernel
theorem dX12_firstDraft_56 : decode cX12_firstDraft 56 = .ok (.iinc 1 1, 3) := by decide +kernel
theorem dX12_firstDraft_59 : decode cX12_firstDraft 59 = .ok (.goto (-57), 3) := by decide +kernel
theorem dX12_firstDraft_62 : decode cX12_firstDraft 62 = .ok (.iconst 0, 1) := by decide +kernel
theorem dX12_firstDraft_63 : decode cX12_firstDraft 63 = .ok (.istore_n 1, 1) := by decide +kernel
theorem dX12_firstDraft_64 : decode cX12_firstDraft 64 = .ok (.iload_n 1, 1) := by decide +kernel
theorem dX12_firstDraft_65 : decode cX12_firstDraft 65 = .ok (.bipush 10, 2) := by decide +kernel
theorem dX12_firstDraft_67 : decode cX12_firstDraft 67 = .ok (.if_icmp .gt 23, 3) := by decide +kernel
theorem dX12_firstDraft_70 : decode cX12_firstDraft 70 = .ok (.aload_n 0, 1) := by decide +kernel
theorem dX12_firstDraft_71 : decode cX12_firstDraft 71 = .ok (.getfield 29, 3) := by decide +kernel
theorem dX12_firstDraft_74 : decode cX12_firstDraft 74 = .ok (.iload_n 1, 1) := by decide +kernel
theorem dX12_firstDraft_75 : decode cX12_firstDraft 75 = .ok (.iconst 0, 1) := by decide +kernel
theorem dX12_firstDraft_76 : decode cX12_firstDraft 76 = .ok (.iastore, 1) := by decide +kernel
theorem dX12_firstDraft_77 : decode cX12_firstDraft 77 = .ok (.aload_n 0, 1) := by decide +kernel
theorem dX12_firstDraft_78 : decode cX12_firstDraft 78 = .ok (.getfield 35, 3) := by decide +kernel
theorem dX12_firstDraft_81 : decode cX12_firstDraft 81 = .ok (.iload_n 1, 1) := by decide +kernel
theorem dX12_firstDraft_82 : decode cX12_firstDraft 82 = .ok (.iconst 0, 1) := by decide +kernel
theorem dX12_firstDraft_83 : decode cX12_firstDraft 83 = .ok (.bastore, 1) := by decide +kernel
theorem dX12_firstDraft_84 : decode cX12_firstDraft 84 = .ok (.iinc 1 1, 3) := by decide +kernel
theorem dX12_firstDraft_87 : decode cX12_firstDraft 87 = .ok (.goto (-23), 3) := by decide +kernel
theorem dX12_firstDraft_90 : decode cX12_firstDraft 90 = .ok (.iconst 0, 1) := by decide +kernel
theorem dX12_firstDraft_91 : decode cX12_firstDraft 91 = .ok (.istore_n 1, 1) := by decide +kernel
theorem dX12_firstDraft_92 : decode cX12_firstDraft 92 = .ok (.iload_n 1, 1) := by decide +kernel
theorem dX12_firstDraft_93 : decode cX12_firstDraft 93 = .ok (.bipush 9, 2) := by decide +kernel
theorem dX12_firstDraft_95 : decode cX12_firstDraft 95 = .ok (.if_icmp .ge 78, 3) := by decide +kernel
theorem dX12_firstDraft_98 : decode cX12_firstDraft 98 = .ok (.aload_n 0, 1) := by decide +kernel
theorem dX12_firstDraft_99 : decode cX12_firstDraft 99 = .ok (.getfield 23, 3) := by decide +kernel
theorem dX12_firstDraft_102 : decode cX12_firstDraft 102 = .ok (.iload_n 1, 1) := by decide +kernel
theorem dX12_firstDraft_103 : decode cX12_firstDraft 103 = .ok (.iload_n 1, 1) := by decide +kernel
theorem dX12_firstDraft_104 : decode cX12_firstDraft 104 = .ok (.ifCond .ne 8, 3) := by decide +kernel
theorem dX12_firstDraft_107 : decode cX12_firstDraft 107 = .ok (.bipush 20, 2) := by decide +kernel
theorem dX12_firstDraft_109 : decode cX12_firstDraft 109 = .ok (.goto 57, 3) := by decide +kernel
theorem dX12_firstDraft_112 : decode cX12_firstDraft 112 = .ok (.iload_n 1, 1) := by decide +kernel
theorem dX12_firstDraft_113 : decode cX12_firstDraft 113 = .ok (.iconst 1, 1) := by decide +kernel
theorem dX12_firstDraft_114 : decode cX12_firstDraft 114 = .ok (.if_icmp .ne 9, 3) := by decide +kernel
theorem dX12_firstDraft_117 : decode cX12_firstDraft 117 = .ok (.sipush 200, 3) := by decide +kernel
theorem dX12_firstDraft_120 : decode cX12_firstDraft 120 = .ok (.goto 46, 3) := by decide +kernel
theorem dX12_firstDraft_123 : decode cX12_firstDraft 123 = .ok (.iload_n 1, 1) := by decide +kernel
theorem dX12_firstDraft_124 : decode cX12_firstDraft 124 = .ok (.iconst 3, 1) := by decide +kernel
theorem dX12_firstDraft_125 : decode cX12_firstDraft 125 = .ok (.if_icmp .ne 8, 3) := by decide +kernel
theorem dX12_firstDraft_128 : decode cX12_firstDraft 128 = .ok (.bipush 40, 2) := by decide +kernel
theorem dX12_firstDraft_130 : decode cX12_firstDraft 130 = .ok (.goto 36, 3) := by decide +kernel
theorem dX12_firstDraft_133 : decode cX12_firstDraft 133 = .ok (.iload_n 1, 1) := by decide +kernel
theorem dX12_firstDraft_134 : decode cX12_firstDraft 134 = .ok (.iconst 5, 1) := by decide +kernel
theorem dX12_firstDraft_135 : decode cX12_firstDraft 135 = .ok (.if_icmp .ne 8, 3) := by decide +kernel
theorem dX12_firstDraft_138 : decode cX12_firstDraft 138 = .ok (.bipush 18, 2) := by decide +kernel
theorem dX12_firstDraft_140 : decode cX12_firstDraft 140 = .ok (.goto 26, 3) := by decide +kernel
theorem dX12_firstDraft_143 : decode cX12_firstDraft 143 = .ok (.iload_n 1, 1) := by decide +kernel
theorem dX12_firstDraft_144 : decode cX12_firstDraft 144 = .ok (.bipush 7, 2) := by decide +kernel
theorem dX12_firstDraft_146 : decode cX12_firstDraft 146 = .ok (.if_icmp .ne 8, 3) := by decide +kernel
theorem dX12_firstDraft_149 : decode cX12_firstDraft 149 = .ok (.bipush 6, 2) := by decide +kernel
theorem dX12_firstDraft_151 : decode cX12_firstDraft 151 = .ok (.goto 15, 3) := by decide +kernel
theorem dX12_firstDraft_154 : decode cX12_firstDraft 154 = .ok (.iload_n 1, 1) := by decide +kernel
theorem dX12_firstDraft_155 : decode cX12_firstDraft 155 = .ok (.bipush 8, 2) := by decide +kernel
theorem dX12_firstDraft_157 : decode cX12_firstDraft 157 = .ok (.if_icmp .ne 7, 3) := by decide +kernel
theorem dX12_firstDraft_160 : decode cX12_firstDraft 160 = .ok (.iconst 2, 1) := by decide +kernel
theorem dX12_firstDraft_161 : decode cX12_firstDraft 161 = .ok (.goto 5, 3) := by decide +kernel
theorem dX12_firstDraft_164 : decode cX12_firstDraft 164 = .ok (.bipush 10, 2) := by decide +kernel
theorem dX12_firstDraft_166 : decode cX12_firstDraft 166 = .ok (.iastore, 1) := by decide +kernel
theorem dX12_firstDraft_167 : decode cX12_firstDraft 167 = .ok (.iinc 1 1, 3) := by decide +kernel
theorem dX12_firstDraft_170 : decode cX12_firstDraft 170 = .ok (.goto (-78), 3) := by decide +kernel
theorem dX12_firstDraft_173 : decode cX12_firstDraft 173 = .ok (.aload_n 0, 1) := by decide +kernel
theorem dX12_firstDraft_174 : decode cX12_firstDraft 174 = .ok (.iconst 0, 1) := by decide +kernel
theorem dX12_firstDraft_175 : decode cX12_firstDraft 175 = .ok (.putfield 71, 3) := by decide +kernel
theorem dX12_firstDraft_178 : decode cX12_firstDraft 178 = .ok (.aload_n 0, 1) := by decide +kernel
theorem dX12_firstDraft_179 : decode cX12_firstDraft 179 = .ok (.iconst 0, 1) := by decide +kernel
theorem dX12_firstDraft_180 : decode cX12_firstDraft 180 = .ok (.putfield 75, 3) := by decide +kernel
theorem dX12_firstDraft_183 : decode cX12_firstDraft 183 = .ok (.return_, 1) := by decide +kernel
theorem dX12_keepDraft_0 : decode cX12_keepDraft 0 = .ok (.iconst 0, 1) := by decide +kernel
theorem dX12_keepDraft_1 : decode cX12_keepDraft 1 = .ok (.istore_n 1, 1) := by decide +kernel
theorem dX12_keepDraft_2 : decode cX12_keepDraft 2 = .ok (.iload_n 1, 1) := by decide +kernel
theorem dX12_keepDraft_3 : decode cX12_keepDraft 3 = .ok (.bipush 9, 2) := by decide +kernel
theorem dX12_keepDraft_5 : decode cX12_keepDraft 5 = .ok (.if_icmp .ge 21, 3) := by decide +kernel
theorem dX12_keepDraft_8 : decode cX12_keepDraft 8 = .ok (.aload_n 0, 1) := by decide +kernel
theorem dX12_keepDraft_9 : decode cX12_keepDraft 9 = .ok (.getfield 17, 3) := by decide +kernel
theorem dX12_keepDraft_12 : decode cX12_keepDraft 12 = .ok (.iload_n 1, 1) := by decide +kernel
theorem dX12_keepDraft_13 : decode cX12_keepDraft 13 = .ok (.aload_n 0, 1) := by decide +kernel
theorem dX12_keepDraft_14 : decode cX12_keepDraft 14 = .ok (.getfield 23, 3) := by decide +kernel
theorem dX12_keepDraft_17 : decode cX12_keepDraft 17 = .ok (.iload_n 1, 1) := by decide +kernel
theorem dX12_keepDraft_18 : decode cX12_keepDraft 18 = .ok (.iaload, 1) := by decide +kernel
theorem dX12_keepDraft_19 : decode cX12_keepDraft 19 = .ok (.iastore, 1) := by decide +kernel
theorem dX12_keepDraft_20 : decode cX12_keepDraft 20 = .ok (.iinc 1 1, 3) := by decide +kernel
theorem dX12_keepDraft_23 : decode cX12_keepDraft 23 = .ok (.goto (-21), 3) := by decide +kernel
theorem dX12_keepDraft_26 : decode cX12_keepDraft 26 = .ok (.iconst 0, 1) := by decide +kernel
theorem dX12_keepDraft_27 : decode cX12_keepDraft 27 = .ok (.istore_n 1, 1) := by decide +kernel
theorem dX12_keepDraft_28 : decode cX12_keepDraft 28 = .ok (.iload_n 1, 1) := by decide +kernel
theorem dX12_keepDraft_29 : decode cX12_keepDraft 29 = .ok (.sipush 205, 3) := by decide +kernel
theorem dX12_keepDraft_32 : decode cX12_keepDraft 32 = .ok (.if_icmp .ge 21, 3) := by decide +kernel
theorem dX12_keepDraft_35 : decode cX12_keepDraft 35 = .ok (.aload_n 0, 1) := by decide +kernel
theorem dX12_keepDraft_36 : decode cX12_keepDraft 36 = .ok (.getfield 20, 3) := by decide +kernel
theorem dX12_keepDraft_39 : decode cX12_keepDraft 39 = .ok (.iload_n 1, 1) := by decide +kernel
theorem dX12_keepDraft_40 : decode cX12_keepDraft 40 = .ok (.aload_n 0, 1) := by decide +kernel
theorem dX12_keepDraft_41 : decode cX12_keepDraft 41 = .ok (.getfield 26, 3) := by decide +kernel
theorem dX12_keepDraft_44 : decode cX12_keepDraft 44 = .ok (.iload_n 1, 1) := by decide +kernel
theorem dX12_keepDraft_45 : decode cX12_keepDraft 45 = .ok (.iaload, 1) := by decide +kernel
theorem dX12_keepDraft_46 : decode cX12_keepDraft 46 = .ok (.iastore, 1) := by decide +kernel
theorem dX12_keepDraft_47 : decode cX12_keepDraft 47 = .ok (.iinc 1 1, 3) := by decide +kernel
theorem dX12_keepDraft_50 : decode cX12_keepDraft 50 = .ok (.goto (-22), 3) := by decide +kernel
theorem dX12_keepDraft_53 : decode cX12_keepDraft 53 = .ok (.iconst 0, 1) := by decide +kernel
theorem dX12_keepDraft_54 : decode cX12_keepDraft 54 = .ok (.istore_n 1, 1) := by decide +kernel
theorem dX12_keepDraft_55 : decode cX12_keepDraft 55 = .ok (.iload_n 1, 1) := by decide +kernel
theorem dX12_keepDraft_56 : decode cX12_keepDraft 56 = .ok (.bipush 100, 2) := by decide +kernel
theorem dX12_keepDraft_58 : decode cX12_keepDraft 58 = .ok (.if_icmp .ge 42, 3) := by decide +kernel
theorem dX12_keepDraft_61 : decode cX12_keepDraft 61 = .ok (.aload_n 0, 1) := by decide +kernel
theorem dX12_keepDraft_62 : decode cX12_keepDraft 62 = .ok (.getfield 7, 3) := by decide +kernel
theorem dX12_keepDraft_65 : decode cX12_keepDraft 65 = .ok (.iload_n 1, 1) := by decide +kernel
theorem dX12_keepDraft_66 : decode cX12_keepDraft 66 = .ok (.iload_n 1, 1) := by decide +kernel
theorem dX12_keepDraft_67 : decode cX12_keepDraft 67 = .ok (.i2l, 1) := by decide +kernel
theorem dX12_keepDraft_68 : decode cX12_keepDraft 68 = .ok (.ldc2_w 78, 3) := by decide +kernel
theorem dX12_keepDraft_71 : decode cX12_keepDraft 71 = .ok (.ldc2_w 80, 3) := by decide +kernel
theorem dX12_keepDraft_74 : decode cX12_keepDraft 74 = .ok (.invokestatic 82, 3) := by decide +kernel
theorem dX12_keepDraft_77 : decode cX12_keepDraft 77 = .ok (.ifCond .eq 15, 3) := by decide +kernel
theorem dX12_keepDraft_80 : decode cX12_keepDraft 80 = .ok (.aload_n 0, 1) := by decide +kernel
theorem dX12_keepDraft_81 : decode cX12_keepDraft 81 = .ok (.getfield 29, 3) := by decide +kernel
theorem dX12_keepDraft_84 : decode cX12_keepDraft 84 = .ok (.iload_n 1, 1) := by decide +kernel
theorem dX12_keepDraft_85 : decode cX12_keepDraft 85 = .ok (.bipush 82, 2) := by decide +kernel
theorem dX12_keepDraft_87 : decode cX12_keepDraft 87 = .ok (.isub, 1) := by decide +kernel
theorem dX12_keepDraft_88 : decode cX12_keepDraft 88 = .ok (.iaload, 1) := by decide +kernel
theorem dX12_keepDraft_89 : decode cX12_keepDraft 89 = .ok (.goto 4, 3) := by decide +kernel
theorem dX12_keepDraft_92 : decode cX12_keepDraft 92 = .ok (.iconst 0, 1) := by decide +kernel
theorem dX12_keepDraft_93 : decode cX12_keepDraft 93 = .ok (.iastore, 1) := by decide +kernel
theorem dX12_keepDraft_94 : decode cX12_keepDraft 94 = .ok (.iinc 1 1, 3) := by decide +kernel
theorem dX12_keepDraft_97 : decode cX12_keepDraft 97 = .ok (.goto (-42), 3) := by decide +kernel
theorem dX12_keepDraft_100 : decode cX12_keepDraft 100 = .ok (.aload_n 0, 1) := by decide +kernel
theorem dX12_keepDraft_101 : decode cX12_keepDraft 101 = .ok (.getfield 13, 3) := by decide +kernel
theorem dX12_keepDraft_104 : decode cX12_keepDraft 104 = .ok (.iconst 0, 1) := by decide +kernel
theorem dX12_keepDraft_105 : decode cX12_keepDraft 105 = .ok (.iconst 0, 1) := by decide +kernel
theorem dX12_keepDraft_106 : decode cX12_keepDraft 106 = .ok (.bastore, 1) := by decide +kernel
theorem dX12_keepDraft_107 : decode cX12_keepDraft 107 = .ok (.aload_n 0, 1) := by decide +kernel
theorem dX12_keepDraft_108 : decode cX12_keepDraft 108 = .ok (.getfield 13, 3) := by decide +kernel
theorem dX12_keepDraft_111 : decode cX12_keepDraft 111 = .ok (.iconst 1, 1) := by decide +kernel
theorem dX12_keepDraft_112 : decode cX12_keepDraft 112 = .ok (.iconst 0, 1) := by decide +kernel
theorem dX12_keepDraft_113 : decode cX12_keepDraft 113 = .ok (.bastore, 1) := by decide +kernel
theorem dX12_keepDraft_114 : decode cX12_keepDraft 114 = .ok (.return_, 1) := by decide +kernel
abbrev q_X12_firstDraft  (σ : tw_M) : Option tw_V → tw_M → Prop := fun z τ => z = none ∧ tw_I τ ∧ tw_F (fun c j => (c = 88 ∧ (j = 9 ∨ j = 10)) ∨ (93 ≤ c ∧ c < 98)) σ τ ∧ (DR τ) ∧ (drM τ = D0)
set_option maxHeartbeats 4000000 in
set_option maxRecDepth 100000 in
theorem l_X12_firstDraft {G : tw_G} (hM : tw_isM G) (σ : tw_M) (hI : tw_I σ) : ∀ N_ : Nat, (∀ (h : Int) (hh : 0 ≤ h ∧ h ≤ 41) (τ : tw_M) (hIτ : tw_I τ) (hFτ : tw_F (fun c j => (c = 88 ∧ (j = 9 ∨ j = 10)) ∨ (93 ≤ c ∧ c < 98)) σ τ) (i0 : Wb 94 92 τ (5 * h)) (i1 : Cn 96 (fun _ => 0) τ h) (i2 : Cn 94 K94 τ (5 * h)) (hm : (10000 - 100 * h).toNat < N_), tw_J G (tw_mt RX12 cX12_firstDraft 3 none 0) (tw_E G (q_X12_firstDraft σ)) 2 [(0, vR 88), (1, vI h)] [] τ) ∧ (∀ (h : Int) (hh : 0 ≤ h ∧ h ≤ 40) (k : Int) (hk : 0 ≤ k ∧ k ≤ 5) (τ : tw_M) (hIτ : tw_I τ) (hFτ : tw_F (fun c j => (c = 88 ∧ (j = 9 ∨ j = 10)) ∨ (93 ≤ c ∧ c < 98)) σ τ) (i0 : Wb 94 92 τ (5 * h + k)) (i1 : Cn 96 (fun _ => 0) τ (h + 1)) (i2 : Cn 94 K94 τ (5 * h + k)) (hm : (10000 - 100 * h - 1 - k).toNat < N_), tw_J G (tw_mt RX12 cX12_firstDraft 3 none 0) (tw_E G (q_X12_firstDraft σ)) 17 [(0, vR 88), (1, vI h), (2, vI k)] [] τ) ∧ (∀ (s : Int) (hs : 0 ≤ s ∧ s ≤ 11) (τ : tw_M) (hIτ : tw_I τ) (hFτ : tw_F (fun c j => (c = 88 ∧ (j = 9 ∨ j = 10)) ∨ (93 ≤ c ∧ c < 98)) σ τ) (i0 : Wb 94 92 τ 205) (i1 : Cn 96 (fun _ => 0) τ 41) (i2 : Cn 94 K94 τ 205) (i3 : Cn 95 (fun _ => 0) τ s) (i4 : Cn 97 (fun _ => 0) τ s) (hm : (1000 - s).toNat < N_), tw_J G (tw_mt RX12 cX12_firstDraft 3 none 0) (tw_E G (q_X12_firstDraft σ)) 64 [(0, vR 88), (1, vI s)] [] τ) ∧ (∀ (k : Int) (hk : 0 ≤ k ∧ k ≤ 9) (τ : tw_M) (hIτ : tw_I τ) (hFτ : tw_F (fun c j => (c = 88 ∧ (j = 9 ∨ j = 10)) ∨ (93 ≤ c ∧ c < 98)) σ τ) (i0 : Wb 94 92 τ 205) (i1 : Wb 93 91 τ k) (i2 : Cn 96 (fun _ => 0) τ 41) (i3 : Cn 94 K94 τ 205) (i4 : Cn 95 (fun _ => 0) τ 11) (i5 : Cn 97 (fun _ => 0) τ 11) (i6 : Cn 93 (fun j => (tw_first.getD j 0).toInt) τ k) (hm : (500 - k).toNat < N_), tw_J G (tw_mt RX12 cX12_firstDraft 3 none 0) (tw_E G (q_X12_firstDraft σ)) 92 [(0, vR 88), (1, vI k)] [] τ) := by
  intro N_
  induction N_ with
  | zero => exact ⟨fun h hh τ hIτ hFτ i0 i1 i2 hm => absurd hm (Nat.not_lt_zero _), fun h hh k hk τ hIτ hFτ i0 i1 i2 hm => absurd hm (Nat.not_lt_zero _), fun s hs τ hIτ hFτ i0 i1 i2 i3 i4 hm => absurd hm (Nat.not_lt_zero _), fun k hk τ hIτ hFτ i0 i1 i2 i3 i4 i5 i6 hm => absurd hm (Nat.not_lt_zero _)⟩
  | succ N_ ih =>
    refine ⟨?_, ?_, ?_, ?_⟩
    · intro h hh τ hIτ hFτ i0 i1 i2 hm
      refine j_iload_n (pc := 2) dX12_firstDraft_2 rfl rfl ?_
      refine j_bipush (pc := 3) dX12_firstDraft_3 rfl ?_
      refine j_icmpR_gt (pc := 5) (tgt := 62) ⟨by omega, by omega⟩ ⟨by omega, by omega⟩ dX12_firstDraft_5 rfl (fun h1 => ?_) (fun h1 => ?_)
      · refine j_iconst (pc := 62) dX12_firstDraft_62 ?_
        refine j_istore_n (pc := 63) (i := 1) (ls' := [(0, vR 88), (1, vI 0)]) [1, 0] dX12_firstDraft_63 rfl (Nat.le_of_ble_eq_true rfl) rfl rfl ?_
        refine j_ls (ls' := [(0, vR 88), (1, vI 0)]) [0, 1] rfl ?_
        exact ih.2.2.1 0 (by (first | decide | exact ⟨by omega, by omega⟩)) τ hIτ hFτ (show Wb 94 92 τ 205 from (by first | exact Wb_F (fun j => rfl) i0 | (rw [show (205 : Int) = 5 * h from by omega]; exact i0))) (show Cn 96 (fun _ => 0) τ 41 from (by first | exact Cn_F (fun j => rfl) i1 | exact (by rw [show (41 : Int) = h from by omega]; exact i1))) (show Cn 94 K94 τ 205 from (by first | exact Cn_F (fun j => rfl) i2 | (rw [show (205 : Int) = 5 * h from by omega]; exact i2))) (show Cn 95 (fun _ => 0) τ (0 : Int) from (by first | exact Cn_F (fun j => tw_ne1 _ (by omega)) (Cn_up _ (by omega) i3 rfl (by omega)) | exact Cn_0)) (show Cn 97 (fun _ => 0) τ (0 : Int) from (by first | exact Cn_up _ (by omega) (Cn_F (fun j => tw_ne1 _ (by omega)) i4) rfl (by omega) | exact Cn_0)) (show (1000 - (0 : Int)).toNat < N_ from by omega)
      · refine j_aload_n (pc := 8) dX12_firstDraft_8 rfl rfl ?_
        refine j_getR (pc := 9) (r := 96) fl_X12_32 dX12_firstDraft_9 (a_88 hM) rfl ?_
        refine j_iload_n (pc := 12) dX12_firstDraft_12 rfl rfl ?_
        refine j_iconst (pc := 13) dX12_firstDraft_13 ?_
        refine j_zast (pc := 14) (by omega) dX12_firstDraft_14 (a_96 hM) (by omega) (by omega) (by decide) (j_nm (fun σ2 (eσ2 : σ2 = tw_up τ 96 (h.toNat) 0) => ?_))
        have hIσ2 : tw_I σ2 := tw_I_up hIτ eσ2 (show (0 : Int) ≤ 0 ∧ 0 ≤ 1 from by decide)
        have hFσ2 : tw_F (fun c j => (c = 88 ∧ (j = 9 ∨ j = 10)) ∨ (93 ≤ c ∧ c < 98)) σ σ2 := tw_F_up hFτ eσ2 (show (96 = 88 ∧ (h.toNat = 9 ∨ h.toNat = 10)) ∨ (93 ≤ 96 ∧ 96 < 98) from (Or.inr (by decide)))
        refine j_iconst (pc := 15) dX12_firstDraft_15 ?_
        refine j_istore_n (pc := 16) (i := 2) (ls' := [(0, vR 88), (1, vI h), (2, vI 0)]) [1, 2, 0] dX12_firstDraft_16 rfl (Nat.le_of_ble_eq_true rfl) rfl rfl ?_
        refine j_ls (ls' := [(0, vR 88), (1, vI h), (2, vI 0)]) [0, 1, 2] rfl ?_
        exact ih.2.1 h ⟨by omega, by omega⟩ 0 (by (first | decide | exact ⟨by omega, by omega⟩)) σ2 hIσ2 hFσ2 (show Wb 94 92 σ2 (5 * h + (0 : Int)) from (by first | exact Wb_up eσ2 (by omega) i0 (w92 (by omega) (by omega) (by omega)) (by omega) | exact Wb_F (fun j => (tw_ne1 eσ2 (by (first | decide | omega)))) (by rw [show 5 * h + (0 : Int) = 5 * h from by omega]; exact i0))) (show Cn 96 (fun _ => 0) σ2 (h + 1) from (by first | exact Cn_up eσ2 (by omega) i1 rfl (by omega) | exact Cn_F (fun j => rfl) i1)) (show Cn 94 K94 σ2 (5 * h + (0 : Int)) from (by first | exact Cn_up eσ2 (by omega) i2 (by rw [K94_at (by omega) ⟨by omega, by omega⟩]; (repeat' split) <;> omega) (by omega) | exact Cn_F (fun j => (tw_ne1 eσ2 (by (first | decide | omega)))) (by rw [show 5 * h + (0 : Int) = 5 * h from by omega]; exact i2))) (show (10000 - 100 * h - 1 - (0 : Int)).toNat < N_ from by omega)
    · intro h hh k hk τ hIτ hFτ i0 i1 i2 hm
      refine j_iload_n (pc := 17) dX12_firstDraft_17 rfl rfl ?_
      refine j_iconst (pc := 18) dX12_firstDraft_18 ?_
      refine j_icmpR_ge (pc := 19) (tgt := 56) ⟨by omega, by omega⟩ ⟨by omega, by omega⟩ dX12_firstDraft_19 rfl (fun h3 => ?_) (fun h3 => ?_)
      · refine j_iinc (pc := 56) (i := 1) (n := 1) (ls' := [(0, vR 88), (1, vI (h + 1))]) [1, 0] dX12_firstDraft_56 rfl (Nat.le_of_ble_eq_true rfl) rfl rfl ?_
        refine j_goto (pc := 59) (tgt := 2) dX12_firstDraft_59 rfl ?_
        refine j_ls (ls' := [(0, vR 88), (1, vI (h + 1))]) [0, 1] rfl ?_
        exact ih.1 (h + 1) ⟨by omega, by omega⟩ τ hIτ hFτ (show Wb 94 92 τ (5 * (h + 1)) from (by rw [show 5 * (h + 1) = 5 * h + k from by omega]; exact i0)) (show Cn 96 (fun _ => 0) τ (h + 1) from i1) (show Cn 94 K94 τ (5 * (h + 1)) from (by rw [show 5 * (h + 1) = 5 * h + k from by omega]; exact i2)) (show (10000 - 100 * (h + 1)).toNat < N_ from by omega)
      · refine j_aload_n (pc := 22) dX12_firstDraft_22 rfl rfl ?_
        refine j_getR (pc := 23) (r := 94) fl_X12_26 dX12_firstDraft_23 (a_88 hM) rfl ?_
        refine j_iconst (pc := 26) dX12_firstDraft_26 ?_
        refine j_iload_n (pc := 27) dX12_firstDraft_27 rfl rfl ?_
        refine j_imul (pc := 28) dX12_firstDraft_28 ?_
        refine j_iload_n (pc := 29) dX12_firstDraft_29 rfl rfl ?_
        refine j_iadd (pc := 30) dX12_firstDraft_30 ?_
        refine j_iload_n (pc := 31) dX12_firstDraft_31 rfl rfl ?_
        refine j_ifR_ne (pc := 32) (tgt := 39) ⟨by omega, by omega⟩ dX12_firstDraft_32 rfl (fun h4 => ?_) (fun h4 => ?_)
        · refine j_iload_n (pc := 39) dX12_firstDraft_39 rfl rfl ?_
          refine j_iconst (pc := 40) dX12_firstDraft_40 ?_
          refine j_icmpR_ne (pc := 41) (tgt := 48) ⟨by omega, by omega⟩ ⟨by omega, by omega⟩ dX12_firstDraft_41 rfl (fun h5 => ?_) (fun h5 => ?_)
          · refine j_iconst (pc := 48) dX12_firstDraft_48 ?_
            refine j_iast (pc := 49) dX12_firstDraft_49 (a_94 hM) (by omega) (by omega) (by decide) (j_nm (fun σ6 (eσ6 : σ6 = tw_up τ 94 (((5 * h) + k).toNat) 0) => ?_))
            have hIσ6 : tw_I σ6 := tw_I_up hIτ eσ6 (show (-2147483648 : Int) ≤ 0 ∧ 0 ≤ 2147483647 from by decide)
            have hFσ6 : tw_F (fun c j => (c = 88 ∧ (j = 9 ∨ j = 10)) ∨ (93 ≤ c ∧ c < 98)) σ σ6 := tw_F_up hFτ eσ6 (show (94 = 88 ∧ (((5 * h) + k).toNat = 9 ∨ ((5 * h) + k).toNat = 10)) ∨ (93 ≤ 94 ∧ 94 < 98) from (Or.inr (by decide)))
            refine j_iinc (pc := 50) (i := 2) (n := 1) (ls' := [(0, vR 88), (1, vI h), (2, vI (k + 1))]) [1, 2, 0] dX12_firstDraft_50 rfl (Nat.le_of_ble_eq_true rfl) rfl rfl ?_
            refine j_goto (pc := 53) (tgt := 17) dX12_firstDraft_53 rfl ?_
            refine j_ls (ls' := [(0, vR 88), (1, vI h), (2, vI (k + 1))]) [0, 1, 2] rfl ?_
            exact ih.2.1 h ⟨by omega, by omega⟩ (k + 1) ⟨by omega, by omega⟩ σ6 hIσ6 hFσ6 (show Wb 94 92 σ6 (5 * h + (k + 1)) from (by first | exact Wb_up eσ6 (by omega) i0 (w92 (by omega) (by omega) (by omega)) (by omega) | exact Wb_F (fun j => rfl) (by rw [show 5 * h + (0 : Int) = 5 * h from by omega]; exact i0))) (show Cn 96 (fun _ => 0) σ6 (h + 1) from (by first | exact Cn_up eσ6 (by omega) i1 rfl (by omega) | exact Cn_F (fun j => (tw_ne1 eσ6 (by (first | decide | omega)))) i1)) (show Cn 94 K94 σ6 (5 * h + (k + 1)) from (by first | exact Cn_up eσ6 (by omega) i2 (by rw [K94_at (by omega) ⟨by omega, by omega⟩]; (repeat' split) <;> omega) (by omega) | exact Cn_F (fun j => rfl) (by rw [show 5 * h + (0 : Int) = 5 * h from by omega]; exact i2))) (show (10000 - 100 * h - 1 - (k + 1)).toNat < N_ from by omega)
          · refine j_iconst (pc := 44) dX12_firstDraft_44 ?_
            refine j_goto (pc := 45) (tgt := 49) dX12_firstDraft_45 rfl ?_
            refine j_iast (pc := 49) dX12_firstDraft_49 (a_94 hM) (by omega) (by omega) (by decide) (j_nm (fun σ7 (eσ7 : σ7 = tw_up τ 94 (((5 * h) + k).toNat) 5) => ?_))
            have hIσ7 : tw_I σ7 := tw_I_up hIτ eσ7 (show (-2147483648 : Int) ≤ 5 ∧ 5 ≤ 2147483647 from by decide)
            have hFσ7 : tw_F (fun c j => (c = 88 ∧ (j = 9 ∨ j = 10)) ∨ (93 ≤ c ∧ c < 98)) σ σ7 := tw_F_up hFτ eσ7 (show (94 = 88 ∧ (((5 * h) + k).toNat = 9 ∨ ((5 * h) + k).toNat = 10)) ∨ (93 ≤ 94 ∧ 94 < 98) from (Or.inr (by decide)))
            refine j_iinc (pc := 50) (i := 2) (n := 1) (ls' := [(0, vR 88), (1, vI h), (2, vI (k + 1))]) [1, 2, 0] dX12_firstDraft_50 rfl (Nat.le_of_ble_eq_true rfl) rfl rfl ?_
            refine j_goto (pc := 53) (tgt := 17) dX12_firstDraft_53 rfl ?_
            refine j_ls (ls' := [(0, vR 88), (1, vI h), (2, vI (k + 1))]) [0, 1, 2] rfl ?_
            exact ih.2.1 h ⟨by omega, by omega⟩ (k + 1) ⟨by omega, by omega⟩ σ7 hIσ7 hFσ7 (show Wb 94 92 σ7 (5 * h + (k + 1)) from (by first | exact Wb_up eσ7 (by omega) i0 (w92 (by omega) (by omega) (by omega)) (by omega) | exact Wb_F (fun j => rfl) (by rw [show 5 * h + (0 : Int) = 5 * h from by omega]; exact i0))) (show Cn 96 (fun _ => 0) σ7 (h + 1) from (by first | exact Cn_up eσ7 (by omega) i1 rfl (by omega) | exact Cn_F (fun j => (tw_ne1 eσ7 (by (first | decide | omega)))) i1)) (show Cn 94 K94 σ7 (5 * h + (k + 1)) from (by first | exact Cn_up eσ7 (by omega) i2 (by rw [K94_at (by omega) ⟨by omega, by omega⟩]; (repeat' split) <;> omega) (by omega) | exact Cn_F (fun j => rfl) (by rw [show 5 * h + (0 : Int) = 5 * h from by omega]; exact i2))) (show (10000 - 100 * h - 1 - (k + 1)).toNat < N_ from by omega)
        · refine j_iconst (pc := 35) dX12_firstDraft_35 ?_
          refine j_goto (pc := 36) (tgt := 49) dX12_firstDraft_36 rfl ?_
          refine j_iast (pc := 49) dX12_firstDraft_49 (a_94 hM) (by omega) (by omega) (by decide) (j_nm (fun σ8 (eσ8 : σ8 = tw_up τ 94 (((5 * h) + k).toNat) 1) => ?_))
          have hIσ8 : tw_I σ8 := tw_I_up hIτ eσ8 (show (-2147483648 : Int) ≤ 1 ∧ 1 ≤ 2147483647 from by decide)
          have hFσ8 : tw_F (fun c j => (c = 88 ∧ (j = 9 ∨ j = 10)) ∨ (93 ≤ c ∧ c < 98)) σ σ8 := tw_F_up hFτ eσ8 (show (94 = 88 ∧ (((5 * h) + k).toNat = 9 ∨ ((5 * h) + k).toNat = 10)) ∨ (93 ≤ 94 ∧ 94 < 98) from (Or.inr (by decide)))
          refine j_iinc (pc := 50) (i := 2) (n := 1) (ls' := [(0, vR 88), (1, vI h), (2, vI (k + 1))]) [1, 2, 0] dX12_firstDraft_50 rfl (Nat.le_of_ble_eq_true rfl) rfl rfl ?_
          refine j_goto (pc := 53) (tgt := 17) dX12_firstDraft_53 rfl ?_
          refine j_ls (ls' := [(0, vR 88), (1, vI h), (2, vI (k + 1))]) [0, 1, 2] rfl ?_
          exact ih.2.1 h ⟨by omega, by omega⟩ (k + 1) ⟨by omega, by omega⟩ σ8 hIσ8 hFσ8 (show Wb 94 92 σ8 (5 * h + (k + 1)) from (by first | exact Wb_up eσ8 (by omega) i0 (w92 (by omega) (by omega) (by omega)) (by omega) | exact Wb_F (fun j => rfl) (by rw [show 5 * h + (0 : Int) = 5 * h from by omega]; exact i0))) (show Cn 96 (fun _ => 0) σ8 (h + 1) from (by first | exact Cn_up eσ8 (by omega) i1 rfl (by omega) | exact Cn_F (fun j => (tw_ne1 eσ8 (by (first | decide | omega)))) i1)) (show Cn 94 K94 σ8 (5 * h + (k + 1)) from (by first | exact Cn_up eσ8 (by omega) i2 (by rw [K94_at (by omega) ⟨by omega, by omega⟩]; (repeat' split) <;> omega) (by omega) | exact Cn_F (fun j => rfl) (by rw [show 5 * h + (0 : Int) = 5 * h from by omega]; exact i2))) (show (10000 - 100 * h - 1 - (k + 1)).toNat < N_ from by omega)
    · intro s hs τ hIτ hFτ i0 i1 i2 i3 i4 hm
      refine j_iload_n (pc := 64) dX12_firstDraft_64 rfl rfl ?_
      refine j_bipush (pc := 65) dX12_firstDraft_65 rfl ?_
      refine j_icmpR_gt (pc := 67) (tgt := 90) ⟨by omega, by omega⟩ ⟨by omega, by omega⟩ dX12_firstDraft_67 rfl (fun h9 => ?_) (fun h9 => ?_)
      · refine j_iconst (pc := 90) dX12_firstDraft_90 ?_
        refine j_istore_n (pc := 91) (i := 1) (ls' := [(0, vR 88), (1, vI 0)]) [1, 0] dX12_firstDraft_91 rfl (Nat.le_of_ble_eq_true rfl) rfl rfl ?_
        refine j_ls (ls' := [(0, vR 88), (1, vI 0)]) [0, 1] rfl ?_
        exact ih.2.2.2 0 (by (first | decide | exact ⟨by omega, by omega⟩)) τ hIτ hFτ (show Wb 94 92 τ 205 from Wb_F (fun j => rfl) i0) (show Wb 93 91 τ (0 : Int) from (by first | exact Wb_up _ (by omega) i1 (w91 (by omega) (by omega)) (by omega) | exact (fun j hj => by exfalso; omega))) (show Cn 96 (fun _ => 0) τ 41 from (by first | exact Cn_F (fun j => rfl) i2 | exact i1)) (show Cn 94 K94 τ 205 from (by first | exact Cn_F (fun j => rfl) i3 | exact i2)) (show Cn 95 (fun _ => 0) τ 11 from (by first | exact Cn_F (fun j => rfl) i4 | exact (by rw [show (11 : Int) = s from by omega]; exact i3))) (show Cn 97 (fun _ => 0) τ 11 from (by first | exact Cn_F (fun j => rfl) i5 | exact (by rw [show (11 : Int) = s from by omega]; exact i4))) (show Cn 93 (fun j => (tw_first.getD j 0).toInt) τ (0 : Int) from (by first | exact Cn_up _ (by omega) i6 (by show _ = (tw_first.getD k.toNat 0).toInt; rw [first_at ⟨by omega, by omega⟩]; (repeat' split) <;> omega) (by omega) | exact Cn_0)) (show (500 - (0 : Int)).toNat < N_ from by omega)
      · refine j_aload_n (pc := 70) dX12_firstDraft_70 rfl rfl ?_
        refine j_getR (pc := 71) (r := 95) fl_X12_29 dX12_firstDraft_71 (a_88 hM) rfl ?_
        refine j_iload_n (pc := 74) dX12_firstDraft_74 rfl rfl ?_
        refine j_iconst (pc := 75) dX12_firstDraft_75 ?_
        refine j_iast (pc := 76) dX12_firstDraft_76 (a_95 hM) (by omega) (by omega) (by decide) (j_nm (fun σ10 (eσ10 : σ10 = tw_up τ 95 (s.toNat) 0) => ?_))
        have hIσ10 : tw_I σ10 := tw_I_up hIτ eσ10 (show (-2147483648 : Int) ≤ 0 ∧ 0 ≤ 2147483647 from by decide)
        have hFσ10 : tw_F (fun c j => (c = 88 ∧ (j = 9 ∨ j = 10)) ∨ (93 ≤ c ∧ c < 98)) σ σ10 := tw_F_up hFτ eσ10 (show (95 = 88 ∧ (s.toNat = 9 ∨ s.toNat = 10)) ∨ (93 ≤ 95 ∧ 95 < 98) from (Or.inr (by decide)))
        refine j_aload_n (pc := 77) dX12_firstDraft_77 rfl rfl ?_
        refine j_getR (pc := 78) (r := 97) fl_X12_35 dX12_firstDraft_78 (a_88 hM) rfl ?_
        refine j_iload_n (pc := 81) dX12_firstDraft_81 rfl rfl ?_
        refine j_iconst (pc := 82) dX12_firstDraft_82 ?_
        refine j_zast (pc := 83) (by omega) dX12_firstDraft_83 (a_97 hM) (by omega) (by omega) (by decide) (j_nm (fun σ11 (eσ11 : σ11 = tw_up σ10 97 (s.toNat) 0) => ?_))
        have hIσ11 : tw_I σ11 := tw_I_up hIσ10 eσ11 (show (0 : Int) ≤ 0 ∧ 0 ≤ 1 from by decide)
        have hFσ11 : tw_F (fun c j => (c = 88 ∧ (j = 9 ∨ j = 10)) ∨ (93 ≤ c ∧ c < 98)) σ σ11 := tw_F_up hFσ10 eσ11 (show (97 = 88 ∧ (s.toNat = 9 ∨ s.toNat = 10)) ∨ (93 ≤ 97 ∧ 97 < 98) from (Or.inr (by decide)))
        refine j_iinc (pc := 84) (i := 1) (n := 1) (ls' := [(0, vR 88), (1, vI (s + 1))]) [1, 0] dX12_firstDraft_84 rfl (Nat.le_of_ble_eq_true rfl) rfl rfl ?_
        refine j_goto (pc := 87) (tgt := 64) dX12_firstDraft_87 rfl ?_
        refine j_ls (ls' := [(0, vR 88), (1, vI (s + 1))]) [0, 1] rfl ?_
        exact ih.2.2.1 (s + 1) ⟨by omega, by omega⟩ σ11 hIσ11 hFσ11 (show Wb 94 92 σ11 205 from (by first | exact Wb_F (fun j => ((tw_ne1 eσ11 (by (first | decide | omega)))).trans (tw_ne1 eσ10 (by (first | decide | omega)))) i0 | (rw [show (205 : Int) = 5 * h from by omega]; exact i0))) (show Cn 96 (fun _ => 0) σ11 41 from (by first | exact Cn_F (fun j => ((tw_ne1 eσ11 (by (first | decide | omega)))).trans (tw_ne1 eσ10 (by (first | decide | omega)))) i1 | exact (by rw [show (41 : Int) = h from by omega]; exact i1))) (show Cn 94 K94 σ11 205 from (by first | exact Cn_F (fun j => ((tw_ne1 eσ11 (by (first | decide | omega)))).trans (tw_ne1 eσ10 (by (first | decide | omega)))) i2 | (rw [show (205 : Int) = 5 * h from by omega]; exact i2))) (show Cn 95 (fun _ => 0) σ11 (s + 1) from (by first | exact Cn_F (fun j => tw_ne1 eσ11 (by (first | decide | omega))) (Cn_up eσ10 (by omega) i3 rfl (by omega)) | exact Cn_0)) (show Cn 97 (fun _ => 0) σ11 (s + 1) from (by first | exact Cn_up eσ11 (by omega) (Cn_F (fun j => tw_ne1 eσ10 (by (first | decide | omega))) i4) rfl (by omega) | exact Cn_0)) (show (1000 - (s + 1)).toNat < N_ from by omega)
    · intro k hk τ hIτ hFτ i0 i1 i2 i3 i4 i5 i6 hm
      refine j_iload_n (pc := 92) dX12_firstDraft_92 rfl rfl ?_
      refine j_bipush (pc := 93) dX12_firstDraft_93 rfl ?_
      refine j_icmpR_ge (pc := 95) (tgt := 173) ⟨by omega, by omega⟩ ⟨by omega, by omega⟩ dX12_firstDraft_95 rfl (fun h12 => ?_) (fun h12 => ?_)
      · refine j_aload_n (pc := 173) dX12_firstDraft_173 rfl rfl ?_
        refine j_iconst (pc := 174) dX12_firstDraft_174 ?_
        refine j_putI (pc := 175) fl_X12_71 fp_X12_9 dX12_firstDraft_175 (a_88 hM) rfl (j_nm (fun σ13 (eσ13 : σ13 = tw_up τ 88 9 0) => ?_))
        have hIσ13 : tw_I σ13 := tw_I_up hIτ eσ13 (show (-2147483648 : Int) ≤ 0 ∧ 0 ≤ 2147483647 from by decide)
        have hFσ13 : tw_F (fun c j => (c = 88 ∧ (j = 9 ∨ j = 10)) ∨ (93 ≤ c ∧ c < 98)) σ σ13 := tw_F_up hFτ eσ13 (show (88 = 88 ∧ (9 = 9 ∨ 9 = 10)) ∨ (93 ≤ 88 ∧ 88 < 98) from (Or.inl ⟨rfl, (Or.inl rfl)⟩))
        refine j_aload_n (pc := 178) dX12_firstDraft_178 rfl rfl ?_
        refine j_iconst (pc := 179) dX12_firstDraft_179 ?_
        refine j_putI (pc := 180) fl_X12_75 fp_X12_10 dX12_firstDraft_180 (a_88 hM) rfl (j_nm (fun σ14 (eσ14 : σ14 = tw_up σ13 88 10 0) => ?_))
        have hIσ14 : tw_I σ14 := tw_I_up hIσ13 eσ14 (show (0 : Int) ≤ 0 ∧ 0 ≤ 40 from by decide)
        have hFσ14 : tw_F (fun c j => (c = 88 ∧ (j = 9 ∨ j = 10)) ∨ (93 ≤ c ∧ c < 98)) σ σ14 := tw_F_up hFσ13 eσ14 (show (88 = 88 ∧ (10 = 9 ∨ 10 = 10)) ∨ (93 ≤ 88 ∧ 88 < 98) from (Or.inl ⟨rfl, (Or.inr rfl)⟩))
        have y15 : σ14 88 9 = 0 := ((tw_ne1 eσ14 (by (first | decide | omega)))).trans (tw_eq1 eσ13)
        have y16 : σ14 88 10 = 0 := (tw_eq1 eσ14)
        exact j_vret (pc := 183) ⟨rfl, rfl⟩ dX12_firstDraft_183 rfl ⟨rfl, hIσ14, hFσ14, ⟨Wb_F (fun j => ((tw_ne1 eσ14 (by (first | decide | omega)))).trans (tw_ne1 eσ13 (by (first | decide | omega)))) i0, Wb_F (fun j => ((tw_ne1 eσ14 (by (first | decide | omega)))).trans (tw_ne1 eσ13 (by (first | decide | omega)))) (by rw [show (9 : Int) = k from by omega]; exact i1)⟩, (drM_D0 (by omega) (by omega) (by rw [show (9 : Int) = k from by omega]; exact (Cn_F (fun j => ((tw_ne1 eσ14 (by (first | decide | omega)))).trans (tw_ne1 eσ13 (by (first | decide | omega)))) i6)) (Cn_F (fun j => ((tw_ne1 eσ14 (by (first | decide | omega)))).trans (tw_ne1 eσ13 (by (first | decide | omega)))) i4) (Cn_F (fun j => ((tw_ne1 eσ14 (by (first | decide | omega)))).trans (tw_ne1 eσ13 (by (first | decide | omega)))) i3) (Cn_F (fun j => ((tw_ne1 eσ14 (by (first | decide | omega)))).trans (tw_ne1 eσ13 (by (first | decide | omega)))) i2) (Cn_F (fun j => ((tw_ne1 eσ14 (by (first | decide | omega)))).trans (tw_ne1 eσ13 (by (first | decide | omega)))) i5))⟩
      · refine j_aload_n (pc := 98) dX12_firstDraft_98 rfl rfl ?_
        refine j_getR (pc := 99) (r := 93) fl_X12_23 dX12_firstDraft_99 (a_88 hM) rfl ?_
        refine j_iload_n (pc := 102) dX12_firstDraft_102 rfl rfl ?_
        refine j_iload_n (pc := 103) dX12_firstDraft_103 rfl rfl ?_
        refine j_ifR_ne (pc := 104) (tgt := 112) ⟨by omega, by omega⟩ dX12_firstDraft_104 rfl (fun h17 => ?_) (fun h17 => ?_)
        · refine j_iload_n (pc := 112) dX12_firstDraft_112 rfl rfl ?_
          refine j_iconst (pc := 113) dX12_firstDraft_113 ?_
          refine j_icmpR_ne (pc := 114) (tgt := 123) ⟨by omega, by omega⟩ ⟨by omega, by omega⟩ dX12_firstDraft_114 rfl (fun h18 => ?_) (fun h18 => ?_)
          · refine j_iload_n (pc := 123) dX12_firstDraft_123 rfl rfl ?_
            refine j_iconst (pc := 124) dX12_firstDraft_124 ?_
            refine j_icmpR_ne (pc := 125) (tgt := 133) ⟨by omega, by omega⟩ ⟨by omega, by omega⟩ dX12_firstDraft_125 rfl (fun h19 => ?_) (fun h19 => ?_)
            · refine j_iload_n (pc := 133) dX12_firstDraft_133 rfl rfl ?_
              refine j_iconst (pc := 134) dX12_firstDraft_134 ?_
              refine j_icmpR_ne (pc := 135) (tgt := 143) ⟨by omega, by omega⟩ ⟨by omega, by omega⟩ dX12_firstDraft_135 rfl (fun h20 => ?_) (fun h20 => ?_)
              · refine j_iload_n (pc := 143) dX12_firstDraft_143 rfl rfl ?_
                refine j_bipush (pc := 144) dX12_firstDraft_144 rfl ?_
                refine j_icmpR_ne (pc := 146) (tgt := 154) ⟨by omega, by omega⟩ ⟨by omega, by omega⟩ dX12_firstDraft_146 rfl (fun h21 => ?_) (fun h21 => ?_)
                · refine j_iload_n (pc := 154) dX12_firstDraft_154 rfl rfl ?_
                  refine j_bipush (pc := 155) dX12_firstDraft_155 rfl ?_
                  refine j_icmpR_ne (pc := 157) (tgt := 164) ⟨by omega, by omega⟩ ⟨by omega, by omega⟩ dX12_firstDraft_157 rfl (fun h22 => ?_) (fun h22 => ?_)
                  · refine j_bipush (pc := 164) dX12_firstDraft_164 rfl ?_
                    refine j_iast (pc := 166) dX12_firstDraft_166 (a_93 hM) (by omega) (by omega) (by decide) (j_nm (fun σ23 (eσ23 : σ23 = tw_up τ 93 (k.toNat) 10) => ?_))
                    have hIσ23 : tw_I σ23 := tw_I_up hIτ eσ23 (show (-2147483648 : Int) ≤ 10 ∧ 10 ≤ 2147483647 from by decide)
                    have hFσ23 : tw_F (fun c j => (c = 88 ∧ (j = 9 ∨ j = 10)) ∨ (93 ≤ c ∧ c < 98)) σ σ23 := tw_F_up hFτ eσ23 (show (93 = 88 ∧ (k.toNat = 9 ∨ k.toNat = 10)) ∨ (93 ≤ 93 ∧ 93 < 98) from (Or.inr (by decide)))
                    refine j_iinc (pc := 167) (i := 1) (n := 1) (ls' := [(0, vR 88), (1, vI (k + 1))]) [1, 0] dX12_firstDraft_167 rfl (Nat.le_of_ble_eq_true rfl) rfl rfl ?_
                    refine j_goto (pc := 170) (tgt := 92) dX12_firstDraft_170 rfl ?_
                    refine j_ls (ls' := [(0, vR 88), (1, vI (k + 1))]) [0, 1] rfl ?_
                    exact ih.2.2.2 (k + 1) ⟨by omega, by omega⟩ σ23 hIσ23 hFσ23 (show Wb 94 92 σ23 205 from Wb_F (fun j => (tw_ne1 eσ23 (by (first | decide | omega)))) i0) (show Wb 93 91 σ23 (k + 1) from (by first | exact Wb_up eσ23 (by omega) i1 (w91 (by omega) (by omega)) (by omega) | exact (fun j hj => by exfalso; omega))) (show Cn 96 (fun _ => 0) σ23 41 from (by first | exact Cn_F (fun j => (tw_ne1 eσ23 (by (first | decide | omega)))) i2 | exact i1)) (show Cn 94 K94 σ23 205 from (by first | exact Cn_F (fun j => (tw_ne1 eσ23 (by (first | decide | omega)))) i3 | exact i2)) (show Cn 95 (fun _ => 0) σ23 11 from (by first | exact Cn_F (fun j => (tw_ne1 eσ23 (by (first | decide | omega)))) i4 | exact (by rw [show (11 : Int) = s from by omega]; exact i3))) (show Cn 97 (fun _ => 0) σ23 11 from (by first | exact Cn_F (fun j => (tw_ne1 eσ23 (by (first | decide | omega)))) i5 | exact (by rw [show (11 : Int) = s from by omega]; exact i4))) (show Cn 93 (fun j => (tw_first.getD j 0).toInt) σ23 (k + 1) from (by first | exact Cn_up eσ23 (by omega) i6 (by show _ = (tw_first.getD k.toNat 0).toInt; rw [first_at ⟨by omega, by omega⟩]; (repeat' split) <;> omega) (by omega) | exact Cn_0)) (show (500 - (k + 1)).toNat < N_ from by omega)
                  · refine j_iconst (pc := 160) dX12_firstDraft_160 ?_
                    refine j_goto (pc := 161) (tgt := 166) dX12_firstDraft_161 rfl ?_
                    refine j_iast (pc := 166) dX12_firstDraft_166 (a_93 hM) (by omega) (by omega) (by decide) (j_nm (fun σ24 (eσ24 : σ24 = tw_up τ 93 (k.toNat) 2) => ?_))
                    have hIσ24 : tw_I σ24 := tw_I_up hIτ eσ24 (show (-2147483648 : Int) ≤ 2 ∧ 2 ≤ 2147483647 from by decide)
                    have hFσ24 : tw_F (fun c j => (c = 88 ∧ (j = 9 ∨ j = 10)) ∨ (93 ≤ c ∧ c < 98)) σ σ24 := tw_F_up hFτ eσ24 (show (93 = 88 ∧ (k.toNat = 9 ∨ k.toNat = 10)) ∨ (93 ≤ 93 ∧ 93 < 98) from (Or.inr (by decide)))
                    refine j_iinc (pc := 167) (i := 1) (n := 1) (ls' := [(0, vR 88), (1, vI (k + 1))]) [1, 0] dX12_firstDraft_167 rfl (Nat.le_of_ble_eq_true rfl) rfl rfl ?_
                    refine j_goto (pc := 170) (tgt := 92) dX12_firstDraft_170 rfl ?_
                    refine j_ls (ls' := [(0, vR 88), (1, vI (k + 1))]) [0, 1] rfl ?_
                    exact ih.2.2.2 (k + 1) ⟨by omega, by omega⟩ σ24 hIσ24 hFσ24 (show Wb 94 92 σ24 205 from Wb_F (fun j => (tw_ne1 eσ24 (by (first | decide | omega)))) i0) (show Wb 93 91 σ24 (k + 1) from (by first | exact Wb_up eσ24 (by omega) i1 (w91 (by omega) (by omega)) (by omega) | exact (fun j hj => by exfalso; omega))) (show Cn 96 (fun _ => 0) σ24 41 from (by first | exact Cn_F (fun j => (tw_ne1 eσ24 (by (first | decide | omega)))) i2 | exact i1)) (show Cn 94 K94 σ24 205 from (by first | exact Cn_F (fun j => (tw_ne1 eσ24 (by (first | decide | omega)))) i3 | exact i2)) (show Cn 95 (fun _ => 0) σ24 11 from (by first | exact Cn_F (fun j => (tw_ne1 eσ24 (by (first | decide | omega)))) i4 | exact (by rw [show (11 : Int) = s from by omega]; exact i3))) (show Cn 97 (fun _ => 0) σ24 11 from (by first | exact Cn_F (fun j => (tw_ne1 eσ24 (by (first | decide | omega)))) i5 | exact (by rw [show (11 : Int) = s from by omega]; exact i4))) (show Cn 93 (fun j => (tw_first.getD j 0).toInt) σ24 (k + 1) from (by first | exact Cn_up eσ24 (by omega) i6 (by show _ = (tw_first.getD k.toNat 0).toInt; rw [first_at ⟨by omega, by omega⟩]; (repeat' split) <;> omega) (by omega) | exact Cn_0)) (show (500 - (k + 1)).toNat < N_ from by omega)
                · refine j_bipush (pc := 149) dX12_firstDraft_149 rfl ?_
                  refine j_goto (pc := 151) (tgt := 166) dX12_firstDraft_151 rfl ?_
                  refine j_iast (pc := 166) dX12_firstDraft_166 (a_93 hM) (by omega) (by omega) (by decide) (j_nm (fun σ25 (eσ25 : σ25 = tw_up τ 93 (k.toNat) 6) => ?_))
                  have hIσ25 : tw_I σ25 := tw_I_up hIτ eσ25 (show (-2147483648 : Int) ≤ 6 ∧ 6 ≤ 2147483647 from by decide)
                  have hFσ25 : tw_F (fun c j => (c = 88 ∧ (j = 9 ∨ j = 10)) ∨ (93 ≤ c ∧ c < 98)) σ σ25 := tw_F_up hFτ eσ25 (show (93 = 88 ∧ (k.toNat = 9 ∨ k.toNat = 10)) ∨ (93 ≤ 93 ∧ 93 < 98) from (Or.inr (by decide)))
                  refine j_iinc (pc := 167) (i := 1) (n := 1) (ls' := [(0, vR 88), (1, vI (k + 1))]) [1, 0] dX12_firstDraft_167 rfl (Nat.le_of_ble_eq_true rfl) rfl rfl ?_
                  refine j_goto (pc := 170) (tgt := 92) dX12_firstDraft_170 rfl ?_
                  refine j_ls (ls' := [(0, vR 88), (1, vI (k + 1))]) [0, 1] rfl ?_
                  exact ih.2.2.2 (k + 1) ⟨by omega, by omega⟩ σ25 hIσ25 hFσ25 (show Wb 94 92 σ25 205 from Wb_F (fun j => (tw_ne1 eσ25 (by (first | decide | omega)))) i0) (show Wb 93 91 σ25 (k + 1) from (by first | exact Wb_up eσ25 (by omega) i1 (w91 (by omega) (by omega)) (by omega) | exact (fun j hj => by exfalso; omega))) (show Cn 96 (fun _ => 0) σ25 41 from (by first | exact Cn_F (fun j => (tw_ne1 eσ25 (by (first | decide | omega)))) i2 | exact i1)) (show Cn 94 K94 σ25 205 from (by first | exact Cn_F (fun j => (tw_ne1 eσ25 (by (first | decide | omega)))) i3 | exact i2)) (show Cn 95 (fun _ => 0) σ25 11 from (by first | exact Cn_F (fun j => (tw_ne1 eσ25 (by (first | decide | omega)))) i4 | exact (by rw [show (11 : Int) = s from by omega]; exact i3))) (show Cn 97 (fun _ => 0) σ25 11 from (by first | exact Cn_F (fun j => (tw_ne1 eσ25 (by (first | decide | omega)))) i5 | exact (by rw [show (11 : Int) = s from by omega]; exact i4))) (show Cn 93 (fun j => (tw_first.getD j 0).toInt) σ25 (k + 1) from (by first | exact Cn_up eσ25 (by omega) i6 (by show _ = (tw_first.getD k.toNat 0).toInt; rw [first_at ⟨by omega, by omega⟩]; (repeat' split) <;> omega) (by omega) | exact Cn_0)) (show (500 - (k + 1)).toNat < N_ from by omega)
              · refine j_bipush (pc := 138) dX12_firstDraft_138 rfl ?_
                refine j_goto (pc := 140) (tgt := 166) dX12_firstDraft_140 rfl ?_
                refine j_iast (pc := 166) dX12_firstDraft_166 (a_93 hM) (by omega) (by omega) (by decide) (j_nm (fun σ26 (eσ26 : σ26 = tw_up τ 93 (k.toNat) 18) => ?_))
                have hIσ26 : tw_I σ26 := tw_I_up hIτ eσ26 (show (-2147483648 : Int) ≤ 18 ∧ 18 ≤ 2147483647 from by decide)
                have hFσ26 : tw_F (fun c j => (c = 88 ∧ (j = 9 ∨ j = 10)) ∨ (93 ≤ c ∧ c < 98)) σ σ26 := tw_F_up hFτ eσ26 (show (93 = 88 ∧ (k.toNat = 9 ∨ k.toNat = 10)) ∨ (93 ≤ 93 ∧ 93 < 98) from (Or.inr (by decide)))
                refine j_iinc (pc := 167) (i := 1) (n := 1) (ls' := [(0, vR 88), (1, vI (k + 1))]) [1, 0] dX12_firstDraft_167 rfl (Nat.le_of_ble_eq_true rfl) rfl rfl ?_
                refine j_goto (pc := 170) (tgt := 92) dX12_firstDraft_170 rfl ?_
                refine j_ls (ls' := [(0, vR 88), (1, vI (k + 1))]) [0, 1] rfl ?_
                exact ih.2.2.2 (k + 1) ⟨by omega, by omega⟩ σ26 hIσ26 hFσ26 (show Wb 94 92 σ26 205 from Wb_F (fun j => (tw_ne1 eσ26 (by (first | decide | omega)))) i0) (show Wb 93 91 σ26 (k + 1) from (by first | exact Wb_up eσ26 (by omega) i1 (w91 (by omega) (by omega)) (by omega) | exact (fun j hj => by exfalso; omega))) (show Cn 96 (fun _ => 0) σ26 41 from (by first | exact Cn_F (fun j => (tw_ne1 eσ26 (by (first | decide | omega)))) i2 | exact i1)) (show Cn 94 K94 σ26 205 from (by first | exact Cn_F (fun j => (tw_ne1 eσ26 (by (first | decide | omega)))) i3 | exact i2)) (show Cn 95 (fun _ => 0) σ26 11 from (by first | exact Cn_F (fun j => (tw_ne1 eσ26 (by (first | decide | omega)))) i4 | exact (by rw [show (11 : Int) = s from by omega]; exact i3))) (show Cn 97 (fun _ => 0) σ26 11 from (by first | exact Cn_F (fun j => (tw_ne1 eσ26 (by (first | decide | omega)))) i5 | exact (by rw [show (11 : Int) = s from by omega]; exact i4))) (show Cn 93 (fun j => (tw_first.getD j 0).toInt) σ26 (k + 1) from (by first | exact Cn_up eσ26 (by omega) i6 (by show _ = (tw_first.getD k.toNat 0).toInt; rw [first_at ⟨by omega, by omega⟩]; (repeat' split) <;> omega) (by omega) | exact Cn_0)) (show (500 - (k + 1)).toNat < N_ from by omega)
            · refine j_bipush (pc := 128) dX12_firstDraft_128 rfl ?_
              refine j_goto (pc := 130) (tgt := 166) dX12_firstDraft_130 rfl ?_
              refine j_iast (pc := 166) dX12_firstDraft_166 (a_93 hM) (by omega) (by omega) (by decide) (j_nm (fun σ27 (eσ27 : σ27 = tw_up τ 93 (k.toNat) 40) => ?_))
              have hIσ27 : tw_I σ27 := tw_I_up hIτ eσ27 (show (-2147483648 : Int) ≤ 40 ∧ 40 ≤ 2147483647 from by decide)
              have hFσ27 : tw_F (fun c j => (c = 88 ∧ (j = 9 ∨ j = 10)) ∨ (93 ≤ c ∧ c < 98)) σ σ27 := tw_F_up hFτ eσ27 (show (93 = 88 ∧ (k.toNat = 9 ∨ k.toNat = 10)) ∨ (93 ≤ 93 ∧ 93 < 98) from (Or.inr (by decide)))
              refine j_iinc (pc := 167) (i := 1) (n := 1) (ls' := [(0, vR 88), (1, vI (k + 1))]) [1, 0] dX12_firstDraft_167 rfl (Nat.le_of_ble_eq_true rfl) rfl rfl ?_
              refine j_goto (pc := 170) (tgt := 92) dX12_firstDraft_170 rfl ?_
              refine j_ls (ls' := [(0, vR 88), (1, vI (k + 1))]) [0, 1] rfl ?_
              exact ih.2.2.2 (k + 1) ⟨by omega, by omega⟩ σ27 hIσ27 hFσ27 (show Wb 94 92 σ27 205 from Wb_F (fun j => (tw_ne1 eσ27 (by (first | decide | omega)))) i0) (show Wb 93 91 σ27 (k + 1) from (by first | exact Wb_up eσ27 (by omega) i1 (w91 (by omega) (by omega)) (by omega) | exact (fun j hj => by exfalso; omega))) (show Cn 96 (fun _ => 0) σ27 41 from (by first | exact Cn_F (fun j => (tw_ne1 eσ27 (by (first | decide | omega)))) i2 | exact i1)) (show Cn 94 K94 σ27 205 from (by first | exact Cn_F (fun j => (tw_ne1 eσ27 (by (first | decide | omega)))) i3 | exact i2)) (show Cn 95 (fun _ => 0) σ27 11 from (by first | exact Cn_F (fun j => (tw_ne1 eσ27 (by (first | decide | omega)))) i4 | exact (by rw [show (11 : Int) = s from by omega]; exact i3))) (show Cn 97 (fun _ => 0) σ27 11 from (by first | exact Cn_F (fun j => (tw_ne1 eσ27 (by (first | decide | omega)))) i5 | exact (by rw [show (11 : Int) = s from by omega]; exact i4))) (show Cn 93 (fun j => (tw_first.getD j 0).toInt) σ27 (k + 1) from (by first | exact Cn_up eσ27 (by omega) i6 (by show _ = (tw_first.getD k.toNat 0).toInt; rw [first_at ⟨by omega, by omega⟩]; (repeat' split) <;> omega) (by omega) | exact Cn_0)) (show (500 - (k + 1)).toNat < N_ from by omega)
          · refine j_sipush (pc := 117) dX12_firstDraft_117 rfl ?_
            refine j_goto (pc := 120) (tgt := 166) dX12_firstDraft_120 rfl ?_
            refine j_iast (pc := 166) dX12_firstDraft_166 (a_93 hM) (by omega) (by omega) (by decide) (j_nm (fun σ28 (eσ28 : σ28 = tw_up τ 93 (k.toNat) 200) => ?_))
            have hIσ28 : tw_I σ28 := tw_I_up hIτ eσ28 (show (-2147483648 : Int) ≤ 200 ∧ 200 ≤ 2147483647 from by decide)
            have hFσ28 : tw_F (fun c j => (c = 88 ∧ (j = 9 ∨ j = 10)) ∨ (93 ≤ c ∧ c < 98)) σ σ28 := tw_F_up hFτ eσ28 (show (93 = 88 ∧ (k.toNat = 9 ∨ k.toNat = 10)) ∨ (93 ≤ 93 ∧ 93 < 98) from (Or.inr (by decide)))
            refine j_iinc (pc := 167) (i := 1) (n := 1) (ls' := [(0, vR 88), (1, vI (k + 1))]) [1, 0] dX12_firstDraft_167 rfl (Nat.le_of_ble_eq_true rfl) rfl rfl ?_
            refine j_goto (pc := 170) (tgt := 92) dX12_firstDraft_170 rfl ?_
            refine j_ls (ls' := [(0, vR 88), (1, vI (k + 1))]) [0, 1] rfl ?_
            exact ih.2.2.2 (k + 1) ⟨by omega, by omega⟩ σ28 hIσ28 hFσ28 (show Wb 94 92 σ28 205 from Wb_F (fun j => (tw_ne1 eσ28 (by (first | decide | omega)))) i0) (show Wb 93 91 σ28 (k + 1) from (by first | exact Wb_up eσ28 (by omega) i1 (w91 (by omega) (by omega)) (by omega) | exact (fun j hj => by exfalso; omega))) (show Cn 96 (fun _ => 0) σ28 41 from (by first | exact Cn_F (fun j => (tw_ne1 eσ28 (by (first | decide | omega)))) i2 | exact i1)) (show Cn 94 K94 σ28 205 from (by first | exact Cn_F (fun j => (tw_ne1 eσ28 (by (first | decide | omega)))) i3 | exact i2)) (show Cn 95 (fun _ => 0) σ28 11 from (by first | exact Cn_F (fun j => (tw_ne1 eσ28 (by (first | decide | omega)))) i4 | exact (by rw [show (11 : Int) = s from by omega]; exact i3))) (show Cn 97 (fun _ => 0) σ28 11 from (by first | exact Cn_F (fun j => (tw_ne1 eσ28 (by (first | decide | omega)))) i5 | exact (by rw [show (11 : Int) = s from by omega]; exact i4))) (show Cn 93 (fun j => (tw_first.getD j 0).toInt) σ28 (k + 1) from (by first | exact Cn_up eσ28 (by omega) i6 (by show _ = (tw_first.getD k.toNat 0).toInt; rw [first_at ⟨by omega, by omega⟩]; (repeat' split) <;> omega) (by omega) | exact Cn_0)) (show (500 - (k + 1)).toNat < N_ from by omega)
        · refine j_bipush (pc := 107) dX12_firstDraft_107 rfl ?_
          refine j_goto (pc := 109) (tgt := 166) dX12_firstDraft_109 rfl ?_
          refine j_iast (pc := 166) dX12_firstDraft_166 (a_93 hM) (by omega) (by omega) (by decide) (j_nm (fun σ29 (eσ29 : σ29 = tw_up τ 93 (k.toNat) 20) => ?_))
          have hIσ29 : tw_I σ29 := tw_I_up hIτ eσ29 (show (-2147483648 : Int) ≤ 20 ∧ 20 ≤ 2147483647 from by decide)
          have hFσ29 : tw_F (fun c j => (c = 88 ∧ (j = 9 ∨ j = 10)) ∨ (93 ≤ c ∧ c < 98)) σ σ29 := tw_F_up hFτ eσ29 (show (93 = 88 ∧ (k.toNat = 9 ∨ k.toNat = 10)) ∨ (93 ≤ 93 ∧ 93 < 98) from (Or.inr (by decide)))
          refine j_iinc (pc := 167) (i := 1) (n := 1) (ls' := [(0, vR 88), (1, vI (k + 1))]) [1, 0] dX12_firstDraft_167 rfl (Nat.le_of_ble_eq_true rfl) rfl rfl ?_
          refine j_goto (pc := 170) (tgt := 92) dX12_firstDraft_170 rfl ?_
          refine j_ls (ls' := [(0, vR 88), (1, vI (k + 1))]) [0, 1] rfl ?_
          exact ih.2.2.2 (k + 1) ⟨by omega, by omega⟩ σ29 hIσ29 hFσ29 (show Wb 94 92 σ29 205 from Wb_F (fun j => (tw_ne1 eσ29 (by (first | decide | omega)))) i0) (show Wb 93 91 σ29 (k + 1) from (by first | exact Wb_up eσ29 (by omega) i1 (w91 (by omega) (by omega)) (by omega) | exact (fun j hj => by exfalso; omega))) (show Cn 96 (fun _ => 0) σ29 41 from (by first | exact Cn_F (fun j => (tw_ne1 eσ29 (by (first | decide | omega)))) i2 | exact i1)) (show Cn 94 K94 σ29 205 from (by first | exact Cn_F (fun j => (tw_ne1 eσ29 (by (first | decide | omega)))) i3 | exact i2)) (show Cn 95 (fun _ => 0) σ29 11 from (by first | exact Cn_F (fun j => (tw_ne1 eσ29 (by (first | decide | omega)))) i4 | exact (by rw [show (11 : Int) = s from by omega]; exact i3))) (show Cn 97 (fun _ => 0) σ29 11 from (by first | exact Cn_F (fun j => (tw_ne1 eσ29 (by (first | decide | omega)))) i5 | exact (by rw [show (11 : Int) = s from by omega]; exact i4))) (show Cn 93 (fun j => (tw_first.getD j 0).toInt) σ29 (k + 1) from (by first | exact Cn_up eσ29 (by omega) i6 (by show _ = (tw_first.getD k.toNat 0).toInt; rw [first_at ⟨by omega, by omega⟩]; (repeat' split) <;> omega) (by omega) | exact Cn_0)) (show (500 - (k + 1)).toNat < N_ from by omega)
set_option maxHeartbeats 4000000 in
set_option maxRecDepth 100000 in
theorem c_X12_firstDraft {G : tw_G} (hM : tw_isM G) (σ : tw_M) (hI : tw_I σ) : tw_C G yX12_firstDraft cX12_firstDraft 3 none 0 [vR 88] σ (q_X12_firstDraft σ) := by
  refine tw_met [(0, vR 88)] (by decide +kernel) rfl (Nat.le_of_ble_eq_true rfl) ?_
  refine j_iconst (pc := 0) dX12_firstDraft_0 ?_
  refine j_istore_n (pc := 1) (i := 1) (ls' := [(0, vR 88), (1, vI 0)]) [1, 0] dX12_firstDraft_1 rfl (Nat.le_of_ble_eq_true rfl) rfl rfl ?_
  refine j_ls (ls' := [(0, vR 88), (1, vI 0)]) [0, 1] rfl ?_
  exact (l_X12_firstDraft hM σ hI (((10000 - 100 * (0 : Int)).toNat) + 1)).1 0 (by (first | decide | exact ⟨by omega, by omega⟩)) σ hI (tw_F_rf) (show Wb 94 92 σ (5 * (0 : Int)) from (fun j hj => by exfalso; omega)) (show Cn 96 (fun _ => 0) σ (0 : Int) from Cn_0) (show Cn 94 K94 σ (5 * (0 : Int)) from (fun j hj => by exfalso; omega)) (Nat.lt_succ_self _)
abbrev q_X12_keepDraft  (σ : tw_M) : Option tw_V → tw_M → Prop := fun z τ => z = none ∧ tw_I τ ∧ tw_F (fun c j => (c = 89 ∧ j < 100) ∨ (90 ≤ c ∧ c < 93)) σ τ ∧ (mI τ) ∧ (τ 90 0 = 0) ∧ (τ 90 1 = 0) ∧ (τ 89 93 = 0) ∧ (τ 89 94 = 0) ∧ (τ 89 95 = 0) ∧ (τ 89 96 = 0) ∧ (wM τ = pwB (drM σ)) ∧ (∀ j : Nat, j < 11 → τ 89 (82 + j) = σ 95 j) ∧ (∀ j : Nat, j < 82 → τ 89 j = 0) ∧ (τ 91 5 = σ 93 5) ∧ (τ 91 6 = σ 93 6)
set_option maxHeartbeats 4000000 in
set_option maxRecDepth 100000 in
theorem l_X12_keepDraft {G : tw_G} (hM : tw_isM G) (σ : tw_M) (hI : tw_I σ) (hq0 : DR σ) (hq1 : σ 89 193 + σ 89 195 ≤ 999) (hq2 : σ 89 293 + σ 89 295 ≤ 999) : ∀ N_ : Nat, (∀ (k : Int) (hk : 0 ≤ k ∧ k ≤ 9) (τ : tw_M) (hIτ : tw_I τ) (hFτ : tw_F (fun c j => (c = 89 ∧ j < 100) ∨ (90 ≤ c ∧ c < 93)) σ τ) (i0 : Cn 91 (σ 93) τ k) (hm : (1000 - k).toNat < N_), tw_J G (tw_mt RX12 cX12_keepDraft 2 none 1) (tw_E G (q_X12_keepDraft σ)) 2 [(0, vR 88), (1, vI k)] [] τ) ∧ (∀ (k : Int) (hk : 0 ≤ k ∧ k ≤ 205) (τ : tw_M) (hIτ : tw_I τ) (hFτ : tw_F (fun c j => (c = 89 ∧ j < 100) ∨ (90 ≤ c ∧ c < 93)) σ τ) (i0 : Cn 91 (σ 93) τ 9) (i1 : Cn 92 (σ 94) τ k) (hm : (500 - k).toNat < N_), tw_J G (tw_mt RX12 cX12_keepDraft 2 none 1) (tw_E G (q_X12_keepDraft σ)) 28 [(0, vR 88), (1, vI k)] [] τ) ∧ (∀ (k : Int) (hk : 0 ≤ k ∧ k ≤ 100) (τ : tw_M) (hIτ : tw_I τ) (hFτ : tw_F (fun c j => (c = 89 ∧ j < 100) ∨ (90 ≤ c ∧ c < 93)) σ τ) (i0 : ∀ j : Nat, (j : Int) < k → (j < 82 ∨ 92 < j) → τ 89 j = 0) (i1 : Cn 91 (σ 93) τ 9) (i2 : Cn 92 (σ 94) τ 205) (i3 : ∀ j : Nat, 82 ≤ j → j ≤ 92 → (j : Int) < k → τ 89 j = σ 95 (j - 82)) (hm : (100 - k).toNat < N_), tw_J G (tw_mt RX12 cX12_keepDraft 2 none 1) (tw_E G (q_X12_keepDraft σ)) 55 [(0, vR 88), (1, vI k)] [] τ) := by
  intro N_
  induction N_ with
  | zero => exact ⟨fun k hk τ hIτ hFτ i0 hm => absurd hm (Nat.not_lt_zero _), fun k hk τ hIτ hFτ i0 i1 hm => absurd hm (Nat.not_lt_zero _), fun k hk τ hIτ hFτ i0 i1 i2 i3 hm => absurd hm (Nat.not_lt_zero _)⟩
  | succ N_ ih =>
    refine ⟨?_, ?_, ?_⟩
    · intro k hk τ hIτ hFτ i0 hm
      have d1 : ∀ j, τ 93 j = σ 93 j := fun j => hFτ 93 j (show ¬ ((93 = 89 ∧ j < 100) ∨ (90 ≤ 93 ∧ 93 < 93)) from fun h => h.elim (fun h => absurd h.1 (by decide)) (fun h => absurd h (by decide)))
      have d2 : ∀ j, τ 94 j = σ 94 j := fun j => hFτ 94 j (show ¬ ((94 = 89 ∧ j < 100) ∨ (90 ≤ 94 ∧ 94 < 93)) from fun h => h.elim (fun h => absurd h.1 (by decide)) (fun h => absurd h (by decide)))
      refine j_iload_n (pc := 2) dX12_keepDraft_2 rfl rfl ?_
      refine j_bipush (pc := 3) dX12_keepDraft_3 rfl ?_
      refine j_icmpR_ge (pc := 5) (tgt := 26) ⟨by omega, by omega⟩ ⟨by omega, by omega⟩ dX12_keepDraft_5 rfl (fun h1 => ?_) (fun h1 => ?_)
      · refine j_iconst (pc := 26) dX12_keepDraft_26 ?_
        refine j_istore_n (pc := 27) (i := 1) (ls' := [(0, vR 88), (1, vI 0)]) [1, 0] dX12_keepDraft_27 rfl (Nat.le_of_ble_eq_true rfl) rfl rfl ?_
        refine j_ls (ls' := [(0, vR 88), (1, vI 0)]) [0, 1] rfl ?_
        exact ih.2.1 0 (by (first | decide | exact ⟨by omega, by omega⟩)) τ hIτ hFτ (show Cn 91 (σ 93) τ 9 from (by first | exact Cn_F (fun j => rfl) i0 | (rw [show (9 : Int) = k from by omega]; exact i0))) (show Cn 92 (σ 94) τ (0 : Int) from (by first | exact Cn_0 | exact Cn_up _ (by omega) i1 (hFτ 94 _ (show ¬ ((94 = 89 ∧ k.toNat < 100) ∨ (90 ≤ 94 ∧ 94 < 93)) from fun h => h.elim (fun h => absurd h.1 (by decide)) (fun h => absurd h (by decide)))) (by omega))) (show (500 - (0 : Int)).toNat < N_ from by omega)
      · refine j_aload_n (pc := 8) dX12_keepDraft_8 rfl rfl ?_
        refine j_getR (pc := 9) (r := 91) fl_X12_17 dX12_keepDraft_9 (a_88 hM) rfl ?_
        refine j_iload_n (pc := 12) dX12_keepDraft_12 rfl rfl ?_
        refine j_aload_n (pc := 13) dX12_keepDraft_13 rfl rfl ?_
        refine j_getR (pc := 14) (r := 93) fl_X12_23 dX12_keepDraft_14 (a_88 hM) rfl ?_
        refine j_iload_n (pc := 17) dX12_keepDraft_17 rfl rfl ?_
        refine j_iald (pc := 18) dX12_keepDraft_18 (a_93 hM) (by omega) (by omega) (by decide) ?_
        have f2 : (-2147483648 : Int) ≤ τ 93 (k.toNat) ∧ τ 93 (k.toNat) ≤ 2147483647 := hIτ 93 (k.toNat)
        refine j_iast (pc := 19) dX12_keepDraft_19 (a_91 hM) (by omega) (by omega) (by decide) (j_nm (fun σ3 (eσ3 : σ3 = tw_up τ 91 (k.toNat) (τ 93 (k.toNat))) => ?_))
        have hIσ3 : tw_I σ3 := tw_I_up hIτ eσ3  (by rw [d1]; exact hq0.2 _ (by omega))
        have hFσ3 : tw_F (fun c j => (c = 89 ∧ j < 100) ∨ (90 ≤ c ∧ c < 93)) σ σ3 := tw_F_up hFτ eσ3 (show (91 = 89 ∧ k.toNat < 100) ∨ (90 ≤ 91 ∧ 91 < 93) from (Or.inr (by decide)))
        refine j_iinc (pc := 20) (i := 1) (n := 1) (ls' := [(0, vR 88), (1, vI (k + 1))]) [1, 0] dX12_keepDraft_20 rfl (Nat.le_of_ble_eq_true rfl) rfl rfl ?_
        refine j_goto (pc := 23) (tgt := 2) dX12_keepDraft_23 rfl ?_
        refine j_ls (ls' := [(0, vR 88), (1, vI (k + 1))]) [0, 1] rfl ?_
        exact ih.1 (k + 1) ⟨by omega, by omega⟩ σ3 hIσ3 hFσ3 (show Cn 91 (σ 93) σ3 (k + 1) from (by first | exact Cn_0 | exact Cn_up eσ3 (by omega) i0 (hFτ 93 _ (show ¬ ((93 = 89 ∧ k.toNat < 100) ∨ (90 ≤ 93 ∧ 93 < 93)) from fun h => h.elim (fun h => absurd h.1 (by decide)) (fun h => absurd h (by decide)))) (by omega))) (show (1000 - (k + 1)).toNat < N_ from by omega)
    · intro k hk τ hIτ hFτ i0 i1 hm
      have d1 : ∀ j, τ 93 j = σ 93 j := fun j => hFτ 93 j (show ¬ ((93 = 89 ∧ j < 100) ∨ (90 ≤ 93 ∧ 93 < 93)) from fun h => h.elim (fun h => absurd h.1 (by decide)) (fun h => absurd h (by decide)))
      have d2 : ∀ j, τ 94 j = σ 94 j := fun j => hFτ 94 j (show ¬ ((94 = 89 ∧ j < 100) ∨ (90 ≤ 94 ∧ 94 < 93)) from fun h => h.elim (fun h => absurd h.1 (by decide)) (fun h => absurd h (by decide)))
      refine j_iload_n (pc := 28) dX12_keepDraft_28 rfl rfl ?_
      refine j_sipush (pc := 29) dX12_keepDraft_29 rfl ?_
      refine j_icmpR_ge (pc := 32) (tgt := 53) ⟨by omega, by omega⟩ ⟨by omega, by omega⟩ dX12_keepDraft_32 rfl (fun h4 => ?_) (fun h4 => ?_)
      · refine j_iconst (pc := 53) dX12_keepDraft_53 ?_
        refine j_istore_n (pc := 54) (i := 1) (ls' := [(0, vR 88), (1, vI 0)]) [1, 0] dX12_keepDraft_54 rfl (Nat.le_of_ble_eq_true rfl) rfl rfl ?_
        refine j_ls (ls' := [(0, vR 88), (1, vI 0)]) [0, 1] rfl ?_
        exact ih.2.2 0 (by (first | decide | exact ⟨by omega, by omega⟩)) τ hIτ hFτ (show ∀ j : Nat, (j : Int) < (0 : Int) → (j < 82 ∨ 92 < j) → τ 89 j = 0 from (by first | exact (fun j hj hk => by exfalso; omega) | exact (fun j hj hk => by by_cases q : (j : Int) = k; (first | (exfalso; omega) | exact tw_eq2 _ (by omega)); (rw [tw_ne1 _ (by omega)]; exact i0 j (by omega) hk)))) (show Cn 91 (σ 93) τ 9 from (by first | exact Cn_F (fun j => rfl) i1 | exact i0)) (show Cn 92 (σ 94) τ 205 from (by first | exact Cn_F (fun j => rfl) i2 | (rw [show (205 : Int) = k from by omega]; exact i1))) (show ∀ j : Nat, 82 ≤ j → j ≤ 92 → (j : Int) < (0 : Int) → τ 89 j = σ 95 (j - 82) from (fun j j1 j2 hj => by first | (exfalso; omega) | (by_cases q : (j : Int) = k; (first | (exfalso; omega) | (rw [tw_eq2 _ (by omega), show j - 82 = (k - 82).toNat from by omega]; exact hFτ 95 _ (show ¬ ((95 = 89 ∧ (k - 82).toNat < 100) ∨ (90 ≤ 95 ∧ 95 < 93)) from fun h => h.elim (fun h => absurd h.1 (by decide)) (fun h => absurd h (by decide))))); (rw [tw_ne1 _ (by omega)]; exact i3 j j1 j2 (by omega))))) (show (100 - (0 : Int)).toNat < N_ from by omega)
      · refine j_aload_n (pc := 35) dX12_keepDraft_35 rfl rfl ?_
        refine j_getR (pc := 36) (r := 92) fl_X12_20 dX12_keepDraft_36 (a_88 hM) rfl ?_
        refine j_iload_n (pc := 39) dX12_keepDraft_39 rfl rfl ?_
        refine j_aload_n (pc := 40) dX12_keepDraft_40 rfl rfl ?_
        refine j_getR (pc := 41) (r := 94) fl_X12_26 dX12_keepDraft_41 (a_88 hM) rfl ?_
        refine j_iload_n (pc := 44) dX12_keepDraft_44 rfl rfl ?_
        refine j_iald (pc := 45) dX12_keepDraft_45 (a_94 hM) (by omega) (by omega) (by decide) ?_
        have f5 : (-2147483648 : Int) ≤ τ 94 (k.toNat) ∧ τ 94 (k.toNat) ≤ 2147483647 := hIτ 94 (k.toNat)
        refine j_iast (pc := 46) dX12_keepDraft_46 (a_92 hM) (by omega) (by omega) (by decide) (j_nm (fun σ6 (eσ6 : σ6 = tw_up τ 92 (k.toNat) (τ 94 (k.toNat))) => ?_))
        have hIσ6 : tw_I σ6 := tw_I_up hIτ eσ6  (by rw [d2]; exact hq0.1 _ (by omega))
        have hFσ6 : tw_F (fun c j => (c = 89 ∧ j < 100) ∨ (90 ≤ c ∧ c < 93)) σ σ6 := tw_F_up hFτ eσ6 (show (92 = 89 ∧ k.toNat < 100) ∨ (90 ≤ 92 ∧ 92 < 93) from (Or.inr (by decide)))
        refine j_iinc (pc := 47) (i := 1) (n := 1) (ls' := [(0, vR 88), (1, vI (k + 1))]) [1, 0] dX12_keepDraft_47 rfl (Nat.le_of_ble_eq_true rfl) rfl rfl ?_
        refine j_goto (pc := 50) (tgt := 28) dX12_keepDraft_50 rfl ?_
        refine j_ls (ls' := [(0, vR 88), (1, vI (k + 1))]) [0, 1] rfl ?_
        exact ih.2.1 (k + 1) ⟨by omega, by omega⟩ σ6 hIσ6 hFσ6 (show Cn 91 (σ 93) σ6 9 from (by first | exact Cn_F (fun j => (tw_ne1 eσ6 (by (first | decide | omega)))) i0 | (rw [show (9 : Int) = k from by omega]; exact i0))) (show Cn 92 (σ 94) σ6 (k + 1) from (by first | exact Cn_0 | exact Cn_up eσ6 (by omega) i1 (hFτ 94 _ (show ¬ ((94 = 89 ∧ k.toNat < 100) ∨ (90 ≤ 94 ∧ 94 < 93)) from fun h => h.elim (fun h => absurd h.1 (by decide)) (fun h => absurd h (by decide)))) (by omega))) (show (500 - (k + 1)).toNat < N_ from by omega)
    · intro k hk τ hIτ hFτ i0 i1 i2 i3 hm
      have d1 : ∀ j, τ 93 j = σ 93 j := fun j => hFτ 93 j (show ¬ ((93 = 89 ∧ j < 100) ∨ (90 ≤ 93 ∧ 93 < 93)) from fun h => h.elim (fun h => absurd h.1 (by decide)) (fun h => absurd h (by decide)))
      have d2 : ∀ j, τ 94 j = σ 94 j := fun j => hFτ 94 j (show ¬ ((94 = 89 ∧ j < 100) ∨ (90 ≤ 94 ∧ 94 < 93)) from fun h => h.elim (fun h => absurd h.1 (by decide)) (fun h => absurd h (by decide)))
      have m1 := hFτ 89 193 (show ¬ ((89 = 89 ∧ 193 < 100) ∨ (90 ≤ 89 ∧ 89 < 93)) from by decide)
      have m2 := hFτ 89 195 (show ¬ ((89 = 89 ∧ 195 < 100) ∨ (90 ≤ 89 ∧ 89 < 93)) from by decide)
      have m3 := hFτ 89 293 (show ¬ ((89 = 89 ∧ 293 < 100) ∨ (90 ≤ 89 ∧ 89 < 93)) from by decide)
      have m4 := hFτ 89 295 (show ¬ ((89 = 89 ∧ 295 < 100) ∨ (90 ≤ 89 ∧ 89 < 93)) from by decide)
      refine j_iload_n (pc := 55) dX12_keepDraft_55 rfl rfl ?_
      refine j_bipush (pc := 56) dX12_keepDraft_56 rfl ?_
      refine j_icmpR_ge (pc := 58) (tgt := 100) ⟨by omega, by omega⟩ ⟨by omega, by omega⟩ dX12_keepDraft_58 rfl (fun h7 => ?_) (fun h7 => ?_)
      · refine j_aload_n (pc := 100) dX12_keepDraft_100 rfl rfl ?_
        refine j_getR (pc := 101) (r := 90) fl_X12_13 dX12_keepDraft_101 (a_88 hM) rfl ?_
        refine j_iconst (pc := 104) dX12_keepDraft_104 ?_
        refine j_iconst (pc := 105) dX12_keepDraft_105 ?_
        refine j_zast (pc := 106) (by omega) dX12_keepDraft_106 (a_90 hM) (by omega) (by omega) (by decide) (j_nm (fun σ8 (eσ8 : σ8 = tw_up τ 90 0 0) => ?_))
        have hIσ8 : tw_I σ8 := tw_I_up hIτ eσ8 (show (0 : Int) ≤ 0 ∧ 0 ≤ 1 from by decide)
        have hFσ8 : tw_F (fun c j => (c = 89 ∧ j < 100) ∨ (90 ≤ c ∧ c < 93)) σ σ8 := tw_F_up hFτ eσ8 (show (90 = 89 ∧ 0 < 100) ∨ (90 ≤ 90 ∧ 90 < 93) from (Or.inr (by decide)))
        refine j_aload_n (pc := 107) dX12_keepDraft_107 rfl rfl ?_
        refine j_getR (pc := 108) (r := 90) fl_X12_13 dX12_keepDraft_108 (a_88 hM) rfl ?_
        refine j_iconst (pc := 111) dX12_keepDraft_111 ?_
        refine j_iconst (pc := 112) dX12_keepDraft_112 ?_
        refine j_zast (pc := 113) (by omega) dX12_keepDraft_113 (a_90 hM) (by omega) (by omega) (by decide) (j_nm (fun σ9 (eσ9 : σ9 = tw_up σ8 90 1 0) => ?_))
        have hIσ9 : tw_I σ9 := tw_I_up hIσ8 eσ9 (show (0 : Int) ≤ 0 ∧ 0 ≤ 1 from by decide)
        have hFσ9 : tw_F (fun c j => (c = 89 ∧ j < 100) ∨ (90 ≤ c ∧ c < 93)) σ σ9 := tw_F_up hFσ8 eσ9 (show (90 = 89 ∧ 1 < 100) ∨ (90 ≤ 90 ∧ 90 < 93) from (Or.inr (by decide)))
        have y10 : σ9 90 0 = 0 := ((tw_ne1 eσ9 (by (first | decide | omega)))).trans (tw_eq1 eσ8)
        have y11 : σ9 90 1 = 0 := (tw_eq1 eσ9)
        have y12 : σ9 89 93 = τ 89 93 := ((tw_ne1 eσ9 (by (first | decide | omega)))).trans (tw_ne1 eσ8 (by (first | decide | omega)))
        have f13 : (0 : Int) ≤ τ 89 93 ∧ τ 89 93 ≤ 999 := hIτ 89 93
        have y14 : σ9 89 94 = τ 89 94 := ((tw_ne1 eσ9 (by (first | decide | omega)))).trans (tw_ne1 eσ8 (by (first | decide | omega)))
        have f15 : (-2147483648 : Int) ≤ τ 89 94 ∧ τ 89 94 ≤ 2147483647 := hIτ 89 94
        have y16 : σ9 89 95 = τ 89 95 := ((tw_ne1 eσ9 (by (first | decide | omega)))).trans (tw_ne1 eσ8 (by (first | decide | omega)))
        have f17 : (0 : Int) ≤ τ 89 95 ∧ τ 89 95 ≤ 999 := hIτ 89 95
        have y18 : σ9 89 96 = τ 89 96 := ((tw_ne1 eσ9 (by (first | decide | omega)))).trans (tw_ne1 eσ8 (by (first | decide | omega)))
        have f19 : (-2147483648 : Int) ≤ τ 89 96 ∧ τ 89 96 ≤ 2147483647 := hIτ 89 96
        have y20 : σ9 91 5 = τ 91 5 := ((tw_ne1 eσ9 (by (first | decide | omega)))).trans (tw_ne1 eσ8 (by (first | decide | omega)))
        have f21 : (-2147483648 : Int) ≤ τ 91 5 ∧ τ 91 5 ≤ 2147483647 := hIτ 91 5
        have y22 : σ9 91 6 = τ 91 6 := ((tw_ne1 eσ9 (by (first | decide | omega)))).trans (tw_ne1 eσ8 (by (first | decide | omega)))
        have f23 : (-2147483648 : Int) ≤ τ 91 6 ∧ τ 91 6 ≤ 2147483647 := hIτ 91 6
        exact j_vret (pc := 114) ⟨rfl, rfl⟩ dX12_keepDraft_114 rfl ⟨rfl, hIσ9, hFσ9, mI_kd (fun j hk hj => (((tw_ne1 eσ9 (by (first | decide | omega)))).trans (tw_ne1 eσ8 (by (first | decide | omega)))).trans (i0 j (by omega) hk)) ((tw_ne1 eσ9 (by (first | decide | omega))).trans (tw_eq1 eσ8)) (tw_eq1 eσ9) (by rw [show σ9 89 193 = τ 89 193 from ((tw_ne1 eσ9 (by (first | decide | omega)))).trans (tw_ne1 eσ8 (by (first | decide | omega))), show σ9 89 195 = τ 89 195 from ((tw_ne1 eσ9 (by (first | decide | omega)))).trans (tw_ne1 eσ8 (by (first | decide | omega)))]; omega) (by rw [show σ9 89 293 = τ 89 293 from ((tw_ne1 eσ9 (by (first | decide | omega)))).trans (tw_ne1 eσ8 (by (first | decide | omega))), show σ9 89 295 = τ 89 295 from ((tw_ne1 eσ9 (by (first | decide | omega)))).trans (tw_ne1 eσ8 (by (first | decide | omega)))]; omega) (by have q : (1 : Int) ≤ σ9 91 0 ∧ σ9 91 0 ≤ 40 := hIσ9 91 0; omega), by omega, by omega, ((((tw_ne1 eσ9 (by (first | decide | omega)))).trans (tw_ne1 eσ8 (by (first | decide | omega)))).trans (i0 93 (by omega) (by omega))), ((((tw_ne1 eσ9 (by (first | decide | omega)))).trans (tw_ne1 eσ8 (by (first | decide | omega)))).trans (i0 94 (by omega) (by omega))), ((((tw_ne1 eσ9 (by (first | decide | omega)))).trans (tw_ne1 eσ8 (by (first | decide | omega)))).trans (i0 95 (by omega) (by omega))), ((((tw_ne1 eσ9 (by (first | decide | omega)))).trans (tw_ne1 eσ8 (by (first | decide | omega)))).trans (i0 96 (by omega) (by omega))), (wM_of (Cn_F (fun j => ((tw_ne1 eσ9 (by (first | decide | omega)))).trans (tw_ne1 eσ8 (by (first | decide | omega)))) i1) (Cn_F (fun j => ((tw_ne1 eσ9 (by (first | decide | omega)))).trans (tw_ne1 eσ8 (by (first | decide | omega)))) i2)), (fun j hj => (((tw_ne1 eσ9 (by (first | decide | omega)))).trans (tw_ne1 eσ8 (by (first | decide | omega)))).trans ((i3 (82 + j) (by omega) (by omega) (by omega)).trans (congrArg (σ 95) (by omega)))), (fun j hj => (((tw_ne1 eσ9 (by (first | decide | omega)))).trans (tw_ne1 eσ8 (by (first | decide | omega)))).trans (i0 j (by omega) (Or.inl hj))), ((((tw_ne1 eσ9 (by (first | decide | omega)))).trans (tw_ne1 eσ8 (by (first | decide | omega)))).trans (i1 5 (by omega))), ((((tw_ne1 eσ9 (by (first | decide | omega)))).trans (tw_ne1 eσ8 (by (first | decide | omega)))).trans (i1 6 (by omega)))⟩
      · refine j_aload_n (pc := 61) dX12_keepDraft_61 rfl rfl ?_
        refine j_getR (pc := 62) (r := 89) fl_X12_7 dX12_keepDraft_62 (a_88 hM) rfl ?_
        refine j_iload_n (pc := 65) dX12_keepDraft_65 rfl rfl ?_
        refine j_iload_n (pc := 66) dX12_keepDraft_66 rfl rfl ?_
        refine j_i2l (pc := 67) dX12_keepDraft_67 ?_
        rw [w32_eq (a := k) (by omega) (by omega)]
        refine j_ldc2 (pc := 68) (z := 82) dX12_keepDraft_68 (tw_inc tm_6 (i := 4) rfl rfl) ?_
        refine j_ldc2 (pc := 71) (z := 92) dX12_keepDraft_71 (tw_inc tm_6 (i := 5) rfl rfl) ?_
        refine j_callS (pc := 74) (As := [vL k, vL 82, vL 92]) (st := [vI k, vR 89]) (c_X12_in k ⟨by omega, by omega⟩ 82 (by (first | decide | exact ⟨by omega, by omega⟩)) 92 (by (first | decide | exact ⟨by omega, by omega⟩)) τ hIτ) ms_X12_82 rfl dX12_keepDraft_74 ⟨Nat.le_of_ble_eq_true rfl, Nat.le_of_ble_eq_true rfl⟩ ⟨Nat.le_refl _, Nat.le_refl _⟩ rfl (Nat.le_of_ble_eq_true rfl) rfl (fun z24 σ25 hz24 => ?_)
        obtain ⟨r27, rfl, hr27, rfl, q26_0⟩ := hz24
        replace q26_0 : (r27 = 1 ∧ (82 : Int) ≤ k ∧ k ≤ (92 : Int)) ∨ (r27 = 0 ∧ ¬ ((82 : Int) ≤ k ∧ k ≤ (92 : Int))) := q26_0
        refine j_st (st' := [vI r27, vI k, vR 89]) rfl ?_
        refine j_ifR_eq (pc := 77) (tgt := 92) ⟨by omega, by omega⟩ dX12_keepDraft_77 rfl (fun h28 => ?_) (fun h28 => ?_)
        · refine j_iconst (pc := 92) dX12_keepDraft_92 ?_
          refine j_iast (pc := 93) dX12_keepDraft_93 (a_89 hM) (by omega) (by omega) (by decide) (j_nm (fun σ29 (eσ29 : σ29 = tw_up τ 89 (k.toNat) 0) => ?_))
          have hIσ29 : tw_I σ29 := tw_I_up hIτ eσ29  (by first | exact st_w0 | exact st_wd (by omega) (by omega))
          have hFσ29 : tw_F (fun c j => (c = 89 ∧ j < 100) ∨ (90 ≤ c ∧ c < 93)) σ σ29 := tw_F_up hFτ eσ29 (show (89 = 89 ∧ k.toNat < 100) ∨ (90 ≤ 89 ∧ 89 < 93) from by omega)
          refine j_iinc (pc := 94) (i := 1) (n := 1) (ls' := [(0, vR 88), (1, vI (k + 1))]) [1, 0] dX12_keepDraft_94 rfl (Nat.le_of_ble_eq_true rfl) rfl rfl ?_
          refine j_goto (pc := 97) (tgt := 55) dX12_keepDraft_97 rfl ?_
          refine j_ls (ls' := [(0, vR 88), (1, vI (k + 1))]) [0, 1] rfl ?_
          exact ih.2.2 (k + 1) ⟨by omega, by omega⟩ σ29 hIσ29 hFσ29 (show ∀ j : Nat, (j : Int) < (k + 1) → (j < 82 ∨ 92 < j) → σ29 89 j = 0 from (by first | exact (fun j hj hk => by exfalso; omega) | exact (fun j hj hk => by by_cases q : (j : Int) = k; (first | (exfalso; omega) | exact tw_eq2 eσ29 (by omega)); (rw [tw_ne1 eσ29 (by (first | decide | omega))]; exact i0 j (by omega) hk)))) (show Cn 91 (σ 93) σ29 9 from (by first | exact Cn_F (fun j => (tw_ne1 eσ29 (by (first | decide | omega)))) i1 | exact i0)) (show Cn 92 (σ 94) σ29 205 from (by first | exact Cn_F (fun j => (tw_ne1 eσ29 (by (first | decide | omega)))) i2 | (rw [show (205 : Int) = k from by omega]; exact i1))) (show ∀ j : Nat, 82 ≤ j → j ≤ 92 → (j : Int) < (k + 1) → σ29 89 j = σ 95 (j - 82) from (fun j j1 j2 hj => by first | (exfalso; omega) | (by_cases q : (j : Int) = k; (first | (exfalso; omega) | (rw [tw_eq2 eσ29 (by omega), show j - 82 = (k - 82).toNat from by omega]; exact hFτ 95 _ (show ¬ ((95 = 89 ∧ (k - 82).toNat < 100) ∨ (90 ≤ 95 ∧ 95 < 93)) from fun h => h.elim (fun h => absurd h.1 (by decide)) (fun h => absurd h (by decide))))); (rw [tw_ne1 eσ29 (by (first | decide | omega))]; exact i3 j j1 j2 (by omega))))) (show (100 - (k + 1)).toNat < N_ from by omega)
        · refine j_aload_n (pc := 80) dX12_keepDraft_80 rfl rfl ?_
          refine j_getR (pc := 81) (r := 95) fl_X12_29 dX12_keepDraft_81 (a_88 hM) rfl ?_
          refine j_iload_n (pc := 84) dX12_keepDraft_84 rfl rfl ?_
          refine j_bipush (pc := 85) dX12_keepDraft_85 rfl ?_
          refine j_isub (pc := 87) dX12_keepDraft_87 ?_
          refine j_iald (pc := 88) dX12_keepDraft_88 (a_95 hM) (by omega) (by omega) (by decide) ?_
          have f30 : (-2147483648 : Int) ≤ τ 95 ((k - 82).toNat) ∧ τ 95 ((k - 82).toNat) ≤ 2147483647 := hIτ 95 ((k - 82).toNat)
          refine j_goto (pc := 89) (tgt := 93) dX12_keepDraft_89 rfl ?_
          refine j_iast (pc := 93) dX12_keepDraft_93 (a_89 hM) (by omega) (by omega) (by decide) (j_nm (fun σ31 (eσ31 : σ31 = tw_up τ 89 (k.toNat) (τ 95 ((k - 82).toNat))) => ?_))
          have hIσ31 : tw_I σ31 := tw_I_up hIτ eσ31  (by first | exact st_w0 | exact st_wd (by omega) (by omega))
          have hFσ31 : tw_F (fun c j => (c = 89 ∧ j < 100) ∨ (90 ≤ c ∧ c < 93)) σ σ31 := tw_F_up hFτ eσ31 (show (89 = 89 ∧ k.toNat < 100) ∨ (90 ≤ 89 ∧ 89 < 93) from by omega)
          refine j_iinc (pc := 94) (i := 1) (n := 1) (ls' := [(0, vR 88), (1, vI (k + 1))]) [1, 0] dX12_keepDraft_94 rfl (Nat.le_of_ble_eq_true rfl) rfl rfl ?_
          refine j_goto (pc := 97) (tgt := 55) dX12_keepDraft_97 rfl ?_
          refine j_ls (ls' := [(0, vR 88), (1, vI (k + 1))]) [0, 1] rfl ?_
          exact ih.2.2 (k + 1) ⟨by omega, by omega⟩ σ31 hIσ31 hFσ31 (show ∀ j : Nat, (j : Int) < (k + 1) → (j < 82 ∨ 92 < j) → σ31 89 j = 0 from (by first | exact (fun j hj hk => by exfalso; omega) | exact (fun j hj hk => by by_cases q : (j : Int) = k; (first | (exfalso; omega) | exact tw_eq2 eσ31 (by omega)); (rw [tw_ne1 eσ31 (by (first | decide | omega))]; exact i0 j (by omega) hk)))) (show Cn 91 (σ 93) σ31 9 from (by first | exact Cn_F (fun j => (tw_ne1 eσ31 (by (first | decide | omega)))) i1 | exact i0)) (show Cn 92 (σ 94) σ31 205 from (by first | exact Cn_F (fun j => (tw_ne1 eσ31 (by (first | decide | omega)))) i2 | (rw [show (205 : Int) = k from by omega]; exact i1))) (show ∀ j : Nat, 82 ≤ j → j ≤ 92 → (j : Int) < (k + 1) → σ31 89 j = σ 95 (j - 82) from (fun j j1 j2 hj => by first | (exfalso; omega) | (by_cases q : (j : Int) = k; (first | (exfalso; omega) | (rw [tw_eq2 eσ31 (by omega), show j - 82 = (k - 82).toNat from by omega]; exact hFτ 95 _ (show ¬ ((95 = 89 ∧ (k - 82).toNat < 100) ∨ (90 ≤ 95 ∧ 95 < 93)) from fun h => h.elim (fun h => absurd h.1 (by decide)) (fun h => absurd h (by decide))))); (rw [tw_ne1 eσ31 (by (first | decide | omega))]; exact i3 j j1 j2 (by omega))))) (show (100 - (k + 1)).toNat < N_ from by omega)
set_option maxHeartbeats 4000000 in
set_option maxRecDepth 100000 in
theorem c_X12_keepDraft {G : tw_G} (hM : tw_isM G) (σ : tw_M) (hI : tw_I σ) (hq0 : DR σ) (hq1 : σ 89 193 + σ 89 195 ≤ 999) (hq2 : σ 89 293 + σ 89 295 ≤ 999) : tw_C G yX12_keepDraft cX12_keepDraft 2 none 1 [vR 88] σ (q_X12_keepDraft σ) := by
  refine tw_met [(0, vR 88)] (by decide +kernel) rfl (Nat.le_of_ble_eq_true rfl) ?_
  refine j_iconst (pc := 0) dX12_keepDraft_0 ?_
  refine j_istore_n (pc := 1) (i := 1) (ls' := [(0, vR 88), (1, vI 0)]) [1, 0] dX12_keepDraft_1 rfl (Nat.le_of_ble_eq_true rfl) rfl rfl ?_
  refine j_ls (ls' := [(0, vR 88), (1, vI 0)]) [0, 1] rfl ?_
  exact (l_X12_keepDraft hM σ hI hq0 hq1 hq2 (((1000 - (0 : Int)).toNat) + 1)).1 0 (by (first | decide | exact ⟨by omega, by omega⟩)) σ hI (tw_F_rf) (show Cn 91 (σ 93) σ (0 : Int) from (by first | exact Cn_0 | exact Cn_up _ (by omega) i0 (hFτ 93 _ (show ¬ ((93 = 89 ∧ k.toNat < 100) ∨ (90 ≤ 93 ∧ 93 < 93)) from fun h => h.elim (fun h => absurd h.1 (by decide)) (fun h => absurd h (by decide)))) (by omega))) (Nat.lt_succ_self _)
