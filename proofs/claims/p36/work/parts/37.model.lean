/-! 37.model -/
theorem dX12_readLine_0 : decode cX12_readLine 0 = .ok (.aload_n 0, 1) := by decide +kernel
theorem dX12_readLine_1 : decode cX12_readLine 1 = .ok (.getfield 115, 3) := by decide +kernel
theorem dX12_readLine_4 : decode cX12_readLine 4 = .ok (.iconst 1, 1) := by decide +kernel
theorem dX12_readLine_5 : decode cX12_readLine 5 = .ok (.if_icmp .ne 10, 3) := by decide +kernel
theorem dX12_readLine_8 : decode cX12_readLine 8 = .ok (.aload_n 0, 1) := by decide +kernel
theorem dX12_readLine_9 : decode cX12_readLine 9 = .ok (.invokevirtual 144, 3) := by decide +kernel
theorem dX12_readLine_12 : decode cX12_readLine 12 = .ok (.goto 5, 3) := by decide +kernel
theorem dX12_readLine_15 : decode cX12_readLine 15 = .ok (.bipush (-4), 2) := by decide +kernel
theorem dX12_readLine_17 : decode cX12_readLine 17 = .ok (.istore_n 1, 1) := by decide +kernel
theorem dX12_readLine_18 : decode cX12_readLine 18 = .ok (.aload_n 0, 1) := by decide +kernel
theorem dX12_readLine_19 : decode cX12_readLine 19 = .ok (.iload_n 1, 1) := by decide +kernel
theorem dX12_readLine_20 : decode cX12_readLine 20 = .ok (.i2l, 1) := by decide +kernel
theorem dX12_readLine_21 : decode cX12_readLine 21 = .ok (.lconst 0, 1) := by decide +kernel
theorem dX12_readLine_22 : decode cX12_readLine 22 = .ok (.ldc2_w 147, 3) := by decide +kernel
theorem dX12_readLine_25 : decode cX12_readLine 25 = .ok (.invokestatic 82, 3) := by decide +kernel
theorem dX12_readLine_28 : decode cX12_readLine 28 = .ok (.ifCond .ne 15, 3) := by decide +kernel
theorem dX12_readLine_31 : decode cX12_readLine 31 = .ok (.iload_n 1, 1) := by decide +kernel
theorem dX12_readLine_32 : decode cX12_readLine 32 = .ok (.bipush 10, 2) := by decide +kernel
theorem dX12_readLine_34 : decode cX12_readLine 34 = .ok (.if_icmp .eq 9, 3) := by decide +kernel
theorem dX12_readLine_37 : decode cX12_readLine 37 = .ok (.iload_n 1, 1) := by decide +kernel
theorem dX12_readLine_38 : decode cX12_readLine 38 = .ok (.bipush 11, 2) := by decide +kernel
theorem dX12_readLine_40 : decode cX12_readLine 40 = .ok (.if_icmp .ne 7, 3) := by decide +kernel
theorem dX12_readLine_43 : decode cX12_readLine 43 = .ok (.iconst 1, 1) := by decide +kernel
theorem dX12_readLine_44 : decode cX12_readLine 44 = .ok (.goto 4, 3) := by decide +kernel
theorem dX12_readLine_47 : decode cX12_readLine 47 = .ok (.iconst 0, 1) := by decide +kernel
theorem dX12_readLine_48 : decode cX12_readLine 48 = .ok (.iconst 2, 1) := by decide +kernel
theorem dX12_readLine_49 : decode cX12_readLine 49 = .ok (.invokevirtual 129, 3) := by decide +kernel
theorem dX12_readLine_52 : decode cX12_readLine 52 = .ok (.aload_n 0, 1) := by decide +kernel
theorem dX12_readLine_53 : decode cX12_readLine 53 = .ok (.getfield 91, 3) := by decide +kernel
theorem dX12_readLine_56 : decode cX12_readLine 56 = .ok (.ifCond .ne 42, 3) := by decide +kernel
theorem dX12_readLine_59 : decode cX12_readLine 59 = .ok (.iload_n 1, 1) := by decide +kernel
theorem dX12_readLine_60 : decode cX12_readLine 60 = .ok (.bipush 10, 2) := by decide +kernel
theorem dX12_readLine_62 : decode cX12_readLine 62 = .ok (.if_icmp .ge 36, 3) := by decide +kernel
theorem dX12_readLine_65 : decode cX12_readLine 65 = .ok (.aload_n 0, 1) := by decide +kernel
theorem dX12_readLine_66 : decode cX12_readLine 66 = .ok (.aload_n 0, 1) := by decide +kernel
theorem dX12_readLine_67 : decode cX12_readLine 67 = .ok (.getfield 71, 3) := by decide +kernel
theorem dX12_readLine_70 : decode cX12_readLine 70 = .ok (.iload_n 1, 1) := by decide +kernel
theorem dX12_readLine_71 : decode cX12_readLine 71 = .ok (.ishr, 1) := by decide +kernel
theorem dX12_readLine_72 : decode cX12_readLine 72 = .ok (.iconst 1, 1) := by decide +kernel
theorem dX12_readLine_73 : decode cX12_readLine 73 = .ok (.iand, 1) := by decide +kernel
theorem dX12_readLine_74 : decode cX12_readLine 74 = .ok (.ifCond .ne 7, 3) := by decide +kernel
theorem dX12_readLine_77 : decode cX12_readLine 77 = .ok (.iconst 1, 1) := by decide +kernel
theorem dX12_readLine_78 : decode cX12_readLine 78 = .ok (.goto 4, 3) := by decide +kernel
theorem dX12_readLine_81 : decode cX12_readLine 81 = .ok (.iconst 0, 1) := by decide +kernel
theorem dX12_readLine_82 : decode cX12_readLine 82 = .ok (.iconst 4, 1) := by decide +kernel
theorem dX12_readLine_83 : decode cX12_readLine 83 = .ok (.invokevirtual 129, 3) := by decide +kernel
theorem dX12_readLine_86 : decode cX12_readLine 86 = .ok (.aload_n 0, 1) := by decide +kernel
theorem dX12_readLine_87 : decode cX12_readLine 87 = .ok (.dup, 1) := by decide +kernel
theorem dX12_readLine_88 : decode cX12_readLine 88 = .ok (.getfield 71, 3) := by decide +kernel
theorem dX12_readLine_91 : decode cX12_readLine 91 = .ok (.iconst 1, 1) := by decide +kernel
theorem dX12_readLine_92 : decode cX12_readLine 92 = .ok (.iload_n 1, 1) := by decide +kernel
theorem dX12_readLine_93 : decode cX12_readLine 93 = .ok (.ishl, 1) := by decide +kernel
theorem dX12_readLine_94 : decode cX12_readLine 94 = .ok (.ior, 1) := by decide +kernel
theorem dX12_readLine_95 : decode cX12_readLine 95 = .ok (.putfield 71, 3) := by decide +kernel
theorem dX12_readLine_98 : decode cX12_readLine 98 = .ok (.aload_n 0, 1) := by decide +kernel
theorem dX12_readLine_99 : decode cX12_readLine 99 = .ok (.invokevirtual 137, 3) := by decide +kernel
theorem dX12_readLine_102 : decode cX12_readLine 102 = .ok (.aload_n 0, 1) := by decide +kernel
theorem dX12_readLine_103 : decode cX12_readLine 103 = .ok (.getfield 91, 3) := by decide +kernel
theorem dX12_readLine_106 : decode cX12_readLine 106 = .ok (.ifCond .le 4, 3) := by decide +kernel
theorem dX12_readLine_109 : decode cX12_readLine 109 = .ok (.return_, 1) := by decide +kernel
theorem dX12_readLine_110 : decode cX12_readLine 110 = .ok (.iload_n 1, 1) := by decide +kernel
theorem dX12_readLine_111 : decode cX12_readLine 111 = .ok (.bipush 10, 2) := by decide +kernel
theorem dX12_readLine_113 : decode cX12_readLine 113 = .ok (.if_icmp .ne 10, 3) := by decide +kernel
theorem dX12_readLine_116 : decode cX12_readLine 116 = .ok (.aload_n 0, 1) := by decide +kernel
theorem dX12_readLine_117 : decode cX12_readLine 117 = .ok (.invokevirtual 149, 3) := by decide +kernel
theorem dX12_readLine_120 : decode cX12_readLine 120 = .ok (.goto 55, 3) := by decide +kernel
theorem dX12_readLine_123 : decode cX12_readLine 123 = .ok (.iload_n 1, 1) := by decide +kernel
theorem dX12_readLine_124 : decode cX12_readLine 124 = .ok (.bipush 11, 2) := by decide +kernel
theorem dX12_readLine_126 : decode cX12_readLine 126 = .ok (.if_icmp .ne 10, 3) := by decide +kernel
theorem dX12_readLine_129 : decode cX12_readLine 129 = .ok (.aload_n 0, 1) := by decide +kernel
theorem dX12_readLine_130 : decode cX12_readLine 130 = .ok (.invokevirtual 152, 3) := by decide +kernel
theorem dX12_readLine_133 : decode cX12_readLine 133 = .ok (.goto 42, 3) := by decide +kernel
theorem dX12_readLine_136 : decode cX12_readLine 136 = .ok (.aload_n 0, 1) := by decide +kernel
theorem dX12_readLine_137 : decode cX12_readLine 137 = .ok (.getfield 23, 3) := by decide +kernel
theorem dX12_readLine_140 : decode cX12_readLine 140 = .ok (.iload_n 1, 1) := by decide +kernel
theorem dX12_readLine_141 : decode cX12_readLine 141 = .ok (.aload_n 0, 1) := by decide +kernel
theorem dX12_readLine_142 : decode cX12_readLine 142 = .ok (.aload_n 0, 1) := by decide +kernel
theorem dX12_readLine_143 : decode cX12_readLine 143 = .ok (.iload_n 1, 1) := by decide +kernel
theorem dX12_readLine_144 : decode cX12_readLine 144 = .ok (.invokevirtual 155, 3) := by decide +kernel
theorem dX12_readLine_147 : decode cX12_readLine 147 = .ok (.aload_n 0, 1) := by decide +kernel
theorem dX12_readLine_148 : decode cX12_readLine 148 = .ok (.iload_n 1, 1) := by decide +kernel
theorem dX12_readLine_149 : decode cX12_readLine 149 = .ok (.invokevirtual 158, 3) := by decide +kernel
theorem dX12_readLine_152 : decode cX12_readLine 152 = .ok (.invokevirtual 140, 3) := by decide +kernel
theorem dX12_readLine_155 : decode cX12_readLine 155 = .ok (.iastore, 1) := by decide +kernel
theorem dX12_readLine_156 : decode cX12_readLine 156 = .ok (.iload_n 1, 1) := by decide +kernel
theorem dX12_readLine_157 : decode cX12_readLine 157 = .ok (.iconst 5, 1) := by decide +kernel
theorem dX12_readLine_158 : decode cX12_readLine 158 = .ok (.if_icmp .ne 17, 3) := by decide +kernel
theorem dX12_readLine_161 : decode cX12_readLine 161 = .ok (.aload_n 0, 1) := by decide +kernel
theorem dX12_readLine_162 : decode cX12_readLine 162 = .ok (.getfield 23, 3) := by decide +kernel
theorem dX12_readLine_165 : decode cX12_readLine 165 = .ok (.bipush 6, 2) := by decide +kernel
theorem dX12_readLine_167 : decode cX12_readLine 167 = .ok (.aload_n 0, 1) := by decide +kernel
theorem dX12_readLine_168 : decode cX12_readLine 168 = .ok (.iconst 0, 1) := by decide +kernel
theorem dX12_readLine_169 : decode cX12_readLine 169 = .ok (.bipush 20, 2) := by decide +kernel
theorem dX12_readLine_171 : decode cX12_readLine 171 = .ok (.invokevirtual 140, 3) := by decide +kernel
theorem dX12_readLine_174 : decode cX12_readLine 174 = .ok (.iastore, 1) := by decide +kernel
theorem dX12_readLine_175 : decode cX12_readLine 175 = .ok (.aload_n 0, 1) := by decide +kernel
theorem dX12_readLine_176 : decode cX12_readLine 176 = .ok (.getfield 91, 3) := by decide +kernel
theorem dX12_readLine_179 : decode cX12_readLine 179 = .ok (.ifCond .ne 21, 3) := by decide +kernel
theorem dX12_readLine_182 : decode cX12_readLine 182 = .ok (.aload_n 0, 1) := by decide +kernel
theorem dX12_readLine_183 : decode cX12_readLine 183 = .ok (.aload_n 0, 1) := by decide +kernel
theorem dX12_readLine_184 : decode cX12_readLine 184 = .ok (.getfield 115, 3) := by decide +kernel
theorem dX12_readLine_187 : decode cX12_readLine 187 = .ok (.iconst 3, 1) := by decide +kernel
theorem dX12_readLine_188 : decode cX12_readLine 188 = .ok (.if_icmp .ne 7, 3) := by decide +kernel
theorem dX12_readLine_191 : decode cX12_readLine 191 = .ok (.iconst 1, 1) := by decide +kernel
theorem dX12_readLine_192 : decode cX12_readLine 192 = .ok (.goto 4, 3) := by decide +kernel
theorem dX12_readLine_195 : decode cX12_readLine 195 = .ok (.iconst 0, 1) := by decide +kernel
theorem dX12_readLine_196 : decode cX12_readLine 196 = .ok (.iconst 2, 1) := by decide +kernel
theorem dX12_readLine_197 : decode cX12_readLine 197 = .ok (.invokevirtual 129, 3) := by decide +kernel
theorem dX12_readLine_200 : decode cX12_readLine 200 = .ok (.aload_n 0, 1) := by decide +kernel
theorem dX12_readLine_201 : decode cX12_readLine 201 = .ok (.invokevirtual 137, 3) := by decide +kernel
theorem dX12_readLine_204 : decode cX12_readLine 204 = .ok (.return_, 1) := by decide +kernel
theorem dX12_text_0 : decode cX12_text 0 = .ok (.iconst 0, 1) := by decide +kernel
theorem dX12_text_1 : decode cX12_text 1 = .ok (.istore_n 1, 1) := by decide +kernel
theorem dX12_text_2 : decode cX12_text 2 = .ok (.aload_n 0, 1) := by decide +kernel
theorem dX12_text_3 : decode cX12_text 3 = .ok (.iconst 0, 1) := by decide +kernel
theorem dX12_text_4 : decode cX12_text 4 = .ok (.putfield 91, 3) := by decide +kernel
theorem dX12_text_7 : decode cX12_text 7 = .ok (.aload_n 0, 1) := by decide +kernel
theorem dX12_text_8 : decode cX12_text 8 = .ok (.iconst 0, 1) := by decide +kernel
theorem dX12_text_9 : decode cX12_text 9 = .ok (.putfield 100, 3) := by decide +kernel
theorem dX12_text_12 : decode cX12_text 12 = .ok (.aload_n 0, 1) := by decide +kernel
theorem dX12_text_13 : decode cX12_text 13 = .ok (.invokevirtual 65, 3) := by decide +kernel
theorem dX12_text_16 : decode cX12_text 16 = .ok (.aload_n 0, 1) := by decide +kernel
theorem dX12_text_17 : decode cX12_text 17 = .ok (.invokevirtual 137, 3) := by decide +kernel
theorem dX12_text_20 : decode cX12_text 20 = .ok (.aload_n 0, 1) := by decide +kernel
theorem dX12_text_21 : decode cX12_text 21 = .ok (.getfield 91, 3) := by decide +kernel
theorem dX12_text_24 : decode cX12_text 24 = .ok (.ifCond .ne 20, 3) := by decide +kernel
theorem dX12_text_27 : decode cX12_text 27 = .ok (.aload_n 0, 1) := by decide +kernel
theorem dX12_text_28 : decode cX12_text 28 = .ok (.getfield 115, 3) := by decide +kernel
theorem dX12_text_31 : decode cX12_text 31 = .ok (.ifCond .eq 13, 3) := by decide +kernel
theorem dX12_text_34 : decode cX12_text 34 = .ok (.aload_n 0, 1) := by decide +kernel
theorem dX12_text_35 : decode cX12_text 35 = .ok (.invokevirtual 161, 3) := by decide +kernel
theorem dX12_text_38 : decode cX12_text 38 = .ok (.iinc 1 1, 3) := by decide +kernel
theorem dX12_text_41 : decode cX12_text 41 = .ok (.goto (-21), 3) := by decide +kernel
theorem dX12_text_44 : decode cX12_text 44 = .ok (.aload_n 0, 1) := by decide +kernel
theorem dX12_text_45 : decode cX12_text 45 = .ok (.aload_n 0, 1) := by decide +kernel
theorem dX12_text_46 : decode cX12_text 46 = .ok (.getfield 75, 3) := by decide +kernel
theorem dX12_text_49 : decode cX12_text 49 = .ok (.aload_n 0, 1) := by decide +kernel
theorem dX12_text_50 : decode cX12_text 50 = .ok (.getfield 23, 3) := by decide +kernel
theorem dX12_text_53 : decode cX12_text 53 = .ok (.iconst 0, 1) := by decide +kernel
theorem dX12_text_54 : decode cX12_text 54 = .ok (.iaload, 1) := by decide +kernel
theorem dX12_text_55 : decode cX12_text 55 = .ok (.if_icmp .gt 7, 3) := by decide +kernel
theorem dX12_text_58 : decode cX12_text 58 = .ok (.iconst 1, 1) := by decide +kernel
theorem dX12_text_59 : decode cX12_text 59 = .ok (.goto 4, 3) := by decide +kernel
theorem dX12_text_62 : decode cX12_text 62 = .ok (.iconst 0, 1) := by decide +kernel
theorem dX12_text_63 : decode cX12_text 63 = .ok (.iconst 5, 1) := by decide +kernel
theorem dX12_text_64 : decode cX12_text 64 = .ok (.invokevirtual 129, 3) := by decide +kernel
theorem dX12_text_67 : decode cX12_text 67 = .ok (.aload_n 0, 1) := by decide +kernel
theorem dX12_text_68 : decode cX12_text 68 = .ok (.iconst 0, 1) := by decide +kernel
theorem dX12_text_69 : decode cX12_text 69 = .ok (.putfield 86, 3) := by decide +kernel
theorem dX12_text_72 : decode cX12_text 72 = .ok (.aload_n 0, 1) := by decide +kernel
theorem dX12_text_73 : decode cX12_text 73 = .ok (.getfield 91, 3) := by decide +kernel
theorem dX12_text_76 : decode cX12_text 76 = .ok (.ifCond .le 11, 3) := by decide +kernel
theorem dX12_text_79 : decode cX12_text 79 = .ok (.bipush (-10), 2) := by decide +kernel
theorem dX12_text_81 : decode cX12_text 81 = .ok (.aload_n 0, 1) := by decide +kernel
theorem dX12_text_82 : decode cX12_text 82 = .ok (.getfield 97, 3) := by decide +kernel
theorem dX12_text_85 : decode cX12_text 85 = .ok (.isub, 1) := by decide +kernel
theorem dX12_text_86 : decode cX12_text 86 = .ok (.ireturn, 1) := by decide +kernel
theorem dX12_text_87 : decode cX12_text 87 = .ok (.aload_n 0, 1) := by decide +kernel
theorem dX12_text_88 : decode cX12_text 88 = .ok (.invokevirtual 68, 3) := by decide +kernel
theorem dX12_text_91 : decode cX12_text 91 = .ok (.iload_n 1, 1) := by decide +kernel
theorem dX12_text_92 : decode cX12_text 92 = .ok (.ireturn, 1) := by decide +kernel
abbrev q_X12_readLine  (σ : tw_M) : Option tw_V → tw_M → Prop := fun z τ => z = none ∧ tw_I τ ∧ tw_F (fun c j => (c = 88 ∧ (j = 9 ∨ j = 10 ∨ j = 13 ∨ j = 14 ∨ j = 15 ∨ j = 16 ∨ j = 17 ∨ j = 18)) ∨ (93 ≤ c ∧ c < 98)) σ τ ∧ (DQ τ) ∧ (σ 88 13 ≤ τ 88 13) ∧ (¬ τ 88 17 = 0 ∨ τ 88 15 = 0 ∨ σ 88 13 < τ 88 13)
set_option maxHeartbeats 4000000 in
set_option maxRecDepth 100000 in
theorem l_X12_readLine {G : tw_G} (hM : tw_isM G) (σ : tw_M) (hI : tw_I σ) (hq0 : DQ σ) : ∀ N_ : Nat, (∀ (k : Int) (hk : -4 ≤ k ∧ k ≤ 23) (τ : tw_M) (hIτ : tw_I τ) (hFτ : tw_F (fun c j => (c = 88 ∧ (j = 9 ∨ j = 10 ∨ j = 13 ∨ j = 14 ∨ j = 15 ∨ j = 16 ∨ j = 17 ∨ j = 18)) ∨ (93 ≤ c ∧ c < 98)) σ τ) (i0 : DQ τ) (i1 : ¬ τ 88 17 = 0 ∨ (0 ≤ k ∧ k ≤ 8) ∨ k = 10 ∨ k = 11) (i2 : σ 88 13 ≤ τ 88 13) (hm : 4 < N_), tw_J G (tw_mt RX12 cX12_readLine 2 none 4) (tw_E G (q_X12_readLine σ)) 52 [(0, vR 88), (1, vI k)] [] τ) ∧ (∀ (k : Int) (hk : -4 ≤ k ∧ k ≤ 23) (τ : tw_M) (hIτ : tw_I τ) (hFτ : tw_F (fun c j => (c = 88 ∧ (j = 9 ∨ j = 10 ∨ j = 13 ∨ j = 14 ∨ j = 15 ∨ j = 16 ∨ j = 17 ∨ j = 18)) ∨ (93 ≤ c ∧ c < 98)) σ τ) (i0 : DQ τ) (i1 : ¬ τ 88 17 = 0 ∨ (0 ≤ k ∧ k ≤ 8) ∨ k = 10 ∨ k = 11) (i2 : σ 88 13 ≤ τ 88 13) (hm : 3 < N_), tw_J G (tw_mt RX12 cX12_readLine 2 none 4) (tw_E G (q_X12_readLine σ)) 98 [(0, vR 88), (1, vI k)] [] τ) ∧ (∀  (τ : tw_M) (hIτ : tw_I τ) (hFτ : tw_F (fun c j => (c = 88 ∧ (j = 9 ∨ j = 10 ∨ j = 13 ∨ j = 14 ∨ j = 15 ∨ j = 16 ∨ j = 17 ∨ j = 18)) ∨ (93 ≤ c ∧ c < 98)) σ τ) (i0 : DQ τ) (i1 : σ 88 13 ≤ τ 88 13) (hm : 2 < N_), tw_J G (tw_mt RX12 cX12_readLine 2 none 4) (tw_E G (q_X12_readLine σ)) 175 [(0, vR 88)] [] τ) := by
  intro N_
  induction N_ with
  | zero => exact ⟨fun k hk τ hIτ hFτ i0 i1 i2 hm => absurd hm (Nat.not_lt_zero _), fun k hk τ hIτ hFτ i0 i1 i2 hm => absurd hm (Nat.not_lt_zero _), fun τ hIτ hFτ i0 i1 hm => absurd hm (Nat.not_lt_zero _)⟩
  | succ N_ ih =>
    refine ⟨?_, ?_, ?_⟩
    · intro k hk τ hIτ hFτ i0 i1 i2 hm
      refine j_aload_n (pc := 52) dX12_readLine_52 rfl rfl ?_
      refine j_getI (pc := 53) fl_X12_91 dX12_readLine_53 (a_88 hM) rfl ?_
      have f1 : (0 : Int) ≤ τ 88 17 ∧ τ 88 17 ≤ 5 := hIτ 88 17
      refine j_ifR_ne (pc := 56) (tgt := 98) ⟨by omega, by omega⟩ dX12_readLine_56 rfl (fun h2 => ?_) (fun h2 => ?_)
      · refine j_ls (ls' := [(0, vR 88), (1, vI k)]) [0, 1] rfl ?_
        exact ih.2.1 k ⟨by omega, by omega⟩ τ hIτ hFτ (show DQ τ from DQ_F i0 (fun j => rfl) (fun j => rfl) (by omega)) (show ¬ τ 88 17 = 0 ∨ (0 ≤ k ∧ k ≤ 8) ∨ k = 10 ∨ k = 11 from by omega) (show σ 88 13 ≤ τ 88 13 from by omega) (show 3 < N_ from by omega)
      · refine j_iload_n (pc := 59) dX12_readLine_59 rfl rfl ?_
        refine j_bipush (pc := 60) dX12_readLine_60 rfl ?_
        refine j_icmpR_ge (pc := 62) (tgt := 98) ⟨by omega, by omega⟩ ⟨by omega, by omega⟩ dX12_readLine_62 rfl (fun h3 => ?_) (fun h3 => ?_)
        · refine j_ls (ls' := [(0, vR 88), (1, vI k)]) [0, 1] rfl ?_
          exact ih.2.1 k ⟨by omega, by omega⟩ τ hIτ hFτ (show DQ τ from DQ_F i0 (fun j => rfl) (fun j => rfl) (by omega)) (show ¬ τ 88 17 = 0 ∨ (0 ≤ k ∧ k ≤ 8) ∨ k = 10 ∨ k = 11 from by omega) (show σ 88 13 ≤ τ 88 13 from by omega) (show 3 < N_ from by omega)
        · refine j_aload_n (pc := 65) dX12_readLine_65 rfl rfl ?_
          refine j_aload_n (pc := 66) dX12_readLine_66 rfl rfl ?_
          refine j_getI (pc := 67) fl_X12_71 dX12_readLine_67 (a_88 hM) rfl ?_
          have f4 : (-2147483648 : Int) ≤ τ 88 9 ∧ τ 88 9 ≤ 2147483647 := hIτ 88 9
          refine j_iload_n (pc := 70) dX12_readLine_70 rfl rfl ?_
          refine j_ishr (pc := 71) dX12_readLine_71 (fun z5 ez5 => ?_)
          have hz5 : (-2147483648 : Int) ≤ z5 ∧ z5 ≤ 2147483647 := by rw [ez5]; exact shr_in _ _
          refine j_iconst (pc := 72) dX12_readLine_72 ?_
          refine j_iand (pc := 73) dX12_readLine_73 (fun z6 ez6 => ?_)
          have hz6 : (-2147483648 : Int) ≤ z6 ∧ z6 ≤ 2147483647 := by rw [ez6]; exact and_in _ _
          refine j_ifR_ne (pc := 74) (tgt := 81) ⟨by omega, by omega⟩ dX12_readLine_74 rfl (fun h7 => ?_) (fun h7 => ?_)
          · refine j_iconst (pc := 81) dX12_readLine_81 ?_
            refine j_iconst (pc := 82) dX12_readLine_82 ?_
            refine j_callV (pc := 83) (As := [vI 0, vI 4]) (st := []) (c_X12_needs hM 0 ⟨by omega, by omega⟩ 4 ⟨by omega, by omega⟩ τ hIτ) mv_X12_129 rfl rfl rfl (a_88 hM) dX12_readLine_83 ⟨Nat.le_of_ble_eq_true rfl, Nat.le_of_ble_eq_true rfl⟩ ⟨Nat.le_refl _, Nat.le_refl _⟩ rfl (Nat.le_of_ble_eq_true rfl) rfl (fun z8 σ9 hz8 => ?_)
            obtain ⟨rfl, hIσ9, hGσ9, q10_0⟩ := hz8
            replace q10_0 : (¬ (0 : Int) = 0 ∧ σ9 88 17 = τ 88 17) ∨ ((0 : Int) = 0 ∧ τ 88 17 = 0 ∧ σ9 88 17 = (4 : Int)) ∨ ((0 : Int) = 0 ∧ ¬ τ 88 17 = 0 ∧ σ9 88 17 = τ 88 17) := q10_0
            have hFσ9 : tw_F (fun c j => (c = 88 ∧ (j = 9 ∨ j = 10 ∨ j = 13 ∨ j = 14 ∨ j = 15 ∨ j = 16 ∨ j = 17 ∨ j = 18)) ∨ (93 ≤ c ∧ c < 98)) σ σ9 := tw_F_tr hFτ hGσ9 (fun c j q => (show (c = 88 ∧ (j = 9 ∨ j = 10 ∨ j = 13 ∨ j = 14 ∨ j = 15 ∨ j = 16 ∨ j = 17 ∨ j = 18)) ∨ (93 ≤ c ∧ c < 98) from by replace q : (c = 88 ∧ (j = 17 ∨ j = 18)) := q; omega))
            refine j_st (st' := []) rfl ?_
            refine j_aload_n (pc := 86) dX12_readLine_86 rfl rfl ?_
            refine j_dup (pc := 87) dX12_readLine_87 rfl ?_
            refine j_getI (pc := 88) fl_X12_71 dX12_readLine_88 (a_88 hM) rfl ?_
            refine j_topV (show σ9 88 9 = τ 88 9 from (hGσ9 88 9 (show ¬ ((88 = 88 ∧ (9 = 17 ∨ 9 = 18))) from by omega))) ?_
            refine j_iconst (pc := 91) dX12_readLine_91 ?_
            refine j_iload_n (pc := 92) dX12_readLine_92 rfl rfl ?_
            refine j_ishl (pc := 93) dX12_readLine_93 (fun z12 ez12 => ?_)
            have hz12 : (-2147483648 : Int) ≤ z12 ∧ z12 ≤ 2147483647 := by rw [ez12]; exact shl_in _ _
            refine j_ior (pc := 94) dX12_readLine_94 (fun z13 ez13 => ?_)
            have hz13 : (-2147483648 : Int) ≤ z13 ∧ z13 ≤ 2147483647 := by rw [ez13]; exact or_in _ _
            refine j_putI (pc := 95) fl_X12_71 fp_X12_9 dX12_readLine_95 (a_88 hM) rfl (j_nm (fun σ14 (eσ14 : σ14 = tw_up σ9 88 9 z13) => ?_))
            have hIσ14 : tw_I σ14 := tw_I_up hIσ9 eσ14 (show (-2147483648 : Int) ≤ z13 ∧ z13 ≤ 2147483647 from ⟨by omega, by omega⟩)
            have hFσ14 : tw_F (fun c j => (c = 88 ∧ (j = 9 ∨ j = 10 ∨ j = 13 ∨ j = 14 ∨ j = 15 ∨ j = 16 ∨ j = 17 ∨ j = 18)) ∨ (93 ≤ c ∧ c < 98)) σ σ14 := tw_F_up hFσ9 eσ14 (show (88 = 88 ∧ (9 = 9 ∨ 9 = 10 ∨ 9 = 13 ∨ 9 = 14 ∨ 9 = 15 ∨ 9 = 16 ∨ 9 = 17 ∨ 9 = 18)) ∨ (93 ≤ 88 ∧ 88 < 98) from by omega)
            refine j_ls (ls' := [(0, vR 88), (1, vI k)]) [0, 1] rfl ?_
            have y15 : σ14 88 17 = σ9 88 17 := (tw_ne1 eσ14 (by omega))
            have f16 : (0 : Int) ≤ σ9 88 17 ∧ σ9 88 17 ≤ 5 := hIσ9 88 17
            have y17 : σ14 88 13 = τ 88 13 := ((tw_ne1 eσ14 (by omega))).trans (hGσ9 88 13 (show ¬ ((88 = 88 ∧ (13 = 17 ∨ 13 = 18))) from by omega))
            have f18 : (0 : Int) ≤ τ 88 13 ∧ τ 88 13 ≤ 400 := hIτ 88 13
            exact ih.2.1 k ⟨by omega, by omega⟩ σ14 hIσ14 hFσ14 (show DQ σ14 from DQ_F i0 (fun j => ((tw_ne1 eσ14 (by omega))).trans (hGσ9 93 j (show ¬ ((93 = 88 ∧ (j = 17 ∨ j = 18))) from by omega))) (fun j => ((tw_ne1 eσ14 (by omega))).trans (hGσ9 94 j (show ¬ ((94 = 88 ∧ (j = 17 ∨ j = 18))) from by omega))) (by omega)) (show ¬ σ14 88 17 = 0 ∨ (0 ≤ k ∧ k ≤ 8) ∨ k = 10 ∨ k = 11 from by omega) (show σ 88 13 ≤ σ14 88 13 from by omega) (show 3 < N_ from by omega)
          · refine j_iconst (pc := 77) dX12_readLine_77 ?_
            refine j_goto (pc := 78) (tgt := 82) dX12_readLine_78 rfl ?_
            refine j_iconst (pc := 82) dX12_readLine_82 ?_
            refine j_callV (pc := 83) (As := [vI 1, vI 4]) (st := []) (c_X12_needs hM 1 ⟨by omega, by omega⟩ 4 ⟨by omega, by omega⟩ τ hIτ) mv_X12_129 rfl rfl rfl (a_88 hM) dX12_readLine_83 ⟨Nat.le_of_ble_eq_true rfl, Nat.le_of_ble_eq_true rfl⟩ ⟨Nat.le_refl _, Nat.le_refl _⟩ rfl (Nat.le_of_ble_eq_true rfl) rfl (fun z19 σ20 hz19 => ?_)
            obtain ⟨rfl, hIσ20, hGσ20, q21_0⟩ := hz19
            replace q21_0 : (¬ (1 : Int) = 0 ∧ σ20 88 17 = τ 88 17) ∨ ((1 : Int) = 0 ∧ τ 88 17 = 0 ∧ σ20 88 17 = (4 : Int)) ∨ ((1 : Int) = 0 ∧ ¬ τ 88 17 = 0 ∧ σ20 88 17 = τ 88 17) := q21_0
            have hFσ20 : tw_F (fun c j => (c = 88 ∧ (j = 9 ∨ j = 10 ∨ j = 13 ∨ j = 14 ∨ j = 15 ∨ j = 16 ∨ j = 17 ∨ j = 18)) ∨ (93 ≤ c ∧ c < 98)) σ σ20 := tw_F_tr hFτ hGσ20 (fun c j q => (show (c = 88 ∧ (j = 9 ∨ j = 10 ∨ j = 13 ∨ j = 14 ∨ j = 15 ∨ j = 16 ∨ j = 17 ∨ j = 18)) ∨ (93 ≤ c ∧ c < 98) from by replace q : (c = 88 ∧ (j = 17 ∨ j = 18)) := q; omega))
            refine j_st (st' := []) rfl ?_
            refine j_aload_n (pc := 86) dX12_readLine_86 rfl rfl ?_
            refine j_dup (pc := 87) dX12_readLine_87 rfl ?_
            refine j_getI (pc := 88) fl_X12_71 dX12_readLine_88 (a_88 hM) rfl ?_
            refine j_topV (show σ20 88 9 = τ 88 9 from (hGσ20 88 9 (show ¬ ((88 = 88 ∧ (9 = 17 ∨ 9 = 18))) from by omega))) ?_
            refine j_iconst (pc := 91) dX12_readLine_91 ?_
            refine j_iload_n (pc := 92) dX12_readLine_92 rfl rfl ?_
            refine j_ishl (pc := 93) dX12_readLine_93 (fun z23 ez23 => ?_)
            have hz23 : (-2147483648 : Int) ≤ z23 ∧ z23 ≤ 2147483647 := by rw [ez23]; exact shl_in _ _
            refine j_ior (pc := 94) dX12_readLine_94 (fun z24 ez24 => ?_)
            have hz24 : (-2147483648 : Int) ≤ z24 ∧ z24 ≤ 2147483647 := by rw [ez24]; exact or_in _ _
            refine j_putI (pc := 95) fl_X12_71 fp_X12_9 dX12_readLine_95 (a_88 hM) rfl (j_nm (fun σ25 (eσ25 : σ25 = tw_up σ20 88 9 z24) => ?_))
            have hIσ25 : tw_I σ25 := tw_I_up hIσ20 eσ25 (show (-2147483648 : Int) ≤ z24 ∧ z24 ≤ 2147483647 from ⟨by omega, by omega⟩)
            have hFσ25 : tw_F (fun c j => (c = 88 ∧ (j = 9 ∨ j = 10 ∨ j = 13 ∨ j = 14 ∨ j = 15 ∨ j = 16 ∨ j = 17 ∨ j = 18)) ∨ (93 ≤ c ∧ c < 98)) σ σ25 := tw_F_up hFσ20 eσ25 (show (88 = 88 ∧ (9 = 9 ∨ 9 = 10 ∨ 9 = 13 ∨ 9 = 14 ∨ 9 = 15 ∨ 9 = 16 ∨ 9 = 17 ∨ 9 = 18)) ∨ (93 ≤ 88 ∧ 88 < 98) from by omega)
            refine j_ls (ls' := [(0, vR 88), (1, vI k)]) [0, 1] rfl ?_
            have y26 : σ25 88 17 = σ20 88 17 := (tw_ne1 eσ25 (by omega))
            have f27 : (0 : Int) ≤ σ20 88 17 ∧ σ20 88 17 ≤ 5 := hIσ20 88 17
            have y28 : σ25 88 13 = τ 88 13 := ((tw_ne1 eσ25 (by omega))).trans (hGσ20 88 13 (show ¬ ((88 = 88 ∧ (13 = 17 ∨ 13 = 18))) from by omega))
            have f29 : (0 : Int) ≤ τ 88 13 ∧ τ 88 13 ≤ 400 := hIτ 88 13
            exact ih.2.1 k ⟨by omega, by omega⟩ σ25 hIσ25 hFσ25 (show DQ σ25 from DQ_F i0 (fun j => ((tw_ne1 eσ25 (by omega))).trans (hGσ20 93 j (show ¬ ((93 = 88 ∧ (j = 17 ∨ j = 18))) from by omega))) (fun j => ((tw_ne1 eσ25 (by omega))).trans (hGσ20 94 j (show ¬ ((94 = 88 ∧ (j = 17 ∨ j = 18))) from by omega))) (by omega)) (show ¬ σ25 88 17 = 0 ∨ (0 ≤ k ∧ k ≤ 8) ∨ k = 10 ∨ k = 11 from by omega) (show σ 88 13 ≤ σ25 88 13 from by omega) (show 3 < N_ from by omega)
    · intro k hk τ hIτ hFτ i0 i1 i2 hm
      refine j_aload_n (pc := 98) dX12_readLine_98 rfl rfl ?_
      refine j_callV (pc := 99) (As := []) (st := []) (c_X12_next hM τ hIτ) mv_X12_137 rfl rfl rfl (a_88 hM) dX12_readLine_99 ⟨Nat.le_of_ble_eq_true rfl, Nat.le_of_ble_eq_true rfl⟩ ⟨Nat.le_refl _, Nat.le_refl _⟩ rfl (Nat.le_of_ble_eq_true rfl) rfl (fun z30 σ31 hz30 => ?_)
      obtain ⟨rfl, hIσ31, hGσ31, q32_0, q32_1, q32_2⟩ := hz30
      replace q32_0 : ¬ σ31 88 17 = 0 ∨ τ 88 17 = 0 := q32_0
      replace q32_1 : τ 88 13 ≤ σ31 88 13 := q32_1
      replace q32_2 : ¬ σ31 88 17 = 0 ∨ σ31 88 15 = 0 ∨ τ 88 13 < σ31 88 13 := q32_2
      have hFσ31 : tw_F (fun c j => (c = 88 ∧ (j = 9 ∨ j = 10 ∨ j = 13 ∨ j = 14 ∨ j = 15 ∨ j = 16 ∨ j = 17 ∨ j = 18)) ∨ (93 ≤ c ∧ c < 98)) σ σ31 := tw_F_tr hFτ hGσ31 (fun c j q => (show (c = 88 ∧ (j = 9 ∨ j = 10 ∨ j = 13 ∨ j = 14 ∨ j = 15 ∨ j = 16 ∨ j = 17 ∨ j = 18)) ∨ (93 ≤ c ∧ c < 98) from by replace q : (c = 88 ∧ (j = 13 ∨ j = 14 ∨ j = 15 ∨ j = 16 ∨ j = 17 ∨ j = 18)) := q; omega))
      refine j_st (st' := []) rfl ?_
      refine j_aload_n (pc := 102) dX12_readLine_102 rfl rfl ?_
      refine j_getI (pc := 103) fl_X12_91 dX12_readLine_103 (a_88 hM) rfl ?_
      have f34 : (0 : Int) ≤ σ31 88 17 ∧ σ31 88 17 ≤ 5 := hIσ31 88 17
      refine j_ifR_le (pc := 106) (tgt := 110) ⟨by omega, by omega⟩ dX12_readLine_106 rfl (fun h35 => ?_) (fun h35 => ?_)
      · refine j_iload_n (pc := 110) dX12_readLine_110 rfl rfl ?_
        refine j_bipush (pc := 111) dX12_readLine_111 rfl ?_
        refine j_icmpR_ne (pc := 113) (tgt := 123) ⟨by omega, by omega⟩ ⟨by omega, by omega⟩ dX12_readLine_113 rfl (fun h36 => ?_) (fun h36 => ?_)
        · refine j_iload_n (pc := 123) dX12_readLine_123 rfl rfl ?_
          refine j_bipush (pc := 124) dX12_readLine_124 rfl ?_
          refine j_icmpR_ne (pc := 126) (tgt := 136) ⟨by omega, by omega⟩ ⟨by omega, by omega⟩ dX12_readLine_126 rfl (fun h37 => ?_) (fun h37 => ?_)
          · refine j_aload_n (pc := 136) dX12_readLine_136 rfl rfl ?_
            refine j_getR (pc := 137) (r := 93) fl_X12_23 dX12_readLine_137 (a_88 hM) rfl ?_
            refine j_iload_n (pc := 140) dX12_readLine_140 rfl rfl ?_
            refine j_aload_n (pc := 141) dX12_readLine_141 rfl rfl ?_
            refine j_aload_n (pc := 142) dX12_readLine_142 rfl rfl ?_
            refine j_iload_n (pc := 143) dX12_readLine_143 rfl rfl ?_
            refine j_callV (pc := 144) (As := [vI k]) (st := [vR 88, vI k, vR 93]) (c_X12_lowest hM k ⟨by omega, by omega⟩ σ31 hIσ31) mv_X12_155 rfl rfl rfl (a_88 hM) dX12_readLine_144 ⟨Nat.le_of_ble_eq_true rfl, Nat.le_of_ble_eq_true rfl⟩ ⟨Nat.le_refl _, Nat.le_refl _⟩ rfl (Nat.le_of_ble_eq_true rfl) rfl (fun z38 σ39 hz38 => ?_)
            obtain ⟨r41, rfl, hr41, rfl, q40_0⟩ := hz38
            replace q40_0 : ((k = 0 ∨ k = 1 ∨ k = 3) ∧ r41 = 1) ∨ (¬ (k = 0 ∨ k = 1 ∨ k = 3) ∧ r41 = 0) := q40_0
            refine j_st (st' := [vI r41, vR 88, vI k, vR 93]) rfl ?_
            refine j_aload_n (pc := 147) dX12_readLine_147 rfl rfl ?_
            refine j_iload_n (pc := 148) dX12_readLine_148 rfl rfl ?_
            refine j_callV (pc := 149) (As := [vI k]) (st := [vI r41, vR 88, vI k, vR 93]) (c_X12_highest hM k ⟨by omega, by omega⟩ σ31 hIσ31) mv_X12_158 rfl rfl rfl (a_88 hM) dX12_readLine_149 ⟨Nat.le_of_ble_eq_true rfl, Nat.le_of_ble_eq_true rfl⟩ ⟨Nat.le_refl _, Nat.le_refl _⟩ rfl (Nat.le_of_ble_eq_true rfl) rfl (fun z42 σ43 hz42 => ?_)
            obtain ⟨r45, rfl, hr45, rfl, q44_0⟩ := hz42
            replace q44_0 : (k = 0 ∧ r45 = 40) ∨ (k = 1 ∧ r45 = 999) ∨ (k = 2 ∧ r45 = 99) ∨ (k = 3 ∧ r45 = 60) ∨ (k = 7 ∧ r45 = 60) ∨ (k = 4 ∧ r45 = 50) ∨ (k = 5 ∧ r45 = 20) ∨ ((k < 0 ∨ k = 6 ∨ 7 < k) ∧ r45 = 9) := q44_0
            refine j_st (st' := [vI r45, vI r41, vR 88, vI k, vR 93]) rfl ?_
            refine j_callV (pc := 152) (As := [vI r41, vI r45]) (st := [vI k, vR 93]) (c_X12_readNumber hM r41 ⟨by omega, by omega⟩ r45 ⟨by omega, by omega⟩ σ31 hIσ31) mv_X12_140 rfl rfl rfl (a_88 hM) dX12_readLine_152 ⟨Nat.le_of_ble_eq_true rfl, Nat.le_of_ble_eq_true rfl⟩ ⟨Nat.le_refl _, Nat.le_refl _⟩ rfl (Nat.le_of_ble_eq_true rfl) rfl (fun z46 σ47 hz46 => ?_)
            obtain ⟨r49, rfl, hr49, hIσ47, hGσ47, q48_0, q48_1, q48_2⟩ := hz46
            replace q48_0 : ¬ σ47 88 17 = 0 ∨ (σ31 88 17 = 0 ∧ r41 ≤ r49 ∧ r49 ≤ r45) := q48_0
            replace q48_1 : σ31 88 13 ≤ σ47 88 13 := q48_1
            replace q48_2 : ¬ σ47 88 17 = 0 ∨ σ47 88 15 = 0 ∨ σ31 88 13 < σ47 88 13 := q48_2
            have hFσ47 : tw_F (fun c j => (c = 88 ∧ (j = 9 ∨ j = 10 ∨ j = 13 ∨ j = 14 ∨ j = 15 ∨ j = 16 ∨ j = 17 ∨ j = 18)) ∨ (93 ≤ c ∧ c < 98)) σ σ47 := tw_F_tr hFσ31 hGσ47 (fun c j q => (show (c = 88 ∧ (j = 9 ∨ j = 10 ∨ j = 13 ∨ j = 14 ∨ j = 15 ∨ j = 16 ∨ j = 17 ∨ j = 18)) ∨ (93 ≤ c ∧ c < 98) from by replace q : (c = 88 ∧ (j = 13 ∨ j = 14 ∨ j = 15 ∨ j = 16 ∨ j = 17 ∨ j = 18)) := q; omega))
            refine j_st (st' := [vI r49, vI k, vR 93]) rfl ?_
            refine j_iast (pc := 155) dX12_readLine_155 (a_93 hM) (by omega) (by omega) (by decide) (j_nm (fun σ50 (eσ50 : σ50 = tw_up σ47 93 (k.toNat) r49) => ?_))
            have hIσ50 : tw_I σ50 := tw_I_up hIσ47 eσ50 (show (-2147483648 : Int) ≤ r49 ∧ r49 ≤ 2147483647 from ⟨by omega, by omega⟩)
            have hFσ50 : tw_F (fun c j => (c = 88 ∧ (j = 9 ∨ j = 10 ∨ j = 13 ∨ j = 14 ∨ j = 15 ∨ j = 16 ∨ j = 17 ∨ j = 18)) ∨ (93 ≤ c ∧ c < 98)) σ σ50 := tw_F_up hFσ47 eσ50 (show (93 = 88 ∧ (k.toNat = 9 ∨ k.toNat = 10 ∨ k.toNat = 13 ∨ k.toNat = 14 ∨ k.toNat = 15 ∨ k.toNat = 16 ∨ k.toNat = 17 ∨ k.toNat = 18)) ∨ (93 ≤ 93 ∧ 93 < 98) from by omega)
            have D1 : DQ σ50 := DQ_put93 (DQ_F i0 (fun j => ((hGσ47 93 j (show ¬ ((93 = 88 ∧ (j = 13 ∨ j = 14 ∨ j = 15 ∨ j = 16 ∨ j = 17 ∨ j = 18))) from by omega))).trans (hGσ31 93 j (show ¬ ((93 = 88 ∧ (j = 13 ∨ j = 14 ∨ j = 15 ∨ j = 16 ∨ j = 17 ∨ j = 18))) from by omega))) (fun j => ((hGσ47 94 j (show ¬ ((94 = 88 ∧ (j = 13 ∨ j = 14 ∨ j = 15 ∨ j = 16 ∨ j = 17 ∨ j = 18))) from by omega))).trans (hGσ31 94 j (show ¬ ((94 = 88 ∧ (j = 13 ∨ j = 14 ∨ j = 15 ∨ j = 16 ∨ j = 17 ∨ j = 18))) from by omega))) (by omega)) eσ50 (by rcases q48_0 with q | q; exact Or.inl (by omega); exact Or.inr (w91 (by omega) (by omega)))
            refine j_iload_n (pc := 156) dX12_readLine_156 rfl rfl ?_
            refine j_iconst (pc := 157) dX12_readLine_157 ?_
            refine j_icmpR_ne (pc := 158) (tgt := 175) ⟨by omega, by omega⟩ ⟨by omega, by omega⟩ dX12_readLine_158 rfl (fun h51 => ?_) (fun h51 => ?_)
            · refine j_ls (ls' := [(0, vR 88)]) [0] rfl ?_
              have y52 : σ50 88 13 = σ47 88 13 := (tw_ne1 eσ50 (by omega))
              have f53 : (0 : Int) ≤ σ47 88 13 ∧ σ47 88 13 ≤ 400 := hIσ47 88 13
              exact ih.2.2 σ50 hIσ50 hFσ50 (show DQ σ50 from (by first | exact q48_0 | exact D1 | exact DQ_put93 (DQ_F D1 (fun j => hGσ47 93 j (show ¬ ((93 = 88 ∧ (j = 13 ∨ j = 14 ∨ j = 15 ∨ j = 16 ∨ j = 17 ∨ j = 18))) from by omega)) (fun j => hGσ47 94 j (show ¬ ((94 = 88 ∧ (j = 13 ∨ j = 14 ∨ j = 15 ∨ j = 16 ∨ j = 17 ∨ j = 18))) from by omega)) (by omega)) eσ50 (by rcases q48_0 with q | q; exact Or.inl (by omega); exact Or.inr (r5w (by decide) (by omega))) | exact DQ_F i0 (fun j => rfl) (fun j => (((tw_ne1 eσ50 (by omega))).trans (hGσ47 94 j (show ¬ ((94 = 88 ∧ (j = 13 ∨ j = 14 ∨ j = 15 ∨ j = 16 ∨ j = 17 ∨ j = 18))) from by omega))).trans (hGσ31 94 j (show ¬ ((94 = 88 ∧ (j = 13 ∨ j = 14 ∨ j = 15 ∨ j = 16 ∨ j = 17 ∨ j = 18))) from by omega))) (by omega))) (show σ 88 13 ≤ σ50 88 13 from by omega) (show 2 < N_ from by omega)
            · refine j_aload_n (pc := 161) dX12_readLine_161 rfl rfl ?_
              refine j_getR (pc := 162) (r := 93) fl_X12_23 dX12_readLine_162 (a_88 hM) rfl ?_
              refine j_bipush (pc := 165) dX12_readLine_165 rfl ?_
              refine j_aload_n (pc := 167) dX12_readLine_167 rfl rfl ?_
              refine j_iconst (pc := 168) dX12_readLine_168 ?_
              refine j_bipush (pc := 169) dX12_readLine_169 rfl ?_
              refine j_callV (pc := 171) (As := [vI 0, vI 20]) (st := [vI 6, vR 93]) (c_X12_readNumber hM 0 ⟨by omega, by omega⟩ 20 ⟨by omega, by omega⟩ σ50 hIσ50) mv_X12_140 rfl rfl rfl (a_88 hM) dX12_readLine_171 ⟨Nat.le_of_ble_eq_true rfl, Nat.le_of_ble_eq_true rfl⟩ ⟨Nat.le_refl _, Nat.le_refl _⟩ rfl (Nat.le_of_ble_eq_true rfl) rfl (fun z54 σ55 hz54 => ?_)
              obtain ⟨r57, rfl, hr57, hIσ55, hGσ55, q56_0, q56_1, q56_2⟩ := hz54
              replace q56_0 : ¬ σ55 88 17 = 0 ∨ (σ50 88 17 = 0 ∧ (0 : Int) ≤ r57 ∧ r57 ≤ (20 : Int)) := q56_0
              have y58 : σ50 88 17 = σ47 88 17 := (tw_ne1 eσ50 (by omega))
              have f59 : (0 : Int) ≤ σ47 88 17 ∧ σ47 88 17 ≤ 5 := hIσ47 88 17
              replace q56_1 : σ50 88 13 ≤ σ55 88 13 := q56_1
              have y60 : σ50 88 13 = σ47 88 13 := (tw_ne1 eσ50 (by omega))
              have f61 : (0 : Int) ≤ σ47 88 13 ∧ σ47 88 13 ≤ 400 := hIσ47 88 13
              replace q56_2 : ¬ σ55 88 17 = 0 ∨ σ55 88 15 = 0 ∨ σ50 88 13 < σ55 88 13 := q56_2
              have y62 : σ50 88 13 = σ47 88 13 := (tw_ne1 eσ50 (by omega))
              have hFσ55 : tw_F (fun c j => (c = 88 ∧ (j = 9 ∨ j = 10 ∨ j = 13 ∨ j = 14 ∨ j = 15 ∨ j = 16 ∨ j = 17 ∨ j = 18)) ∨ (93 ≤ c ∧ c < 98)) σ σ55 := tw_F_tr hFσ50 hGσ55 (fun c j q => (show (c = 88 ∧ (j = 9 ∨ j = 10 ∨ j = 13 ∨ j = 14 ∨ j = 15 ∨ j = 16 ∨ j = 17 ∨ j = 18)) ∨ (93 ≤ c ∧ c < 98) from by replace q : (c = 88 ∧ (j = 13 ∨ j = 14 ∨ j = 15 ∨ j = 16 ∨ j = 17 ∨ j = 18)) := q; omega))
              refine j_st (st' := [vI r57, vI 6, vR 93]) rfl ?_
              refine j_iast (pc := 174) dX12_readLine_174 (a_93 hM) (by omega) (by omega) (by decide) (j_nm (fun σ63 (eσ63 : σ63 = tw_up σ55 93 6 r57) => ?_))
              have hIσ63 : tw_I σ63 := tw_I_up hIσ55 eσ63 (show (-2147483648 : Int) ≤ r57 ∧ r57 ≤ 2147483647 from ⟨by omega, by omega⟩)
              have hFσ63 : tw_F (fun c j => (c = 88 ∧ (j = 9 ∨ j = 10 ∨ j = 13 ∨ j = 14 ∨ j = 15 ∨ j = 16 ∨ j = 17 ∨ j = 18)) ∨ (93 ≤ c ∧ c < 98)) σ σ63 := tw_F_up hFσ55 eσ63 (show (93 = 88 ∧ (6 = 9 ∨ 6 = 10 ∨ 6 = 13 ∨ 6 = 14 ∨ 6 = 15 ∨ 6 = 16 ∨ 6 = 17 ∨ 6 = 18)) ∨ (93 ≤ 93 ∧ 93 < 98) from by omega)
              refine j_ls (ls' := [(0, vR 88)]) [0] rfl ?_
              have y64 : σ63 88 13 = σ55 88 13 := (tw_ne1 eσ63 (by omega))
              have f65 : (0 : Int) ≤ σ55 88 13 ∧ σ55 88 13 ≤ 400 := hIσ55 88 13
              exact ih.2.2 σ63 hIσ63 hFσ63 (show DQ σ63 from (by first | exact q56_0 | exact D1 | exact DQ_put93 (DQ_F D1 (fun j => hGσ55 93 j (show ¬ ((93 = 88 ∧ (j = 13 ∨ j = 14 ∨ j = 15 ∨ j = 16 ∨ j = 17 ∨ j = 18))) from by omega)) (fun j => hGσ55 94 j (show ¬ ((94 = 88 ∧ (j = 13 ∨ j = 14 ∨ j = 15 ∨ j = 16 ∨ j = 17 ∨ j = 18))) from by omega)) (by omega)) eσ63 (by rcases q56_0 with q | q; exact Or.inl (by omega); exact Or.inr (r5w (by decide) (by omega))) | exact DQ_F i0 (fun j => rfl) (fun j => (((((tw_ne1 eσ63 (by omega))).trans (hGσ55 94 j (show ¬ ((94 = 88 ∧ (j = 13 ∨ j = 14 ∨ j = 15 ∨ j = 16 ∨ j = 17 ∨ j = 18))) from by omega))).trans (tw_ne1 eσ50 (by omega))).trans (hGσ47 94 j (show ¬ ((94 = 88 ∧ (j = 13 ∨ j = 14 ∨ j = 15 ∨ j = 16 ∨ j = 17 ∨ j = 18))) from by omega))).trans (hGσ31 94 j (show ¬ ((94 = 88 ∧ (j = 13 ∨ j = 14 ∨ j = 15 ∨ j = 16 ∨ j = 17 ∨ j = 18))) from by omega))) (by omega))) (show σ 88 13 ≤ σ63 88 13 from by omega) (show 2 < N_ from by omega)
          · refine j_aload_n (pc := 129) dX12_readLine_129 rfl rfl ?_
            refine j_callV (pc := 130) (As := []) (st := []) (c_X12_readRack hM σ31 hIσ31) mv_X12_152 rfl rfl rfl (a_88 hM) dX12_readLine_130 ⟨Nat.le_of_ble_eq_true rfl, Nat.le_of_ble_eq_true rfl⟩ ⟨Nat.le_refl _, Nat.le_refl _⟩ rfl (Nat.le_of_ble_eq_true rfl) rfl (fun z66 σ67 hz66 => ?_)
            obtain ⟨rfl, hIσ67, hGσ67, q68_0, q68_1⟩ := hz66
            replace q68_0 : ¬ σ67 88 17 = 0 ∨ σ31 88 17 = 0 := q68_0
            replace q68_1 : σ31 88 13 ≤ σ67 88 13 := q68_1
            have hFσ67 : tw_F (fun c j => (c = 88 ∧ (j = 9 ∨ j = 10 ∨ j = 13 ∨ j = 14 ∨ j = 15 ∨ j = 16 ∨ j = 17 ∨ j = 18)) ∨ (93 ≤ c ∧ c < 98)) σ σ67 := tw_F_tr hFσ31 hGσ67 (fun c j q => (show (c = 88 ∧ (j = 9 ∨ j = 10 ∨ j = 13 ∨ j = 14 ∨ j = 15 ∨ j = 16 ∨ j = 17 ∨ j = 18)) ∨ (93 ≤ c ∧ c < 98) from by replace q : (c = 88 ∧ (j = 13 ∨ j = 14 ∨ j = 15 ∨ j = 16 ∨ j = 17 ∨ j = 18)) ∨ c = 95 ∨ c = 97 := q; omega))
            refine j_st (st' := []) rfl ?_
            refine j_goto (pc := 133) (tgt := 175) dX12_readLine_133 rfl ?_
            refine j_ls (ls' := [(0, vR 88)]) [0] rfl ?_
            exact ih.2.2 σ67 hIσ67 hFσ67 (show DQ σ67 from (by first | exact q68_0 | exact D1 | exact DQ_put93 (DQ_F D1 (fun j => hGσ67 93 j (show ¬ ((93 = 88 ∧ (j = 13 ∨ j = 14 ∨ j = 15 ∨ j = 16 ∨ j = 17 ∨ j = 18)) ∨ 93 = 95 ∨ 93 = 97) from by omega)) (fun j => hGσ67 94 j (show ¬ ((94 = 88 ∧ (j = 13 ∨ j = 14 ∨ j = 15 ∨ j = 16 ∨ j = 17 ∨ j = 18)) ∨ 94 = 95 ∨ 94 = 97) from by omega)) (by omega)) _ (by rcases q68_0 with q | q; exact Or.inl (by omega); exact Or.inr (r5w (by decide) (by omega))) | exact DQ_F i0 (fun j => ((hGσ67 93 j (show ¬ ((93 = 88 ∧ (j = 13 ∨ j = 14 ∨ j = 15 ∨ j = 16 ∨ j = 17 ∨ j = 18)) ∨ 93 = 95 ∨ 93 = 97) from by omega))).trans (hGσ31 93 j (show ¬ ((93 = 88 ∧ (j = 13 ∨ j = 14 ∨ j = 15 ∨ j = 16 ∨ j = 17 ∨ j = 18))) from by omega))) (fun j => ((hGσ67 94 j (show ¬ ((94 = 88 ∧ (j = 13 ∨ j = 14 ∨ j = 15 ∨ j = 16 ∨ j = 17 ∨ j = 18)) ∨ 94 = 95 ∨ 94 = 97) from by omega))).trans (hGσ31 94 j (show ¬ ((94 = 88 ∧ (j = 13 ∨ j = 14 ∨ j = 15 ∨ j = 16 ∨ j = 17 ∨ j = 18))) from by omega))) (by omega))) (show σ 88 13 ≤ σ67 88 13 from by omega) (show 2 < N_ from by omega)
        · refine j_aload_n (pc := 116) dX12_readLine_116 rfl rfl ?_
          refine j_callV (pc := 117) (As := []) (st := []) (c_X12_readAt hM σ31 hIσ31 (DQ_F i0 (fun j => (hGσ31 93 j (show ¬ ((93 = 88 ∧ (j = 13 ∨ j = 14 ∨ j = 15 ∨ j = 16 ∨ j = 17 ∨ j = 18))) from by omega))) (fun j => (hGσ31 94 j (show ¬ ((94 = 88 ∧ (j = 13 ∨ j = 14 ∨ j = 15 ∨ j = 16 ∨ j = 17 ∨ j = 18))) from by omega))) (by omega))) mv_X12_149 rfl rfl rfl (a_88 hM) dX12_readLine_117 ⟨Nat.le_of_ble_eq_true rfl, Nat.le_of_ble_eq_true rfl⟩ ⟨Nat.le_refl _, Nat.le_refl _⟩ rfl (Nat.le_of_ble_eq_true rfl) rfl (fun z70 σ71 hz70 => ?_)
          obtain ⟨rfl, hIσ71, hGσ71, q72_0, q72_1, q72_2⟩ := hz70
          replace q72_0 : DQ σ71 := q72_0
          replace q72_1 : ¬ σ71 88 17 = 0 ∨ σ31 88 17 = 0 := q72_1
          replace q72_2 : σ31 88 13 ≤ σ71 88 13 := q72_2
          have hFσ71 : tw_F (fun c j => (c = 88 ∧ (j = 9 ∨ j = 10 ∨ j = 13 ∨ j = 14 ∨ j = 15 ∨ j = 16 ∨ j = 17 ∨ j = 18)) ∨ (93 ≤ c ∧ c < 98)) σ σ71 := tw_F_tr hFσ31 hGσ71 (fun c j q => (show (c = 88 ∧ (j = 9 ∨ j = 10 ∨ j = 13 ∨ j = 14 ∨ j = 15 ∨ j = 16 ∨ j = 17 ∨ j = 18)) ∨ (93 ≤ c ∧ c < 98) from by replace q : (c = 88 ∧ (j = 10 ∨ j = 13 ∨ j = 14 ∨ j = 15 ∨ j = 16 ∨ j = 17 ∨ j = 18)) ∨ c = 94 ∨ c = 96 := q; omega))
          refine j_st (st' := []) rfl ?_
          refine j_goto (pc := 120) (tgt := 175) dX12_readLine_120 rfl ?_
          refine j_ls (ls' := [(0, vR 88)]) [0] rfl ?_
          exact ih.2.2 σ71 hIσ71 hFσ71 (show DQ σ71 from (by first | exact q72_0 | exact D1 | exact DQ_put93 (DQ_F D1 (fun j => hGσ71 93 j (show ¬ ((93 = 88 ∧ (j = 10 ∨ j = 13 ∨ j = 14 ∨ j = 15 ∨ j = 16 ∨ j = 17 ∨ j = 18)) ∨ 93 = 94 ∨ 93 = 96) from by omega)) (fun j => hGσ71 94 j (show ¬ ((94 = 88 ∧ (j = 10 ∨ j = 13 ∨ j = 14 ∨ j = 15 ∨ j = 16 ∨ j = 17 ∨ j = 18)) ∨ 94 = 94 ∨ 94 = 96) from by omega)) (by omega)) _ (by rcases q72_0 with q | q; exact Or.inl (by omega); exact Or.inr (r5w (by decide) (by omega))) | exact DQ_F i0 (fun j => ((hGσ71 93 j (show ¬ ((93 = 88 ∧ (j = 10 ∨ j = 13 ∨ j = 14 ∨ j = 15 ∨ j = 16 ∨ j = 17 ∨ j = 18)) ∨ 93 = 94 ∨ 93 = 96) from by omega))).trans (hGσ31 93 j (show ¬ ((93 = 88 ∧ (j = 13 ∨ j = 14 ∨ j = 15 ∨ j = 16 ∨ j = 17 ∨ j = 18))) from by omega))) (fun j => rfl) (by omega))) (show σ 88 13 ≤ σ71 88 13 from by omega) (show 2 < N_ from by omega)
      · exact j_vret (pc := 109) ⟨rfl, rfl⟩ dX12_readLine_109 rfl ⟨rfl, hIσ31, hFσ31, (by first | exact DQ_F D3 (fun j => hGσ31 93 j (show ¬ ((93 = 88 ∧ (j = 13 ∨ j = 14 ∨ j = 15 ∨ j = 16 ∨ j = 17 ∨ j = 18))) from by omega)) (fun j => hGσ31 94 j (show ¬ ((94 = 88 ∧ (j = 13 ∨ j = 14 ∨ j = 15 ∨ j = 16 ∨ j = 17 ∨ j = 18))) from by omega)) (by omega) | exact Or.inl (by omega)), by omega, by omega⟩
    · intro τ hIτ hFτ i0 i1 hm
      refine j_aload_n (pc := 175) dX12_readLine_175 rfl rfl ?_
      refine j_getI (pc := 176) fl_X12_91 dX12_readLine_176 (a_88 hM) rfl ?_
      have f74 : (0 : Int) ≤ τ 88 17 ∧ τ 88 17 ≤ 5 := hIτ 88 17
      refine j_ifR_ne (pc := 179) (tgt := 200) ⟨by omega, by omega⟩ dX12_readLine_179 rfl (fun h75 => ?_) (fun h75 => ?_)
      · have D3 : DQ τ := by first | exact i0 | exact DQ_F i0 (fun j => hG_ 93 j _) (fun j => hG_ 94 j _) (by omega)
        refine j_aload_n (pc := 200) dX12_readLine_200 rfl rfl ?_
        refine j_callV (pc := 201) (As := []) (st := []) (c_X12_next hM τ hIτ) mv_X12_137 rfl rfl rfl (a_88 hM) dX12_readLine_201 ⟨Nat.le_of_ble_eq_true rfl, Nat.le_of_ble_eq_true rfl⟩ ⟨Nat.le_refl _, Nat.le_refl _⟩ rfl (Nat.le_of_ble_eq_true rfl) rfl (fun z76 σ77 hz76 => ?_)
        obtain ⟨rfl, hIσ77, hGσ77, q78_0, q78_1, q78_2⟩ := hz76
        replace q78_0 : ¬ σ77 88 17 = 0 ∨ τ 88 17 = 0 := q78_0
        replace q78_1 : τ 88 13 ≤ σ77 88 13 := q78_1
        replace q78_2 : ¬ σ77 88 17 = 0 ∨ σ77 88 15 = 0 ∨ τ 88 13 < σ77 88 13 := q78_2
        have hFσ77 : tw_F (fun c j => (c = 88 ∧ (j = 9 ∨ j = 10 ∨ j = 13 ∨ j = 14 ∨ j = 15 ∨ j = 16 ∨ j = 17 ∨ j = 18)) ∨ (93 ≤ c ∧ c < 98)) σ σ77 := tw_F_tr hFτ hGσ77 (fun c j q => (show (c = 88 ∧ (j = 9 ∨ j = 10 ∨ j = 13 ∨ j = 14 ∨ j = 15 ∨ j = 16 ∨ j = 17 ∨ j = 18)) ∨ (93 ≤ c ∧ c < 98) from by replace q : (c = 88 ∧ (j = 13 ∨ j = 14 ∨ j = 15 ∨ j = 16 ∨ j = 17 ∨ j = 18)) := q; omega))
        refine j_st (st' := []) rfl ?_
        exact j_vret (pc := 204) ⟨rfl, rfl⟩ dX12_readLine_204 rfl ⟨rfl, hIσ77, hFσ77, (by first | exact DQ_F D3 (fun j => hGσ77 93 j (show ¬ ((93 = 88 ∧ (j = 13 ∨ j = 14 ∨ j = 15 ∨ j = 16 ∨ j = 17 ∨ j = 18))) from by omega)) (fun j => hGσ77 94 j (show ¬ ((94 = 88 ∧ (j = 13 ∨ j = 14 ∨ j = 15 ∨ j = 16 ∨ j = 17 ∨ j = 18))) from by omega)) (by omega) | exact Or.inl (by omega)), by omega, by omega⟩
      · refine j_aload_n (pc := 182) dX12_readLine_182 rfl rfl ?_
        refine j_aload_n (pc := 183) dX12_readLine_183 rfl rfl ?_
        refine j_getI (pc := 184) fl_X12_115 dX12_readLine_184 (a_88 hM) rfl ?_
        have f80 : (-2147483648 : Int) ≤ τ 88 15 ∧ τ 88 15 ≤ 2147483647 := hIτ 88 15
        refine j_iconst (pc := 187) dX12_readLine_187 ?_
        refine j_icmpR_ne (pc := 188) (tgt := 195) ⟨by omega, by omega⟩ ⟨by omega, by omega⟩ dX12_readLine_188 rfl (fun h81 => ?_) (fun h81 => ?_)
        · refine j_iconst (pc := 195) dX12_readLine_195 ?_
          refine j_iconst (pc := 196) dX12_readLine_196 ?_
          refine j_callV (pc := 197) (As := [vI 0, vI 2]) (st := []) (c_X12_needs hM 0 ⟨by omega, by omega⟩ 2 ⟨by omega, by omega⟩ τ hIτ) mv_X12_129 rfl rfl rfl (a_88 hM) dX12_readLine_197 ⟨Nat.le_of_ble_eq_true rfl, Nat.le_of_ble_eq_true rfl⟩ ⟨Nat.le_refl _, Nat.le_refl _⟩ rfl (Nat.le_of_ble_eq_true rfl) rfl (fun z82 σ83 hz82 => ?_)
          obtain ⟨rfl, hIσ83, hGσ83, q84_0⟩ := hz82
          replace q84_0 : (¬ (0 : Int) = 0 ∧ σ83 88 17 = τ 88 17) ∨ ((0 : Int) = 0 ∧ τ 88 17 = 0 ∧ σ83 88 17 = (2 : Int)) ∨ ((0 : Int) = 0 ∧ ¬ τ 88 17 = 0 ∧ σ83 88 17 = τ 88 17) := q84_0
          have hFσ83 : tw_F (fun c j => (c = 88 ∧ (j = 9 ∨ j = 10 ∨ j = 13 ∨ j = 14 ∨ j = 15 ∨ j = 16 ∨ j = 17 ∨ j = 18)) ∨ (93 ≤ c ∧ c < 98)) σ σ83 := tw_F_tr hFτ hGσ83 (fun c j q => (show (c = 88 ∧ (j = 9 ∨ j = 10 ∨ j = 13 ∨ j = 14 ∨ j = 15 ∨ j = 16 ∨ j = 17 ∨ j = 18)) ∨ (93 ≤ c ∧ c < 98) from by replace q : (c = 88 ∧ (j = 17 ∨ j = 18)) := q; omega))
          refine j_st (st' := []) rfl ?_
          have D3 : DQ σ83 := by first | exact i0 | exact DQ_F i0 (fun j => hGσ83 93 j (show ¬ ((93 = 88 ∧ (j = 17 ∨ j = 18))) from by omega)) (fun j => hGσ83 94 j (show ¬ ((94 = 88 ∧ (j = 17 ∨ j = 18))) from by omega)) (by omega)
          refine j_aload_n (pc := 200) dX12_readLine_200 rfl rfl ?_
          refine j_callV (pc := 201) (As := []) (st := []) (c_X12_next hM σ83 hIσ83) mv_X12_137 rfl rfl rfl (a_88 hM) dX12_readLine_201 ⟨Nat.le_of_ble_eq_true rfl, Nat.le_of_ble_eq_true rfl⟩ ⟨Nat.le_refl _, Nat.le_refl _⟩ rfl (Nat.le_of_ble_eq_true rfl) rfl (fun z86 σ87 hz86 => ?_)
          obtain ⟨rfl, hIσ87, hGσ87, q88_0, q88_1, q88_2⟩ := hz86
          replace q88_0 : ¬ σ87 88 17 = 0 ∨ σ83 88 17 = 0 := q88_0
          replace q88_1 : σ83 88 13 ≤ σ87 88 13 := q88_1
          have y90 : σ83 88 13 = τ 88 13 := (hGσ83 88 13 (show ¬ ((88 = 88 ∧ (13 = 17 ∨ 13 = 18))) from by omega))
          have f91 : (0 : Int) ≤ τ 88 13 ∧ τ 88 13 ≤ 400 := hIτ 88 13
          replace q88_2 : ¬ σ87 88 17 = 0 ∨ σ87 88 15 = 0 ∨ σ83 88 13 < σ87 88 13 := q88_2
          have y92 : σ83 88 13 = τ 88 13 := (hGσ83 88 13 (show ¬ ((88 = 88 ∧ (13 = 17 ∨ 13 = 18))) from by omega))
          have hFσ87 : tw_F (fun c j => (c = 88 ∧ (j = 9 ∨ j = 10 ∨ j = 13 ∨ j = 14 ∨ j = 15 ∨ j = 16 ∨ j = 17 ∨ j = 18)) ∨ (93 ≤ c ∧ c < 98)) σ σ87 := tw_F_tr hFσ83 hGσ87 (fun c j q => (show (c = 88 ∧ (j = 9 ∨ j = 10 ∨ j = 13 ∨ j = 14 ∨ j = 15 ∨ j = 16 ∨ j = 17 ∨ j = 18)) ∨ (93 ≤ c ∧ c < 98) from by replace q : (c = 88 ∧ (j = 13 ∨ j = 14 ∨ j = 15 ∨ j = 16 ∨ j = 17 ∨ j = 18)) := q; omega))
          refine j_st (st' := []) rfl ?_
          exact j_vret (pc := 204) ⟨rfl, rfl⟩ dX12_readLine_204 rfl ⟨rfl, hIσ87, hFσ87, (by first | exact DQ_F D3 (fun j => hGσ87 93 j (show ¬ ((93 = 88 ∧ (j = 13 ∨ j = 14 ∨ j = 15 ∨ j = 16 ∨ j = 17 ∨ j = 18))) from by omega)) (fun j => hGσ87 94 j (show ¬ ((94 = 88 ∧ (j = 13 ∨ j = 14 ∨ j = 15 ∨ j = 16 ∨ j = 17 ∨ j = 18))) from by omega)) (by omega) | exact Or.inl (by omega)), by omega, by omega⟩
        · refine j_iconst (pc := 191) dX12_readLine_191 ?_
          refine j_goto (pc := 192) (tgt := 196) dX12_readLine_192 rfl ?_
          refine j_iconst (pc := 196) dX12_readLine_196 ?_
          refine j_callV (pc := 197) (As := [vI 1, vI 2]) (st := []) (c_X12_needs hM 1 ⟨by omega, by omega⟩ 2 ⟨by omega, by omega⟩ τ hIτ) mv_X12_129 rfl rfl rfl (a_88 hM) dX12_readLine_197 ⟨Nat.le_of_ble_eq_true rfl, Nat.le_of_ble_eq_true rfl⟩ ⟨Nat.le_refl _, Nat.le_refl _⟩ rfl (Nat.le_of_ble_eq_true rfl) rfl (fun z93 σ94 hz93 => ?_)
          obtain ⟨rfl, hIσ94, hGσ94, q95_0⟩ := hz93
          replace q95_0 : (¬ (1 : Int) = 0 ∧ σ94 88 17 = τ 88 17) ∨ ((1 : Int) = 0 ∧ τ 88 17 = 0 ∧ σ94 88 17 = (2 : Int)) ∨ ((1 : Int) = 0 ∧ ¬ τ 88 17 = 0 ∧ σ94 88 17 = τ 88 17) := q95_0
          have hFσ94 : tw_F (fun c j => (c = 88 ∧ (j = 9 ∨ j = 10 ∨ j = 13 ∨ j = 14 ∨ j = 15 ∨ j = 16 ∨ j = 17 ∨ j = 18)) ∨ (93 ≤ c ∧ c < 98)) σ σ94 := tw_F_tr hFτ hGσ94 (fun c j q => (show (c = 88 ∧ (j = 9 ∨ j = 10 ∨ j = 13 ∨ j = 14 ∨ j = 15 ∨ j = 16 ∨ j = 17 ∨ j = 18)) ∨ (93 ≤ c ∧ c < 98) from by replace q : (c = 88 ∧ (j = 17 ∨ j = 18)) := q; omega))
          refine j_st (st' := []) rfl ?_
          have D3 : DQ σ94 := by first | exact i0 | exact DQ_F i0 (fun j => hGσ94 93 j (show ¬ ((93 = 88 ∧ (j = 17 ∨ j = 18))) from by omega)) (fun j => hGσ94 94 j (show ¬ ((94 = 88 ∧ (j = 17 ∨ j = 18))) from by omega)) (by omega)
          refine j_aload_n (pc := 200) dX12_readLine_200 rfl rfl ?_
          refine j_callV (pc := 201) (As := []) (st := []) (c_X12_next hM σ94 hIσ94) mv_X12_137 rfl rfl rfl (a_88 hM) dX12_readLine_201 ⟨Nat.le_of_ble_eq_true rfl, Nat.le_of_ble_eq_true rfl⟩ ⟨Nat.le_refl _, Nat.le_refl _⟩ rfl (Nat.le_of_ble_eq_true rfl) rfl (fun z97 σ98 hz97 => ?_)
          obtain ⟨rfl, hIσ98, hGσ98, q99_0, q99_1, q99_2⟩ := hz97
          replace q99_0 : ¬ σ98 88 17 = 0 ∨ σ94 88 17 = 0 := q99_0
          replace q99_1 : σ94 88 13 ≤ σ98 88 13 := q99_1
          have y101 : σ94 88 13 = τ 88 13 := (hGσ94 88 13 (show ¬ ((88 = 88 ∧ (13 = 17 ∨ 13 = 18))) from by omega))
          have f102 : (0 : Int) ≤ τ 88 13 ∧ τ 88 13 ≤ 400 := hIτ 88 13
          replace q99_2 : ¬ σ98 88 17 = 0 ∨ σ98 88 15 = 0 ∨ σ94 88 13 < σ98 88 13 := q99_2
          have y103 : σ94 88 13 = τ 88 13 := (hGσ94 88 13 (show ¬ ((88 = 88 ∧ (13 = 17 ∨ 13 = 18))) from by omega))
          have hFσ98 : tw_F (fun c j => (c = 88 ∧ (j = 9 ∨ j = 10 ∨ j = 13 ∨ j = 14 ∨ j = 15 ∨ j = 16 ∨ j = 17 ∨ j = 18)) ∨ (93 ≤ c ∧ c < 98)) σ σ98 := tw_F_tr hFσ94 hGσ98 (fun c j q => (show (c = 88 ∧ (j = 9 ∨ j = 10 ∨ j = 13 ∨ j = 14 ∨ j = 15 ∨ j = 16 ∨ j = 17 ∨ j = 18)) ∨ (93 ≤ c ∧ c < 98) from by replace q : (c = 88 ∧ (j = 13 ∨ j = 14 ∨ j = 15 ∨ j = 16 ∨ j = 17 ∨ j = 18)) := q; omega))
          refine j_st (st' := []) rfl ?_
          exact j_vret (pc := 204) ⟨rfl, rfl⟩ dX12_readLine_204 rfl ⟨rfl, hIσ98, hFσ98, (by first | exact DQ_F D3 (fun j => hGσ98 93 j (show ¬ ((93 = 88 ∧ (j = 13 ∨ j = 14 ∨ j = 15 ∨ j = 16 ∨ j = 17 ∨ j = 18))) from by omega)) (fun j => hGσ98 94 j (show ¬ ((94 = 88 ∧ (j = 13 ∨ j = 14 ∨ j = 15 ∨ j = 16 ∨ j = 17 ∨ j = 18))) from by omega)) (by omega) | exact Or.inl (by omega)), by omega, by omega⟩
set_option maxHeartbeats 4000000 in
set_option maxRecDepth 100000 in
theorem c_X12_readLine {G : tw_G} (hM : tw_isM G) (σ : tw_M) (hI : tw_I σ) (hq0 : DQ σ) : tw_C G yX12_readLine cX12_readLine 2 none 4 [vR 88] σ (q_X12_readLine σ) := by
  refine tw_met [(0, vR 88)] (by decide +kernel) rfl (Nat.le_of_ble_eq_true rfl) ?_
  refine j_aload_n (pc := 0) dX12_readLine_0 rfl rfl ?_
  refine j_getI (pc := 1) fl_X12_115 dX12_readLine_1 (a_88 hM) rfl ?_
  have f104 : (-2147483648 : Int) ≤ σ 88 15 ∧ σ 88 15 ≤ 2147483647 := hI 88 15
  refine j_iconst (pc := 4) dX12_readLine_4 ?_
  refine j_icmpR_ne (pc := 5) (tgt := 15) ⟨by omega, by omega⟩ ⟨by omega, by omega⟩ dX12_readLine_5 rfl (fun h105 => ?_) (fun h105 => ?_)
  · refine j_bipush (pc := 15) dX12_readLine_15 rfl ?_
    refine j_istore_n (pc := 17) (i := 1) (ls' := [(0, vR 88), (1, vI (-4))]) [1, 0] dX12_readLine_17 rfl (Nat.le_of_ble_eq_true rfl) rfl rfl ?_
    refine j_aload_n (pc := 18) dX12_readLine_18 rfl rfl ?_
    refine j_iload_n (pc := 19) dX12_readLine_19 rfl rfl ?_
    refine j_i2l (pc := 20) dX12_readLine_20 ?_
    rw [w32_eq (a := -4) (by omega) (by omega)]
    refine j_lconst (pc := 21) (z := 0) dX12_readLine_21 rfl ?_
    refine j_ldc2 (pc := 22) (z := 8) dX12_readLine_22 (tw_in (i := 1469) (by decide +kernel) (by decide +kernel)) ?_
    refine j_callS (pc := 25) (As := [vL (-4), vL 0, vL 8]) (st := [vR 88]) (c_X12_in (-4) ⟨by omega, by omega⟩ 0 ⟨by omega, by omega⟩ 8 ⟨by omega, by omega⟩ σ hI) ms_X12_82 rfl dX12_readLine_25 ⟨Nat.le_of_ble_eq_true rfl, Nat.le_of_ble_eq_true rfl⟩ ⟨Nat.le_refl _, Nat.le_refl _⟩ rfl (Nat.le_of_ble_eq_true rfl) rfl (fun z106 σ107 hz106 => ?_)
    obtain ⟨r109, rfl, hr109, rfl, q108_0⟩ := hz106
    replace q108_0 : (r109 = 1 ∧ (0 : Int) ≤ (-4 : Int) ∧ (-4 : Int) ≤ (8 : Int)) ∨ (r109 = 0 ∧ ¬ ((0 : Int) ≤ (-4 : Int) ∧ (-4 : Int) ≤ (8 : Int))) := q108_0
    refine j_st (st' := [vI r109, vR 88]) rfl ?_
    refine j_ifR_ne (pc := 28) (tgt := 43) ⟨by omega, by omega⟩ dX12_readLine_28 rfl (fun h110 => ?_) (fun h110 => ?_)
    · refine j_iconst (pc := 43) dX12_readLine_43 ?_
      refine j_goto (pc := 44) (tgt := 48) dX12_readLine_44 rfl ?_
      refine j_iconst (pc := 48) dX12_readLine_48 ?_
      refine j_callV (pc := 49) (As := [vI 1, vI 2]) (st := []) (c_X12_needs hM 1 ⟨by omega, by omega⟩ 2 ⟨by omega, by omega⟩ σ hI) mv_X12_129 rfl rfl rfl (a_88 hM) dX12_readLine_49 ⟨Nat.le_of_ble_eq_true rfl, Nat.le_of_ble_eq_true rfl⟩ ⟨Nat.le_refl _, Nat.le_refl _⟩ rfl (Nat.le_of_ble_eq_true rfl) rfl (fun z111 σ112 hz111 => ?_)
      obtain ⟨rfl, hIσ112, hGσ112, q113_0⟩ := hz111
      replace q113_0 : (¬ (1 : Int) = 0 ∧ σ112 88 17 = σ 88 17) ∨ ((1 : Int) = 0 ∧ σ 88 17 = 0 ∧ σ112 88 17 = (2 : Int)) ∨ ((1 : Int) = 0 ∧ ¬ σ 88 17 = 0 ∧ σ112 88 17 = σ 88 17) := q113_0
      have hFσ112 : tw_F (fun c j => (c = 88 ∧ (j = 9 ∨ j = 10 ∨ j = 13 ∨ j = 14 ∨ j = 15 ∨ j = 16 ∨ j = 17 ∨ j = 18)) ∨ (93 ≤ c ∧ c < 98)) σ σ112 := tw_F_tr (tw_F_rf) hGσ112 (fun c j q => (show (c = 88 ∧ (j = 9 ∨ j = 10 ∨ j = 13 ∨ j = 14 ∨ j = 15 ∨ j = 16 ∨ j = 17 ∨ j = 18)) ∨ (93 ≤ c ∧ c < 98) from by replace q : (c = 88 ∧ (j = 17 ∨ j = 18)) := q; omega))
      refine j_st (st' := []) rfl ?_
      refine j_ls (ls' := [(0, vR 88), (1, vI (-4))]) [0, 1] rfl ?_
      have y115 : σ112 88 13 = σ 88 13 := (hGσ112 88 13 (show ¬ ((88 = 88 ∧ (13 = 17 ∨ 13 = 18))) from by omega))
      have f116 : (0 : Int) ≤ σ 88 13 ∧ σ 88 13 ≤ 400 := hI 88 13
      exact (l_X12_readLine hM σ hI hq0 ((4) + 1)).1 (-4) ⟨by omega, by omega⟩ σ112 hIσ112 hFσ112 (show DQ σ112 from DQ_F hq0 (fun j => (hGσ112 93 j (show ¬ ((93 = 88 ∧ (j = 17 ∨ j = 18))) from by omega))) (fun j => (hGσ112 94 j (show ¬ ((94 = 88 ∧ (j = 17 ∨ j = 18))) from by omega))) (by omega)) (show ¬ σ112 88 17 = 0 ∨ (0 ≤ (-4 : Int) ∧ (-4 : Int) ≤ 8) ∨ (-4 : Int) = 10 ∨ (-4 : Int) = 11 from by omega) (show σ 88 13 ≤ σ112 88 13 from by omega) (Nat.lt_succ_self _)
    · refine j_iload_n (pc := 31) dX12_readLine_31 rfl rfl ?_
      refine j_bipush (pc := 32) dX12_readLine_32 rfl ?_
      refine j_icmpR_eq (pc := 34) (tgt := 43) ⟨by omega, by omega⟩ ⟨by omega, by omega⟩ dX12_readLine_34 rfl (fun h117 => by exfalso; omega) (fun h117 => ?_)
      refine j_iload_n (pc := 37) dX12_readLine_37 rfl rfl ?_
      refine j_bipush (pc := 38) dX12_readLine_38 rfl ?_
      refine j_icmpR_ne (pc := 40) (tgt := 47) ⟨by omega, by omega⟩ ⟨by omega, by omega⟩ dX12_readLine_40 rfl (fun h118 => ?_) (fun h118 => by exfalso; omega)
      refine j_iconst (pc := 47) dX12_readLine_47 ?_
      refine j_iconst (pc := 48) dX12_readLine_48 ?_
      refine j_callV (pc := 49) (As := [vI 0, vI 2]) (st := []) (c_X12_needs hM 0 ⟨by omega, by omega⟩ 2 ⟨by omega, by omega⟩ σ hI) mv_X12_129 rfl rfl rfl (a_88 hM) dX12_readLine_49 ⟨Nat.le_of_ble_eq_true rfl, Nat.le_of_ble_eq_true rfl⟩ ⟨Nat.le_refl _, Nat.le_refl _⟩ rfl (Nat.le_of_ble_eq_true rfl) rfl (fun z119 σ120 hz119 => ?_)
      obtain ⟨rfl, hIσ120, hGσ120, q121_0⟩ := hz119
      replace q121_0 : (¬ (0 : Int) = 0 ∧ σ120 88 17 = σ 88 17) ∨ ((0 : Int) = 0 ∧ σ 88 17 = 0 ∧ σ120 88 17 = (2 : Int)) ∨ ((0 : Int) = 0 ∧ ¬ σ 88 17 = 0 ∧ σ120 88 17 = σ 88 17) := q121_0
      have hFσ120 : tw_F (fun c j => (c = 88 ∧ (j = 9 ∨ j = 10 ∨ j = 13 ∨ j = 14 ∨ j = 15 ∨ j = 16 ∨ j = 17 ∨ j = 18)) ∨ (93 ≤ c ∧ c < 98)) σ σ120 := tw_F_tr (tw_F_rf) hGσ120 (fun c j q => (show (c = 88 ∧ (j = 9 ∨ j = 10 ∨ j = 13 ∨ j = 14 ∨ j = 15 ∨ j = 16 ∨ j = 17 ∨ j = 18)) ∨ (93 ≤ c ∧ c < 98) from by replace q : (c = 88 ∧ (j = 17 ∨ j = 18)) := q; omega))
      refine j_st (st' := []) rfl ?_
      refine j_ls (ls' := [(0, vR 88), (1, vI (-4))]) [0, 1] rfl ?_
      have y123 : σ120 88 13 = σ 88 13 := (hGσ120 88 13 (show ¬ ((88 = 88 ∧ (13 = 17 ∨ 13 = 18))) from by omega))
      have f124 : (0 : Int) ≤ σ 88 13 ∧ σ 88 13 ≤ 400 := hI 88 13
      exact (l_X12_readLine hM σ hI hq0 ((4) + 1)).1 (-4) ⟨by omega, by omega⟩ σ120 hIσ120 hFσ120 (show DQ σ120 from DQ_F hq0 (fun j => (hGσ120 93 j (show ¬ ((93 = 88 ∧ (j = 17 ∨ j = 18))) from by omega))) (fun j => (hGσ120 94 j (show ¬ ((94 = 88 ∧ (j = 17 ∨ j = 18))) from by omega))) (by omega)) (show ¬ σ120 88 17 = 0 ∨ (0 ≤ (-4 : Int) ∧ (-4 : Int) ≤ 8) ∨ (-4 : Int) = 10 ∨ (-4 : Int) = 11 from by omega) (show σ 88 13 ≤ σ120 88 13 from by omega) (Nat.lt_succ_self _)
  · refine j_aload_n (pc := 8) dX12_readLine_8 rfl rfl ?_
    refine j_callV (pc := 9) (As := []) (st := []) (c_X12_nameNow hM σ hI) mv_X12_144 rfl rfl rfl (a_88 hM) dX12_readLine_9 ⟨Nat.le_of_ble_eq_true rfl, Nat.le_of_ble_eq_true rfl⟩ ⟨Nat.le_refl _, Nat.le_refl _⟩ rfl (Nat.le_of_ble_eq_true rfl) rfl (fun z125 σ126 hz125 => ?_)
    obtain ⟨r128, rfl, hr128, rfl, -⟩ := hz125
    refine j_st (st' := [vI r128]) rfl ?_
    refine j_goto (pc := 12) (tgt := 17) dX12_readLine_12 rfl ?_
    refine j_istore_n (pc := 17) (i := 1) (ls' := [(0, vR 88), (1, vI r128)]) [1, 0] dX12_readLine_17 rfl (Nat.le_of_ble_eq_true rfl) rfl rfl ?_
    refine j_aload_n (pc := 18) dX12_readLine_18 rfl rfl ?_
    refine j_iload_n (pc := 19) dX12_readLine_19 rfl rfl ?_
    refine j_i2l (pc := 20) dX12_readLine_20 ?_
    rw [w32_eq (a := r128) (by omega) (by omega)]
    refine j_lconst (pc := 21) (z := 0) dX12_readLine_21 rfl ?_
    refine j_ldc2 (pc := 22) (z := 8) dX12_readLine_22 (tw_in (i := 1469) (by decide +kernel) (by decide +kernel)) ?_
    refine j_callS (pc := 25) (As := [vL r128, vL 0, vL 8]) (st := [vR 88]) (c_X12_in r128 ⟨by omega, by omega⟩ 0 ⟨by omega, by omega⟩ 8 ⟨by omega, by omega⟩ σ hI) ms_X12_82 rfl dX12_readLine_25 ⟨Nat.le_of_ble_eq_true rfl, Nat.le_of_ble_eq_true rfl⟩ ⟨Nat.le_refl _, Nat.le_refl _⟩ rfl (Nat.le_of_ble_eq_true rfl) rfl (fun z129 σ130 hz129 => ?_)
    obtain ⟨r132, rfl, hr132, rfl, q131_0⟩ := hz129
    replace q131_0 : (r132 = 1 ∧ (0 : Int) ≤ r128 ∧ r128 ≤ (8 : Int)) ∨ (r132 = 0 ∧ ¬ ((0 : Int) ≤ r128 ∧ r128 ≤ (8 : Int))) := q131_0
    refine j_st (st' := [vI r132, vR 88]) rfl ?_
    refine j_ifR_ne (pc := 28) (tgt := 43) ⟨by omega, by omega⟩ dX12_readLine_28 rfl (fun h133 => ?_) (fun h133 => ?_)
    · refine j_iconst (pc := 43) dX12_readLine_43 ?_
      refine j_goto (pc := 44) (tgt := 48) dX12_readLine_44 rfl ?_
      refine j_iconst (pc := 48) dX12_readLine_48 ?_
      refine j_callV (pc := 49) (As := [vI 1, vI 2]) (st := []) (c_X12_needs hM 1 ⟨by omega, by omega⟩ 2 ⟨by omega, by omega⟩ σ hI) mv_X12_129 rfl rfl rfl (a_88 hM) dX12_readLine_49 ⟨Nat.le_of_ble_eq_true rfl, Nat.le_of_ble_eq_true rfl⟩ ⟨Nat.le_refl _, Nat.le_refl _⟩ rfl (Nat.le_of_ble_eq_true rfl) rfl (fun z134 σ135 hz134 => ?_)
      obtain ⟨rfl, hIσ135, hGσ135, q136_0⟩ := hz134
      replace q136_0 : (¬ (1 : Int) = 0 ∧ σ135 88 17 = σ 88 17) ∨ ((1 : Int) = 0 ∧ σ 88 17 = 0 ∧ σ135 88 17 = (2 : Int)) ∨ ((1 : Int) = 0 ∧ ¬ σ 88 17 = 0 ∧ σ135 88 17 = σ 88 17) := q136_0
      have hFσ135 : tw_F (fun c j => (c = 88 ∧ (j = 9 ∨ j = 10 ∨ j = 13 ∨ j = 14 ∨ j = 15 ∨ j = 16 ∨ j = 17 ∨ j = 18)) ∨ (93 ≤ c ∧ c < 98)) σ σ135 := tw_F_tr (tw_F_rf) hGσ135 (fun c j q => (show (c = 88 ∧ (j = 9 ∨ j = 10 ∨ j = 13 ∨ j = 14 ∨ j = 15 ∨ j = 16 ∨ j = 17 ∨ j = 18)) ∨ (93 ≤ c ∧ c < 98) from by replace q : (c = 88 ∧ (j = 17 ∨ j = 18)) := q; omega))
      refine j_st (st' := []) rfl ?_
      refine j_ls (ls' := [(0, vR 88), (1, vI r128)]) [0, 1] rfl ?_
      have y138 : σ135 88 13 = σ 88 13 := (hGσ135 88 13 (show ¬ ((88 = 88 ∧ (13 = 17 ∨ 13 = 18))) from by omega))
      have f139 : (0 : Int) ≤ σ 88 13 ∧ σ 88 13 ≤ 400 := hI 88 13
      exact (l_X12_readLine hM σ hI hq0 ((4) + 1)).1 r128 ⟨by omega, by omega⟩ σ135 hIσ135 hFσ135 (show DQ σ135 from DQ_F hq0 (fun j => (hGσ135 93 j (show ¬ ((93 = 88 ∧ (j = 17 ∨ j = 18))) from by omega))) (fun j => (hGσ135 94 j (show ¬ ((94 = 88 ∧ (j = 17 ∨ j = 18))) from by omega))) (by omega)) (show ¬ σ135 88 17 = 0 ∨ (0 ≤ r128 ∧ r128 ≤ 8) ∨ r128 = 10 ∨ r128 = 11 from by omega) (show σ 88 13 ≤ σ135 88 13 from by omega) (Nat.lt_succ_self _)
    · refine j_iload_n (pc := 31) dX12_readLine_31 rfl rfl ?_
      refine j_bipush (pc := 32) dX12_readLine_32 rfl ?_
      refine j_icmpR_eq (pc := 34) (tgt := 43) ⟨by omega, by omega⟩ ⟨by omega, by omega⟩ dX12_readLine_34 rfl (fun h140 => ?_) (fun h140 => ?_)
      · refine j_iconst (pc := 43) dX12_readLine_43 ?_
        refine j_goto (pc := 44) (tgt := 48) dX12_readLine_44 rfl ?_
        refine j_iconst (pc := 48) dX12_readLine_48 ?_
        refine j_callV (pc := 49) (As := [vI 1, vI 2]) (st := []) (c_X12_needs hM 1 ⟨by omega, by omega⟩ 2 ⟨by omega, by omega⟩ σ hI) mv_X12_129 rfl rfl rfl (a_88 hM) dX12_readLine_49 ⟨Nat.le_of_ble_eq_true rfl, Nat.le_of_ble_eq_true rfl⟩ ⟨Nat.le_refl _, Nat.le_refl _⟩ rfl (Nat.le_of_ble_eq_true rfl) rfl (fun z141 σ142 hz141 => ?_)
        obtain ⟨rfl, hIσ142, hGσ142, q143_0⟩ := hz141
        replace q143_0 : (¬ (1 : Int) = 0 ∧ σ142 88 17 = σ 88 17) ∨ ((1 : Int) = 0 ∧ σ 88 17 = 0 ∧ σ142 88 17 = (2 : Int)) ∨ ((1 : Int) = 0 ∧ ¬ σ 88 17 = 0 ∧ σ142 88 17 = σ 88 17) := q143_0
        have hFσ142 : tw_F (fun c j => (c = 88 ∧ (j = 9 ∨ j = 10 ∨ j = 13 ∨ j = 14 ∨ j = 15 ∨ j = 16 ∨ j = 17 ∨ j = 18)) ∨ (93 ≤ c ∧ c < 98)) σ σ142 := tw_F_tr (tw_F_rf) hGσ142 (fun c j q => (show (c = 88 ∧ (j = 9 ∨ j = 10 ∨ j = 13 ∨ j = 14 ∨ j = 15 ∨ j = 16 ∨ j = 17 ∨ j = 18)) ∨ (93 ≤ c ∧ c < 98) from by replace q : (c = 88 ∧ (j = 17 ∨ j = 18)) := q; omega))
        refine j_st (st' := []) rfl ?_
        refine j_ls (ls' := [(0, vR 88), (1, vI r128)]) [0, 1] rfl ?_
        have y145 : σ142 88 13 = σ 88 13 := (hGσ142 88 13 (show ¬ ((88 = 88 ∧ (13 = 17 ∨ 13 = 18))) from by omega))
        have f146 : (0 : Int) ≤ σ 88 13 ∧ σ 88 13 ≤ 400 := hI 88 13
        exact (l_X12_readLine hM σ hI hq0 ((4) + 1)).1 r128 ⟨by omega, by omega⟩ σ142 hIσ142 hFσ142 (show DQ σ142 from DQ_F hq0 (fun j => (hGσ142 93 j (show ¬ ((93 = 88 ∧ (j = 17 ∨ j = 18))) from by omega))) (fun j => (hGσ142 94 j (show ¬ ((94 = 88 ∧ (j = 17 ∨ j = 18))) from by omega))) (by omega)) (show ¬ σ142 88 17 = 0 ∨ (0 ≤ r128 ∧ r128 ≤ 8) ∨ r128 = 10 ∨ r128 = 11 from by omega) (show σ 88 13 ≤ σ142 88 13 from by omega) (Nat.lt_succ_self _)
      · refine j_iload_n (pc := 37) dX12_readLine_37 rfl rfl ?_
        refine j_bipush (pc := 38) dX12_readLine_38 rfl ?_
        refine j_icmpR_ne (pc := 40) (tgt := 47) ⟨by omega, by omega⟩ ⟨by omega, by omega⟩ dX12_readLine_40 rfl (fun h147 => ?_) (fun h147 => ?_)
        · refine j_iconst (pc := 47) dX12_readLine_47 ?_
          refine j_iconst (pc := 48) dX12_readLine_48 ?_
          refine j_callV (pc := 49) (As := [vI 0, vI 2]) (st := []) (c_X12_needs hM 0 ⟨by omega, by omega⟩ 2 ⟨by omega, by omega⟩ σ hI) mv_X12_129 rfl rfl rfl (a_88 hM) dX12_readLine_49 ⟨Nat.le_of_ble_eq_true rfl, Nat.le_of_ble_eq_true rfl⟩ ⟨Nat.le_refl _, Nat.le_refl _⟩ rfl (Nat.le_of_ble_eq_true rfl) rfl (fun z148 σ149 hz148 => ?_)
          obtain ⟨rfl, hIσ149, hGσ149, q150_0⟩ := hz148
          replace q150_0 : (¬ (0 : Int) = 0 ∧ σ149 88 17 = σ 88 17) ∨ ((0 : Int) = 0 ∧ σ 88 17 = 0 ∧ σ149 88 17 = (2 : Int)) ∨ ((0 : Int) = 0 ∧ ¬ σ 88 17 = 0 ∧ σ149 88 17 = σ 88 17) := q150_0
          have hFσ149 : tw_F (fun c j => (c = 88 ∧ (j = 9 ∨ j = 10 ∨ j = 13 ∨ j = 14 ∨ j = 15 ∨ j = 16 ∨ j = 17 ∨ j = 18)) ∨ (93 ≤ c ∧ c < 98)) σ σ149 := tw_F_tr (tw_F_rf) hGσ149 (fun c j q => (show (c = 88 ∧ (j = 9 ∨ j = 10 ∨ j = 13 ∨ j = 14 ∨ j = 15 ∨ j = 16 ∨ j = 17 ∨ j = 18)) ∨ (93 ≤ c ∧ c < 98) from by replace q : (c = 88 ∧ (j = 17 ∨ j = 18)) := q; omega))
          refine j_st (st' := []) rfl ?_
          refine j_ls (ls' := [(0, vR 88), (1, vI r128)]) [0, 1] rfl ?_
          have y152 : σ149 88 13 = σ 88 13 := (hGσ149 88 13 (show ¬ ((88 = 88 ∧ (13 = 17 ∨ 13 = 18))) from by omega))
          have f153 : (0 : Int) ≤ σ 88 13 ∧ σ 88 13 ≤ 400 := hI 88 13
          exact (l_X12_readLine hM σ hI hq0 ((4) + 1)).1 r128 ⟨by omega, by omega⟩ σ149 hIσ149 hFσ149 (show DQ σ149 from DQ_F hq0 (fun j => (hGσ149 93 j (show ¬ ((93 = 88 ∧ (j = 17 ∨ j = 18))) from by omega))) (fun j => (hGσ149 94 j (show ¬ ((94 = 88 ∧ (j = 17 ∨ j = 18))) from by omega))) (by omega)) (show ¬ σ149 88 17 = 0 ∨ (0 ≤ r128 ∧ r128 ≤ 8) ∨ r128 = 10 ∨ r128 = 11 from by omega) (show σ 88 13 ≤ σ149 88 13 from by omega) (Nat.lt_succ_self _)
        · refine j_iconst (pc := 43) dX12_readLine_43 ?_
          refine j_goto (pc := 44) (tgt := 48) dX12_readLine_44 rfl ?_
          refine j_iconst (pc := 48) dX12_readLine_48 ?_
          refine j_callV (pc := 49) (As := [vI 1, vI 2]) (st := []) (c_X12_needs hM 1 ⟨by omega, by omega⟩ 2 ⟨by omega, by omega⟩ σ hI) mv_X12_129 rfl rfl rfl (a_88 hM) dX12_readLine_49 ⟨Nat.le_of_ble_eq_true rfl, Nat.le_of_ble_eq_true rfl⟩ ⟨Nat.le_refl _, Nat.le_refl _⟩ rfl (Nat.le_of_ble_eq_true rfl) rfl (fun z154 σ155 hz154 => ?_)
          obtain ⟨rfl, hIσ155, hGσ155, q156_0⟩ := hz154
          replace q156_0 : (¬ (1 : Int) = 0 ∧ σ155 88 17 = σ 88 17) ∨ ((1 : Int) = 0 ∧ σ 88 17 = 0 ∧ σ155 88 17 = (2 : Int)) ∨ ((1 : Int) = 0 ∧ ¬ σ 88 17 = 0 ∧ σ155 88 17 = σ 88 17) := q156_0
          have hFσ155 : tw_F (fun c j => (c = 88 ∧ (j = 9 ∨ j = 10 ∨ j = 13 ∨ j = 14 ∨ j = 15 ∨ j = 16 ∨ j = 17 ∨ j = 18)) ∨ (93 ≤ c ∧ c < 98)) σ σ155 := tw_F_tr (tw_F_rf) hGσ155 (fun c j q => (show (c = 88 ∧ (j = 9 ∨ j = 10 ∨ j = 13 ∨ j = 14 ∨ j = 15 ∨ j = 16 ∨ j = 17 ∨ j = 18)) ∨ (93 ≤ c ∧ c < 98) from by replace q : (c = 88 ∧ (j = 17 ∨ j = 18)) := q; omega))
          refine j_st (st' := []) rfl ?_
          refine j_ls (ls' := [(0, vR 88), (1, vI r128)]) [0, 1] rfl ?_
          have y158 : σ155 88 13 = σ 88 13 := (hGσ155 88 13 (show ¬ ((88 = 88 ∧ (13 = 17 ∨ 13 = 18))) from by omega))
          have f159 : (0 : Int) ≤ σ 88 13 ∧ σ 88 13 ≤ 400 := hI 88 13
          exact (l_X12_readLine hM σ hI hq0 ((4) + 1)).1 r128 ⟨by omega, by omega⟩ σ155 hIσ155 hFσ155 (show DQ σ155 from DQ_F hq0 (fun j => (hGσ155 93 j (show ¬ ((93 = 88 ∧ (j = 17 ∨ j = 18))) from by omega))) (fun j => (hGσ155 94 j (show ¬ ((94 = 88 ∧ (j = 17 ∨ j = 18))) from by omega))) (by omega)) (show ¬ σ155 88 17 = 0 ∨ (0 ≤ r128 ∧ r128 ≤ 8) ∨ r128 = 10 ∨ r128 = 11 from by omega) (show σ 88 13 ≤ σ155 88 13 from by omega) (Nat.lt_succ_self _)
abbrev q_X12_text  (σ : tw_M) : Option tw_V → tw_M → Prop := fun z τ => ∃ r : Int, z = some (vI r) ∧ (-2147483648 ≤ r ∧ r ≤ 2147483647) ∧ tw_I τ ∧ tw_F (fun c j => (c = 88 ∧ (j = 9 ∨ j = 10 ∨ j = 12 ∨ j = 13 ∨ j = 14 ∨ j = 15 ∨ j = 16 ∨ j = 17 ∨ j = 18)) ∨ (c = 89 ∧ j < 100) ∨ (90 ≤ c ∧ c < 98)) σ τ ∧ (mI τ) ∧ (τ 88 12 = 0)
set_option maxHeartbeats 4000000 in
set_option maxRecDepth 100000 in
theorem l_X12_text {G : tw_G} (hM : tw_isM G) (σ : tw_M) (hI : tw_I σ) (hq0 : mI σ) : ∀ N_ : Nat, (∀ (m : Int) (hm : 0 ≤ m ∧ m ≤ 401) (τ : tw_M) (hIτ : tw_I τ) (hFτ : tw_F (fun c j => (c = 88 ∧ (j = 9 ∨ j = 10 ∨ j = 12 ∨ j = 13 ∨ j = 14 ∨ j = 15 ∨ j = 16 ∨ j = 17 ∨ j = 18)) ∨ (c = 89 ∧ j < 100) ∨ (90 ≤ c ∧ c < 98)) σ τ) (i0 : DQ τ) (i1 : mI τ) (i2 : m ≤ τ 88 13 ∨ ((¬ τ 88 17 = 0 ∨ τ 88 15 = 0) ∧ m ≤ τ 88 13 + 1)) (hm : (mTx (τ 88 17) (τ 88 15) (τ 88 13)).toNat < N_), tw_J G (tw_mt RX12 cX12_text 2 (some .int) 5) (tw_E G (q_X12_text σ)) 20 [(0, vR 88), (1, vI m)] [] τ) := by
  intro N_
  induction N_ with
  | zero => exact fun m hm τ hIτ hFτ i0 i1 i2 hm => absurd hm (Nat.not_lt_zero _)
  | succ N_ ih =>
    intro m hm τ hIτ hFτ i0 i1 i2 hm
    have m9 := i1.2.2.2.2
    refine j_aload_n (pc := 20) dX12_text_20 rfl rfl ?_
    refine j_getI (pc := 21) fl_X12_91 dX12_text_21 (a_88 hM) rfl ?_
    have f1 : (0 : Int) ≤ τ 88 17 ∧ τ 88 17 ≤ 5 := hIτ 88 17
    refine j_ifR_ne (pc := 24) (tgt := 44) ⟨by omega, by omega⟩ dX12_text_24 rfl (fun h2 => ?_) (fun h2 => ?_)
    · refine j_aload_n (pc := 44) dX12_text_44 rfl rfl ?_
      refine j_aload_n (pc := 45) dX12_text_45 rfl rfl ?_
      refine j_getI (pc := 46) fl_X12_75 dX12_text_46 (a_88 hM) rfl ?_
      have f3 : (0 : Int) ≤ τ 88 10 ∧ τ 88 10 ≤ 40 := hIτ 88 10
      refine j_aload_n (pc := 49) dX12_text_49 rfl rfl ?_
      refine j_getR (pc := 50) (r := 93) fl_X12_23 dX12_text_50 (a_88 hM) rfl ?_
      refine j_iconst (pc := 53) dX12_text_53 ?_
      refine j_iald (pc := 54) dX12_text_54 (a_93 hM) (by omega) (by omega) (by decide) ?_
      refine j_topV (show τ 93 (Int.toNat 0) = τ 93 0 from rfl) ?_
      have f4 : (-2147483648 : Int) ≤ τ 93 0 ∧ τ 93 0 ≤ 2147483647 := hIτ 93 0
      refine j_icmpR_gt (pc := 55) (tgt := 62) ⟨by omega, by omega⟩ ⟨by omega, by omega⟩ dX12_text_55 rfl (fun h5 => ?_) (fun h5 => ?_)
      · refine j_iconst (pc := 62) dX12_text_62 ?_
        refine j_iconst (pc := 63) dX12_text_63 ?_
        refine j_callV (pc := 64) (As := [vI 0, vI 5]) (st := []) (c_X12_needs hM 0 ⟨by omega, by omega⟩ 5 ⟨by omega, by omega⟩ τ hIτ) mv_X12_129 rfl rfl rfl (a_88 hM) dX12_text_64 ⟨Nat.le_of_ble_eq_true rfl, Nat.le_of_ble_eq_true rfl⟩ ⟨Nat.le_refl _, Nat.le_refl _⟩ rfl (Nat.le_of_ble_eq_true rfl) rfl (fun z6 σ7 hz6 => ?_)
        obtain ⟨rfl, hIσ7, hGσ7, q8_0⟩ := hz6
        replace q8_0 : (¬ (0 : Int) = 0 ∧ σ7 88 17 = τ 88 17) ∨ ((0 : Int) = 0 ∧ τ 88 17 = 0 ∧ σ7 88 17 = (5 : Int)) ∨ ((0 : Int) = 0 ∧ ¬ τ 88 17 = 0 ∧ σ7 88 17 = τ 88 17) := q8_0
        have hFσ7 : tw_F (fun c j => (c = 88 ∧ (j = 9 ∨ j = 10 ∨ j = 12 ∨ j = 13 ∨ j = 14 ∨ j = 15 ∨ j = 16 ∨ j = 17 ∨ j = 18)) ∨ (c = 89 ∧ j < 100) ∨ (90 ≤ c ∧ c < 98)) σ σ7 := tw_F_tr hFτ hGσ7 (fun c j q => (show (c = 88 ∧ (j = 9 ∨ j = 10 ∨ j = 12 ∨ j = 13 ∨ j = 14 ∨ j = 15 ∨ j = 16 ∨ j = 17 ∨ j = 18)) ∨ (c = 89 ∧ j < 100) ∨ (90 ≤ c ∧ c < 98) from by replace q : (c = 88 ∧ (j = 17 ∨ j = 18)) := q; omega))
        refine j_st (st' := []) rfl ?_
        refine j_aload_n (pc := 67) dX12_text_67 rfl rfl ?_
        refine j_iconst (pc := 68) dX12_text_68 ?_
        refine j_putI (pc := 69) fl_X12_86 fp_X12_12 dX12_text_69 (a_88 hM) rfl (j_nm (fun σ10 (eσ10 : σ10 = tw_up σ7 88 12 0) => ?_))
        have hIσ10 : tw_I σ10 := tw_I_up hIσ7 eσ10 (show (0 : Int) ≤ 0 ∧ 0 ≤ 400 from ⟨by omega, by omega⟩)
        have hFσ10 : tw_F (fun c j => (c = 88 ∧ (j = 9 ∨ j = 10 ∨ j = 12 ∨ j = 13 ∨ j = 14 ∨ j = 15 ∨ j = 16 ∨ j = 17 ∨ j = 18)) ∨ (c = 89 ∧ j < 100) ∨ (90 ≤ c ∧ c < 98)) σ σ10 := tw_F_up hFσ7 eσ10 (show (88 = 88 ∧ (12 = 9 ∨ 12 = 10 ∨ 12 = 12 ∨ 12 = 13 ∨ 12 = 14 ∨ 12 = 15 ∨ 12 = 16 ∨ 12 = 17 ∨ 12 = 18)) ∨ (88 = 89 ∧ 12 < 100) ∨ (90 ≤ 88 ∧ 88 < 98) from by omega)
        refine j_aload_n (pc := 72) dX12_text_72 rfl rfl ?_
        refine j_getI (pc := 73) fl_X12_91 dX12_text_73 (a_88 hM) rfl ?_
        refine j_topV (show σ10 88 17 = σ7 88 17 from (tw_ne1 eσ10 (by omega))) ?_
        have f11 : (0 : Int) ≤ σ7 88 17 ∧ σ7 88 17 ≤ 5 := hIσ7 88 17
        refine j_ifR_le (pc := 76) (tgt := 87) ⟨by omega, by omega⟩ dX12_text_76 rfl (fun h12 => ?_) (fun h12 => ?_)
        · have z9 : σ10 88 17 = 0 := ((tw_ne1 eσ10 (by omega))).trans (by omega)
          refine j_aload_n (pc := 87) dX12_text_87 rfl rfl ?_
          have y13 : σ10 89 193 = τ 89 193 := ((tw_ne1 eσ10 (by omega))).trans (hGσ7 89 193 (show ¬ ((89 = 88 ∧ (193 = 17 ∨ 193 = 18))) from by omega))
          have f14 : (0 : Int) ≤ τ 89 193 ∧ τ 89 193 ≤ 999 := hIτ 89 193
          have y15 : σ10 89 195 = τ 89 195 := ((tw_ne1 eσ10 (by omega))).trans (hGσ7 89 195 (show ¬ ((89 = 88 ∧ (195 = 17 ∨ 195 = 18))) from by omega))
          have f16 : (0 : Int) ≤ τ 89 195 ∧ τ 89 195 ≤ 999 := hIτ 89 195
          have y17 : σ10 89 293 = τ 89 293 := ((tw_ne1 eσ10 (by omega))).trans (hGσ7 89 293 (show ¬ ((89 = 88 ∧ (293 = 17 ∨ 293 = 18))) from by omega))
          have f18 : (0 : Int) ≤ τ 89 293 ∧ τ 89 293 ≤ 999 := hIτ 89 293
          have y19 : σ10 89 295 = τ 89 295 := ((tw_ne1 eσ10 (by omega))).trans (hGσ7 89 295 (show ¬ ((89 = 88 ∧ (295 = 17 ∨ 295 = 18))) from by omega))
          have f20 : (0 : Int) ≤ τ 89 295 ∧ τ 89 295 ≤ 999 := hIτ 89 295
          refine j_callV (pc := 88) (As := []) (st := []) (c_X12_keepDraft hM σ10 hIσ10 (DQ_dr (DQ_F i0 (fun j => ((tw_ne1 eσ10 (by omega))).trans (hGσ7 93 j (show ¬ ((93 = 88 ∧ (j = 17 ∨ j = 18))) from by omega))) (fun j => ((tw_ne1 eσ10 (by omega))).trans (hGσ7 94 j (show ¬ ((94 = 88 ∧ (j = 17 ∨ j = 18))) from by omega))) (by omega)) (by omega)) (by omega) (by omega)) mv_X12_68 rfl rfl rfl (a_88 hM) dX12_text_88 ⟨Nat.le_of_ble_eq_true rfl, Nat.le_of_ble_eq_true rfl⟩ ⟨Nat.le_refl _, Nat.le_refl _⟩ rfl (Nat.le_of_ble_eq_true rfl) rfl (fun z21 σ22 hz21 => ?_)
          obtain ⟨rfl, hIσ22, hGσ22, q23_0⟩ := hz21
          replace q23_0 : mI σ22 := q23_0
          have hFσ22 : tw_F (fun c j => (c = 88 ∧ (j = 9 ∨ j = 10 ∨ j = 12 ∨ j = 13 ∨ j = 14 ∨ j = 15 ∨ j = 16 ∨ j = 17 ∨ j = 18)) ∨ (c = 89 ∧ j < 100) ∨ (90 ≤ c ∧ c < 98)) σ σ22 := tw_F_tr hFσ10 hGσ22 (fun c j q => (show (c = 88 ∧ (j = 9 ∨ j = 10 ∨ j = 12 ∨ j = 13 ∨ j = 14 ∨ j = 15 ∨ j = 16 ∨ j = 17 ∨ j = 18)) ∨ (c = 89 ∧ j < 100) ∨ (90 ≤ c ∧ c < 98) from by replace q : (c = 89 ∧ j < 100) ∨ (90 ≤ c ∧ c < 93) := q; omega))
          refine j_st (st' := []) rfl ?_
          refine j_iload_n (pc := 91) dX12_text_91 rfl rfl ?_
          have y25 : σ22 88 12 = 0 := ((hGσ22 88 12 (show ¬ ((88 = 89 ∧ 12 < 100) ∨ (90 ≤ 88 ∧ 88 < 93)) from by omega))).trans (tw_eq1 eσ10)
          exact j_iret (pc := 92) ⟨rfl, rfl⟩ dX12_text_92 rfl ⟨_, rfl, ⟨by omega, by omega⟩, hIσ22, hFσ22, (by first | exact q23_0 | exact mI_kept i1 (fun j hj => rfl) (fun j => rfl) (rfl) hIτ), by omega⟩
        · refine j_bipush (pc := 79) dX12_text_79 rfl ?_
          refine j_aload_n (pc := 81) dX12_text_81 rfl rfl ?_
          refine j_getI (pc := 82) fl_X12_97 dX12_text_82 (a_88 hM) rfl ?_
          refine j_topV (show σ10 88 18 = σ7 88 18 from (tw_ne1 eσ10 (by omega))) ?_
          have f26 : (-2147483648 : Int) ≤ σ7 88 18 ∧ σ7 88 18 ≤ 2147483647 := hIσ7 88 18
          refine j_isub (pc := 85) dX12_text_85 ?_
          refine j_top (fun z27 ez27 hz27 => ?_)
          have y28 : σ10 88 12 = 0 := (tw_eq1 eσ10)
          exact j_iret (pc := 86) ⟨rfl, rfl⟩ dX12_text_86 rfl ⟨_, rfl, ⟨by omega, by omega⟩, hIσ10, hFσ10, (by first | exact q8_0 | exact mI_kept i1 (fun j hj => ((tw_ne1 eσ10 (by omega))).trans (hGσ7 89 j (show ¬ ((89 = 88 ∧ (j = 17 ∨ j = 18))) from by omega))) (fun j => ((tw_ne1 eσ10 (by omega))).trans (hGσ7 90 j (show ¬ ((90 = 88 ∧ (j = 17 ∨ j = 18))) from by omega))) (((tw_ne1 eσ10 (by omega))).trans (hGσ7 91 0 (show ¬ ((91 = 88 ∧ (0 = 17 ∨ 0 = 18))) from by omega))) hIτ), by omega⟩
      · refine j_iconst (pc := 58) dX12_text_58 ?_
        refine j_goto (pc := 59) (tgt := 63) dX12_text_59 rfl ?_
        refine j_iconst (pc := 63) dX12_text_63 ?_
        refine j_callV (pc := 64) (As := [vI 1, vI 5]) (st := []) (c_X12_needs hM 1 ⟨by omega, by omega⟩ 5 ⟨by omega, by omega⟩ τ hIτ) mv_X12_129 rfl rfl rfl (a_88 hM) dX12_text_64 ⟨Nat.le_of_ble_eq_true rfl, Nat.le_of_ble_eq_true rfl⟩ ⟨Nat.le_refl _, Nat.le_refl _⟩ rfl (Nat.le_of_ble_eq_true rfl) rfl (fun z29 σ30 hz29 => ?_)
        obtain ⟨rfl, hIσ30, hGσ30, q31_0⟩ := hz29
        replace q31_0 : (¬ (1 : Int) = 0 ∧ σ30 88 17 = τ 88 17) ∨ ((1 : Int) = 0 ∧ τ 88 17 = 0 ∧ σ30 88 17 = (5 : Int)) ∨ ((1 : Int) = 0 ∧ ¬ τ 88 17 = 0 ∧ σ30 88 17 = τ 88 17) := q31_0
        have hFσ30 : tw_F (fun c j => (c = 88 ∧ (j = 9 ∨ j = 10 ∨ j = 12 ∨ j = 13 ∨ j = 14 ∨ j = 15 ∨ j = 16 ∨ j = 17 ∨ j = 18)) ∨ (c = 89 ∧ j < 100) ∨ (90 ≤ c ∧ c < 98)) σ σ30 := tw_F_tr hFτ hGσ30 (fun c j q => (show (c = 88 ∧ (j = 9 ∨ j = 10 ∨ j = 12 ∨ j = 13 ∨ j = 14 ∨ j = 15 ∨ j = 16 ∨ j = 17 ∨ j = 18)) ∨ (c = 89 ∧ j < 100) ∨ (90 ≤ c ∧ c < 98) from by replace q : (c = 88 ∧ (j = 17 ∨ j = 18)) := q; omega))
        refine j_st (st' := []) rfl ?_
        refine j_aload_n (pc := 67) dX12_text_67 rfl rfl ?_
        refine j_iconst (pc := 68) dX12_text_68 ?_
        refine j_putI (pc := 69) fl_X12_86 fp_X12_12 dX12_text_69 (a_88 hM) rfl (j_nm (fun σ33 (eσ33 : σ33 = tw_up σ30 88 12 0) => ?_))
        have hIσ33 : tw_I σ33 := tw_I_up hIσ30 eσ33 (show (0 : Int) ≤ 0 ∧ 0 ≤ 400 from ⟨by omega, by omega⟩)
        have hFσ33 : tw_F (fun c j => (c = 88 ∧ (j = 9 ∨ j = 10 ∨ j = 12 ∨ j = 13 ∨ j = 14 ∨ j = 15 ∨ j = 16 ∨ j = 17 ∨ j = 18)) ∨ (c = 89 ∧ j < 100) ∨ (90 ≤ c ∧ c < 98)) σ σ33 := tw_F_up hFσ30 eσ33 (show (88 = 88 ∧ (12 = 9 ∨ 12 = 10 ∨ 12 = 12 ∨ 12 = 13 ∨ 12 = 14 ∨ 12 = 15 ∨ 12 = 16 ∨ 12 = 17 ∨ 12 = 18)) ∨ (88 = 89 ∧ 12 < 100) ∨ (90 ≤ 88 ∧ 88 < 98) from by omega)
        refine j_aload_n (pc := 72) dX12_text_72 rfl rfl ?_
        refine j_getI (pc := 73) fl_X12_91 dX12_text_73 (a_88 hM) rfl ?_
        refine j_topV (show σ33 88 17 = σ30 88 17 from (tw_ne1 eσ33 (by omega))) ?_
        have f34 : (0 : Int) ≤ σ30 88 17 ∧ σ30 88 17 ≤ 5 := hIσ30 88 17
        refine j_ifR_le (pc := 76) (tgt := 87) ⟨by omega, by omega⟩ dX12_text_76 rfl (fun h35 => ?_) (fun h35 => ?_)
        · have z9 : σ33 88 17 = 0 := ((tw_ne1 eσ33 (by omega))).trans (by omega)
          refine j_aload_n (pc := 87) dX12_text_87 rfl rfl ?_
          have y36 : σ33 89 193 = τ 89 193 := ((tw_ne1 eσ33 (by omega))).trans (hGσ30 89 193 (show ¬ ((89 = 88 ∧ (193 = 17 ∨ 193 = 18))) from by omega))
          have f37 : (0 : Int) ≤ τ 89 193 ∧ τ 89 193 ≤ 999 := hIτ 89 193
          have y38 : σ33 89 195 = τ 89 195 := ((tw_ne1 eσ33 (by omega))).trans (hGσ30 89 195 (show ¬ ((89 = 88 ∧ (195 = 17 ∨ 195 = 18))) from by omega))
          have f39 : (0 : Int) ≤ τ 89 195 ∧ τ 89 195 ≤ 999 := hIτ 89 195
          have y40 : σ33 89 293 = τ 89 293 := ((tw_ne1 eσ33 (by omega))).trans (hGσ30 89 293 (show ¬ ((89 = 88 ∧ (293 = 17 ∨ 293 = 18))) from by omega))
          have f41 : (0 : Int) ≤ τ 89 293 ∧ τ 89 293 ≤ 999 := hIτ 89 293
          have y42 : σ33 89 295 = τ 89 295 := ((tw_ne1 eσ33 (by omega))).trans (hGσ30 89 295 (show ¬ ((89 = 88 ∧ (295 = 17 ∨ 295 = 18))) from by omega))
          have f43 : (0 : Int) ≤ τ 89 295 ∧ τ 89 295 ≤ 999 := hIτ 89 295
          refine j_callV (pc := 88) (As := []) (st := []) (c_X12_keepDraft hM σ33 hIσ33 (DQ_dr (DQ_F i0 (fun j => ((tw_ne1 eσ33 (by omega))).trans (hGσ30 93 j (show ¬ ((93 = 88 ∧ (j = 17 ∨ j = 18))) from by omega))) (fun j => ((tw_ne1 eσ33 (by omega))).trans (hGσ30 94 j (show ¬ ((94 = 88 ∧ (j = 17 ∨ j = 18))) from by omega))) (by omega)) (by omega)) (by omega) (by omega)) mv_X12_68 rfl rfl rfl (a_88 hM) dX12_text_88 ⟨Nat.le_of_ble_eq_true rfl, Nat.le_of_ble_eq_true rfl⟩ ⟨Nat.le_refl _, Nat.le_refl _⟩ rfl (Nat.le_of_ble_eq_true rfl) rfl (fun z44 σ45 hz44 => ?_)
          obtain ⟨rfl, hIσ45, hGσ45, q46_0⟩ := hz44
          replace q46_0 : mI σ45 := q46_0
          have hFσ45 : tw_F (fun c j => (c = 88 ∧ (j = 9 ∨ j = 10 ∨ j = 12 ∨ j = 13 ∨ j = 14 ∨ j = 15 ∨ j = 16 ∨ j = 17 ∨ j = 18)) ∨ (c = 89 ∧ j < 100) ∨ (90 ≤ c ∧ c < 98)) σ σ45 := tw_F_tr hFσ33 hGσ45 (fun c j q => (show (c = 88 ∧ (j = 9 ∨ j = 10 ∨ j = 12 ∨ j = 13 ∨ j = 14 ∨ j = 15 ∨ j = 16 ∨ j = 17 ∨ j = 18)) ∨ (c = 89 ∧ j < 100) ∨ (90 ≤ c ∧ c < 98) from by replace q : (c = 89 ∧ j < 100) ∨ (90 ≤ c ∧ c < 93) := q; omega))
          refine j_st (st' := []) rfl ?_
          refine j_iload_n (pc := 91) dX12_text_91 rfl rfl ?_
          have y48 : σ45 88 12 = 0 := ((hGσ45 88 12 (show ¬ ((88 = 89 ∧ 12 < 100) ∨ (90 ≤ 88 ∧ 88 < 93)) from by omega))).trans (tw_eq1 eσ33)
          exact j_iret (pc := 92) ⟨rfl, rfl⟩ dX12_text_92 rfl ⟨_, rfl, ⟨by omega, by omega⟩, hIσ45, hFσ45, (by first | exact q46_0 | exact mI_kept i1 (fun j hj => rfl) (fun j => rfl) (rfl) hIτ), by omega⟩
        · refine j_bipush (pc := 79) dX12_text_79 rfl ?_
          refine j_aload_n (pc := 81) dX12_text_81 rfl rfl ?_
          refine j_getI (pc := 82) fl_X12_97 dX12_text_82 (a_88 hM) rfl ?_
          refine j_topV (show σ33 88 18 = σ30 88 18 from (tw_ne1 eσ33 (by omega))) ?_
          have f49 : (-2147483648 : Int) ≤ σ30 88 18 ∧ σ30 88 18 ≤ 2147483647 := hIσ30 88 18
          refine j_isub (pc := 85) dX12_text_85 ?_
          refine j_top (fun z50 ez50 hz50 => ?_)
          have y51 : σ33 88 12 = 0 := (tw_eq1 eσ33)
          exact j_iret (pc := 86) ⟨rfl, rfl⟩ dX12_text_86 rfl ⟨_, rfl, ⟨by omega, by omega⟩, hIσ33, hFσ33, (by first | exact q31_0 | exact mI_kept i1 (fun j hj => ((tw_ne1 eσ33 (by omega))).trans (hGσ30 89 j (show ¬ ((89 = 88 ∧ (j = 17 ∨ j = 18))) from by omega))) (fun j => ((tw_ne1 eσ33 (by omega))).trans (hGσ30 90 j (show ¬ ((90 = 88 ∧ (j = 17 ∨ j = 18))) from by omega))) (((tw_ne1 eσ33 (by omega))).trans (hGσ30 91 0 (show ¬ ((91 = 88 ∧ (0 = 17 ∨ 0 = 18))) from by omega))) hIτ), by omega⟩
    · refine j_aload_n (pc := 27) dX12_text_27 rfl rfl ?_
      refine j_getI (pc := 28) fl_X12_115 dX12_text_28 (a_88 hM) rfl ?_
      have f52 : (-2147483648 : Int) ≤ τ 88 15 ∧ τ 88 15 ≤ 2147483647 := hIτ 88 15
      refine j_ifR_eq (pc := 31) (tgt := 44) ⟨by omega, by omega⟩ dX12_text_31 rfl (fun h53 => ?_) (fun h53 => ?_)
      · refine j_aload_n (pc := 44) dX12_text_44 rfl rfl ?_
        refine j_aload_n (pc := 45) dX12_text_45 rfl rfl ?_
        refine j_getI (pc := 46) fl_X12_75 dX12_text_46 (a_88 hM) rfl ?_
        have f54 : (0 : Int) ≤ τ 88 10 ∧ τ 88 10 ≤ 40 := hIτ 88 10
        refine j_aload_n (pc := 49) dX12_text_49 rfl rfl ?_
        refine j_getR (pc := 50) (r := 93) fl_X12_23 dX12_text_50 (a_88 hM) rfl ?_
        refine j_iconst (pc := 53) dX12_text_53 ?_
        refine j_iald (pc := 54) dX12_text_54 (a_93 hM) (by omega) (by omega) (by decide) ?_
        refine j_topV (show τ 93 (Int.toNat 0) = τ 93 0 from rfl) ?_
        have f55 : (-2147483648 : Int) ≤ τ 93 0 ∧ τ 93 0 ≤ 2147483647 := hIτ 93 0
        refine j_icmpR_gt (pc := 55) (tgt := 62) ⟨by omega, by omega⟩ ⟨by omega, by omega⟩ dX12_text_55 rfl (fun h56 => ?_) (fun h56 => ?_)
        · refine j_iconst (pc := 62) dX12_text_62 ?_
          refine j_iconst (pc := 63) dX12_text_63 ?_
          refine j_callV (pc := 64) (As := [vI 0, vI 5]) (st := []) (c_X12_needs hM 0 ⟨by omega, by omega⟩ 5 ⟨by omega, by omega⟩ τ hIτ) mv_X12_129 rfl rfl rfl (a_88 hM) dX12_text_64 ⟨Nat.le_of_ble_eq_true rfl, Nat.le_of_ble_eq_true rfl⟩ ⟨Nat.le_refl _, Nat.le_refl _⟩ rfl (Nat.le_of_ble_eq_true rfl) rfl (fun z57 σ58 hz57 => ?_)
          obtain ⟨rfl, hIσ58, hGσ58, q59_0⟩ := hz57
          replace q59_0 : (¬ (0 : Int) = 0 ∧ σ58 88 17 = τ 88 17) ∨ ((0 : Int) = 0 ∧ τ 88 17 = 0 ∧ σ58 88 17 = (5 : Int)) ∨ ((0 : Int) = 0 ∧ ¬ τ 88 17 = 0 ∧ σ58 88 17 = τ 88 17) := q59_0
          have hFσ58 : tw_F (fun c j => (c = 88 ∧ (j = 9 ∨ j = 10 ∨ j = 12 ∨ j = 13 ∨ j = 14 ∨ j = 15 ∨ j = 16 ∨ j = 17 ∨ j = 18)) ∨ (c = 89 ∧ j < 100) ∨ (90 ≤ c ∧ c < 98)) σ σ58 := tw_F_tr hFτ hGσ58 (fun c j q => (show (c = 88 ∧ (j = 9 ∨ j = 10 ∨ j = 12 ∨ j = 13 ∨ j = 14 ∨ j = 15 ∨ j = 16 ∨ j = 17 ∨ j = 18)) ∨ (c = 89 ∧ j < 100) ∨ (90 ≤ c ∧ c < 98) from by replace q : (c = 88 ∧ (j = 17 ∨ j = 18)) := q; omega))
          refine j_st (st' := []) rfl ?_
          refine j_aload_n (pc := 67) dX12_text_67 rfl rfl ?_
          refine j_iconst (pc := 68) dX12_text_68 ?_
          refine j_putI (pc := 69) fl_X12_86 fp_X12_12 dX12_text_69 (a_88 hM) rfl (j_nm (fun σ61 (eσ61 : σ61 = tw_up σ58 88 12 0) => ?_))
          have hIσ61 : tw_I σ61 := tw_I_up hIσ58 eσ61 (show (0 : Int) ≤ 0 ∧ 0 ≤ 400 from ⟨by omega, by omega⟩)
          have hFσ61 : tw_F (fun c j => (c = 88 ∧ (j = 9 ∨ j = 10 ∨ j = 12 ∨ j = 13 ∨ j = 14 ∨ j = 15 ∨ j = 16 ∨ j = 17 ∨ j = 18)) ∨ (c = 89 ∧ j < 100) ∨ (90 ≤ c ∧ c < 98)) σ σ61 := tw_F_up hFσ58 eσ61 (show (88 = 88 ∧ (12 = 9 ∨ 12 = 10 ∨ 12 = 12 ∨ 12 = 13 ∨ 12 = 14 ∨ 12 = 15 ∨ 12 = 16 ∨ 12 = 17 ∨ 12 = 18)) ∨ (88 = 89 ∧ 12 < 100) ∨ (90 ≤ 88 ∧ 88 < 98) from by omega)
          refine j_aload_n (pc := 72) dX12_text_72 rfl rfl ?_
          refine j_getI (pc := 73) fl_X12_91 dX12_text_73 (a_88 hM) rfl ?_
          refine j_topV (show σ61 88 17 = σ58 88 17 from (tw_ne1 eσ61 (by omega))) ?_
          have f62 : (0 : Int) ≤ σ58 88 17 ∧ σ58 88 17 ≤ 5 := hIσ58 88 17
          refine j_ifR_le (pc := 76) (tgt := 87) ⟨by omega, by omega⟩ dX12_text_76 rfl (fun h63 => ?_) (fun h63 => ?_)
          · have z9 : σ61 88 17 = 0 := ((tw_ne1 eσ61 (by omega))).trans (by omega)
            refine j_aload_n (pc := 87) dX12_text_87 rfl rfl ?_
            have y64 : σ61 89 193 = τ 89 193 := ((tw_ne1 eσ61 (by omega))).trans (hGσ58 89 193 (show ¬ ((89 = 88 ∧ (193 = 17 ∨ 193 = 18))) from by omega))
            have f65 : (0 : Int) ≤ τ 89 193 ∧ τ 89 193 ≤ 999 := hIτ 89 193
            have y66 : σ61 89 195 = τ 89 195 := ((tw_ne1 eσ61 (by omega))).trans (hGσ58 89 195 (show ¬ ((89 = 88 ∧ (195 = 17 ∨ 195 = 18))) from by omega))
            have f67 : (0 : Int) ≤ τ 89 195 ∧ τ 89 195 ≤ 999 := hIτ 89 195
            have y68 : σ61 89 293 = τ 89 293 := ((tw_ne1 eσ61 (by omega))).trans (hGσ58 89 293 (show ¬ ((89 = 88 ∧ (293 = 17 ∨ 293 = 18))) from by omega))
            have f69 : (0 : Int) ≤ τ 89 293 ∧ τ 89 293 ≤ 999 := hIτ 89 293
            have y70 : σ61 89 295 = τ 89 295 := ((tw_ne1 eσ61 (by omega))).trans (hGσ58 89 295 (show ¬ ((89 = 88 ∧ (295 = 17 ∨ 295 = 18))) from by omega))
            have f71 : (0 : Int) ≤ τ 89 295 ∧ τ 89 295 ≤ 999 := hIτ 89 295
            refine j_callV (pc := 88) (As := []) (st := []) (c_X12_keepDraft hM σ61 hIσ61 (DQ_dr (DQ_F i0 (fun j => ((tw_ne1 eσ61 (by omega))).trans (hGσ58 93 j (show ¬ ((93 = 88 ∧ (j = 17 ∨ j = 18))) from by omega))) (fun j => ((tw_ne1 eσ61 (by omega))).trans (hGσ58 94 j (show ¬ ((94 = 88 ∧ (j = 17 ∨ j = 18))) from by omega))) (by omega)) (by omega)) (by omega) (by omega)) mv_X12_68 rfl rfl rfl (a_88 hM) dX12_text_88 ⟨Nat.le_of_ble_eq_true rfl, Nat.le_of_ble_eq_true rfl⟩ ⟨Nat.le_refl _, Nat.le_refl _⟩ rfl (Nat.le_of_ble_eq_true rfl) rfl (fun z72 σ73 hz72 => ?_)
            obtain ⟨rfl, hIσ73, hGσ73, q74_0⟩ := hz72
            replace q74_0 : mI σ73 := q74_0
            have hFσ73 : tw_F (fun c j => (c = 88 ∧ (j = 9 ∨ j = 10 ∨ j = 12 ∨ j = 13 ∨ j = 14 ∨ j = 15 ∨ j = 16 ∨ j = 17 ∨ j = 18)) ∨ (c = 89 ∧ j < 100) ∨ (90 ≤ c ∧ c < 98)) σ σ73 := tw_F_tr hFσ61 hGσ73 (fun c j q => (show (c = 88 ∧ (j = 9 ∨ j = 10 ∨ j = 12 ∨ j = 13 ∨ j = 14 ∨ j = 15 ∨ j = 16 ∨ j = 17 ∨ j = 18)) ∨ (c = 89 ∧ j < 100) ∨ (90 ≤ c ∧ c < 98) from by replace q : (c = 89 ∧ j < 100) ∨ (90 ≤ c ∧ c < 93) := q; omega))
            refine j_st (st' := []) rfl ?_
            refine j_iload_n (pc := 91) dX12_text_91 rfl rfl ?_
            have y76 : σ73 88 12 = 0 := ((hGσ73 88 12 (show ¬ ((88 = 89 ∧ 12 < 100) ∨ (90 ≤ 88 ∧ 88 < 93)) from by omega))).trans (tw_eq1 eσ61)
            exact j_iret (pc := 92) ⟨rfl, rfl⟩ dX12_text_92 rfl ⟨_, rfl, ⟨by omega, by omega⟩, hIσ73, hFσ73, (by first | exact q74_0 | exact mI_kept i1 (fun j hj => rfl) (fun j => rfl) (rfl) hIτ), by omega⟩
          · refine j_bipush (pc := 79) dX12_text_79 rfl ?_
            refine j_aload_n (pc := 81) dX12_text_81 rfl rfl ?_
            refine j_getI (pc := 82) fl_X12_97 dX12_text_82 (a_88 hM) rfl ?_
            refine j_topV (show σ61 88 18 = σ58 88 18 from (tw_ne1 eσ61 (by omega))) ?_
            have f77 : (-2147483648 : Int) ≤ σ58 88 18 ∧ σ58 88 18 ≤ 2147483647 := hIσ58 88 18
            refine j_isub (pc := 85) dX12_text_85 ?_
            refine j_top (fun z78 ez78 hz78 => ?_)
            have y79 : σ61 88 12 = 0 := (tw_eq1 eσ61)
            exact j_iret (pc := 86) ⟨rfl, rfl⟩ dX12_text_86 rfl ⟨_, rfl, ⟨by omega, by omega⟩, hIσ61, hFσ61, (by first | exact q59_0 | exact mI_kept i1 (fun j hj => ((tw_ne1 eσ61 (by omega))).trans (hGσ58 89 j (show ¬ ((89 = 88 ∧ (j = 17 ∨ j = 18))) from by omega))) (fun j => ((tw_ne1 eσ61 (by omega))).trans (hGσ58 90 j (show ¬ ((90 = 88 ∧ (j = 17 ∨ j = 18))) from by omega))) (((tw_ne1 eσ61 (by omega))).trans (hGσ58 91 0 (show ¬ ((91 = 88 ∧ (0 = 17 ∨ 0 = 18))) from by omega))) hIτ), by omega⟩
        · refine j_iconst (pc := 58) dX12_text_58 ?_
          refine j_goto (pc := 59) (tgt := 63) dX12_text_59 rfl ?_
          refine j_iconst (pc := 63) dX12_text_63 ?_
          refine j_callV (pc := 64) (As := [vI 1, vI 5]) (st := []) (c_X12_needs hM 1 ⟨by omega, by omega⟩ 5 ⟨by omega, by omega⟩ τ hIτ) mv_X12_129 rfl rfl rfl (a_88 hM) dX12_text_64 ⟨Nat.le_of_ble_eq_true rfl, Nat.le_of_ble_eq_true rfl⟩ ⟨Nat.le_refl _, Nat.le_refl _⟩ rfl (Nat.le_of_ble_eq_true rfl) rfl (fun z80 σ81 hz80 => ?_)
          obtain ⟨rfl, hIσ81, hGσ81, q82_0⟩ := hz80
          replace q82_0 : (¬ (1 : Int) = 0 ∧ σ81 88 17 = τ 88 17) ∨ ((1 : Int) = 0 ∧ τ 88 17 = 0 ∧ σ81 88 17 = (5 : Int)) ∨ ((1 : Int) = 0 ∧ ¬ τ 88 17 = 0 ∧ σ81 88 17 = τ 88 17) := q82_0
          have hFσ81 : tw_F (fun c j => (c = 88 ∧ (j = 9 ∨ j = 10 ∨ j = 12 ∨ j = 13 ∨ j = 14 ∨ j = 15 ∨ j = 16 ∨ j = 17 ∨ j = 18)) ∨ (c = 89 ∧ j < 100) ∨ (90 ≤ c ∧ c < 98)) σ σ81 := tw_F_tr hFτ hGσ81 (fun c j q => (show (c = 88 ∧ (j = 9 ∨ j = 10 ∨ j = 12 ∨ j = 13 ∨ j = 14 ∨ j = 15 ∨ j = 16 ∨ j = 17 ∨ j = 18)) ∨ (c = 89 ∧ j < 100) ∨ (90 ≤ c ∧ c < 98) from by replace q : (c = 88 ∧ (j = 17 ∨ j = 18)) := q; omega))
          refine j_st (st' := []) rfl ?_
          refine j_aload_n (pc := 67) dX12_text_67 rfl rfl ?_
          refine j_iconst (pc := 68) dX12_text_68 ?_
          refine j_putI (pc := 69) fl_X12_86 fp_X12_12 dX12_text_69 (a_88 hM) rfl (j_nm (fun σ84 (eσ84 : σ84 = tw_up σ81 88 12 0) => ?_))
          have hIσ84 : tw_I σ84 := tw_I_up hIσ81 eσ84 (show (0 : Int) ≤ 0 ∧ 0 ≤ 400 from ⟨by omega, by omega⟩)
          have hFσ84 : tw_F (fun c j => (c = 88 ∧ (j = 9 ∨ j = 10 ∨ j = 12 ∨ j = 13 ∨ j = 14 ∨ j = 15 ∨ j = 16 ∨ j = 17 ∨ j = 18)) ∨ (c = 89 ∧ j < 100) ∨ (90 ≤ c ∧ c < 98)) σ σ84 := tw_F_up hFσ81 eσ84 (show (88 = 88 ∧ (12 = 9 ∨ 12 = 10 ∨ 12 = 12 ∨ 12 = 13 ∨ 12 = 14 ∨ 12 = 15 ∨ 12 = 16 ∨ 12 = 17 ∨ 12 = 18)) ∨ (88 = 89 ∧ 12 < 100) ∨ (90 ≤ 88 ∧ 88 < 98) from by omega)
          refine j_aload_n (pc := 72) dX12_text_72 rfl rfl ?_
          refine j_getI (pc := 73) fl_X12_91 dX12_text_73 (a_88 hM) rfl ?_
          refine j_topV (show σ84 88 17 = σ81 88 17 from (tw_ne1 eσ84 (by omega))) ?_
          have f85 : (0 : Int) ≤ σ81 88 17 ∧ σ81 88 17 ≤ 5 := hIσ81 88 17
          refine j_ifR_le (pc := 76) (tgt := 87) ⟨by omega, by omega⟩ dX12_text_76 rfl (fun h86 => ?_) (fun h86 => ?_)
          · have z9 : σ84 88 17 = 0 := ((tw_ne1 eσ84 (by omega))).trans (by omega)
            refine j_aload_n (pc := 87) dX12_text_87 rfl rfl ?_
            have y87 : σ84 89 193 = τ 89 193 := ((tw_ne1 eσ84 (by omega))).trans (hGσ81 89 193 (show ¬ ((89 = 88 ∧ (193 = 17 ∨ 193 = 18))) from by omega))
            have f88 : (0 : Int) ≤ τ 89 193 ∧ τ 89 193 ≤ 999 := hIτ 89 193
            have y89 : σ84 89 195 = τ 89 195 := ((tw_ne1 eσ84 (by omega))).trans (hGσ81 89 195 (show ¬ ((89 = 88 ∧ (195 = 17 ∨ 195 = 18))) from by omega))
            have f90 : (0 : Int) ≤ τ 89 195 ∧ τ 89 195 ≤ 999 := hIτ 89 195
            have y91 : σ84 89 293 = τ 89 293 := ((tw_ne1 eσ84 (by omega))).trans (hGσ81 89 293 (show ¬ ((89 = 88 ∧ (293 = 17 ∨ 293 = 18))) from by omega))
            have f92 : (0 : Int) ≤ τ 89 293 ∧ τ 89 293 ≤ 999 := hIτ 89 293
            have y93 : σ84 89 295 = τ 89 295 := ((tw_ne1 eσ84 (by omega))).trans (hGσ81 89 295 (show ¬ ((89 = 88 ∧ (295 = 17 ∨ 295 = 18))) from by omega))
            have f94 : (0 : Int) ≤ τ 89 295 ∧ τ 89 295 ≤ 999 := hIτ 89 295
            refine j_callV (pc := 88) (As := []) (st := []) (c_X12_keepDraft hM σ84 hIσ84 (DQ_dr (DQ_F i0 (fun j => ((tw_ne1 eσ84 (by omega))).trans (hGσ81 93 j (show ¬ ((93 = 88 ∧ (j = 17 ∨ j = 18))) from by omega))) (fun j => ((tw_ne1 eσ84 (by omega))).trans (hGσ81 94 j (show ¬ ((94 = 88 ∧ (j = 17 ∨ j = 18))) from by omega))) (by omega)) (by omega)) (by omega) (by omega)) mv_X12_68 rfl rfl rfl (a_88 hM) dX12_text_88 ⟨Nat.le_of_ble_eq_true rfl, Nat.le_of_ble_eq_true rfl⟩ ⟨Nat.le_refl _, Nat.le_refl _⟩ rfl (Nat.le_of_ble_eq_true rfl) rfl (fun z95 σ96 hz95 => ?_)
            obtain ⟨rfl, hIσ96, hGσ96, q97_0⟩ := hz95
            replace q97_0 : mI σ96 := q97_0
            have hFσ96 : tw_F (fun c j => (c = 88 ∧ (j = 9 ∨ j = 10 ∨ j = 12 ∨ j = 13 ∨ j = 14 ∨ j = 15 ∨ j = 16 ∨ j = 17 ∨ j = 18)) ∨ (c = 89 ∧ j < 100) ∨ (90 ≤ c ∧ c < 98)) σ σ96 := tw_F_tr hFσ84 hGσ96 (fun c j q => (show (c = 88 ∧ (j = 9 ∨ j = 10 ∨ j = 12 ∨ j = 13 ∨ j = 14 ∨ j = 15 ∨ j = 16 ∨ j = 17 ∨ j = 18)) ∨ (c = 89 ∧ j < 100) ∨ (90 ≤ c ∧ c < 98) from by replace q : (c = 89 ∧ j < 100) ∨ (90 ≤ c ∧ c < 93) := q; omega))
            refine j_st (st' := []) rfl ?_
            refine j_iload_n (pc := 91) dX12_text_91 rfl rfl ?_
            have y99 : σ96 88 12 = 0 := ((hGσ96 88 12 (show ¬ ((88 = 89 ∧ 12 < 100) ∨ (90 ≤ 88 ∧ 88 < 93)) from by omega))).trans (tw_eq1 eσ84)
            exact j_iret (pc := 92) ⟨rfl, rfl⟩ dX12_text_92 rfl ⟨_, rfl, ⟨by omega, by omega⟩, hIσ96, hFσ96, (by first | exact q97_0 | exact mI_kept i1 (fun j hj => rfl) (fun j => rfl) (rfl) hIτ), by omega⟩
          · refine j_bipush (pc := 79) dX12_text_79 rfl ?_
            refine j_aload_n (pc := 81) dX12_text_81 rfl rfl ?_
            refine j_getI (pc := 82) fl_X12_97 dX12_text_82 (a_88 hM) rfl ?_
            refine j_topV (show σ84 88 18 = σ81 88 18 from (tw_ne1 eσ84 (by omega))) ?_
            have f100 : (-2147483648 : Int) ≤ σ81 88 18 ∧ σ81 88 18 ≤ 2147483647 := hIσ81 88 18
            refine j_isub (pc := 85) dX12_text_85 ?_
            refine j_top (fun z101 ez101 hz101 => ?_)
            have y102 : σ84 88 12 = 0 := (tw_eq1 eσ84)
            exact j_iret (pc := 86) ⟨rfl, rfl⟩ dX12_text_86 rfl ⟨_, rfl, ⟨by omega, by omega⟩, hIσ84, hFσ84, (by first | exact q82_0 | exact mI_kept i1 (fun j hj => ((tw_ne1 eσ84 (by omega))).trans (hGσ81 89 j (show ¬ ((89 = 88 ∧ (j = 17 ∨ j = 18))) from by omega))) (fun j => ((tw_ne1 eσ84 (by omega))).trans (hGσ81 90 j (show ¬ ((90 = 88 ∧ (j = 17 ∨ j = 18))) from by omega))) (((tw_ne1 eσ84 (by omega))).trans (hGσ81 91 0 (show ¬ ((91 = 88 ∧ (0 = 17 ∨ 0 = 18))) from by omega))) hIτ), by omega⟩
      · refine j_aload_n (pc := 34) dX12_text_34 rfl rfl ?_
        refine j_callV (pc := 35) (As := []) (st := []) (c_X12_readLine hM τ hIτ i0) mv_X12_161 rfl rfl rfl (a_88 hM) dX12_text_35 ⟨Nat.le_of_ble_eq_true rfl, Nat.le_of_ble_eq_true rfl⟩ ⟨Nat.le_refl _, Nat.le_refl _⟩ rfl (Nat.le_of_ble_eq_true rfl) rfl (fun z103 σ104 hz103 => ?_)
        obtain ⟨rfl, hIσ104, hGσ104, q105_0, q105_1, q105_2⟩ := hz103
        replace q105_0 : DQ σ104 := q105_0
        replace q105_1 : τ 88 13 ≤ σ104 88 13 := q105_1
        replace q105_2 : ¬ σ104 88 17 = 0 ∨ σ104 88 15 = 0 ∨ τ 88 13 < σ104 88 13 := q105_2
        have hFσ104 : tw_F (fun c j => (c = 88 ∧ (j = 9 ∨ j = 10 ∨ j = 12 ∨ j = 13 ∨ j = 14 ∨ j = 15 ∨ j = 16 ∨ j = 17 ∨ j = 18)) ∨ (c = 89 ∧ j < 100) ∨ (90 ≤ c ∧ c < 98)) σ σ104 := tw_F_tr hFτ hGσ104 (fun c j q => (show (c = 88 ∧ (j = 9 ∨ j = 10 ∨ j = 12 ∨ j = 13 ∨ j = 14 ∨ j = 15 ∨ j = 16 ∨ j = 17 ∨ j = 18)) ∨ (c = 89 ∧ j < 100) ∨ (90 ≤ c ∧ c < 98) from by replace q : (c = 88 ∧ (j = 9 ∨ j = 10 ∨ j = 13 ∨ j = 14 ∨ j = 15 ∨ j = 16 ∨ j = 17 ∨ j = 18)) ∨ (93 ≤ c ∧ c < 98) := q; omega))
        refine j_st (st' := []) rfl ?_
        skip
        skip
        skip
        have y1 : σ104 88 17 = σ104 88 17 := by first | rfl | exact tw_ne1 _ (by omega)
        have y2 : σ104 88 15 = σ104 88 15 := by first | rfl | exact tw_ne1 _ (by omega)
        have y3 : σ104 88 13 = σ104 88 13 := by first | rfl | exact tw_ne1 _ (by omega)
        have y4 : (0 : Int) ≤ σ104 88 13 ∧ σ104 88 13 ≤ 400 := hIσ104 88 13
        have lt9 := mTx_lt (f := τ 88 17) (s := τ 88 15) (p := τ 88 13) (f2 := σ104 88 17) (s2 := σ104 88 15) (p2 := σ104 88 13) (by omega) (by omega) (by omega) (by omega) (by omega)
        refine j_iinc (pc := 38) (i := 1) (n := 1) (ls' := [(0, vR 88), (1, vI (m + 1))]) [1, 0] dX12_text_38 rfl (Nat.le_of_ble_eq_true rfl) rfl rfl ?_
        refine j_goto (pc := 41) (tgt := 20) dX12_text_41 rfl ?_
        refine j_ls (ls' := [(0, vR 88), (1, vI (m + 1))]) [0, 1] rfl ?_
        exact ih (m + 1) ⟨by omega, by omega⟩ σ104 hIσ104 hFσ104 (show DQ σ104 from q105_0) (show mI σ104 from mI_kept i1 (fun j hj => (hGσ104 89 j (show ¬ ((89 = 88 ∧ (j = 9 ∨ j = 10 ∨ j = 13 ∨ j = 14 ∨ j = 15 ∨ j = 16 ∨ j = 17 ∨ j = 18)) ∨ (93 ≤ 89 ∧ 89 < 98)) from by omega))) (fun j => (hGσ104 90 j (show ¬ ((90 = 88 ∧ (j = 9 ∨ j = 10 ∨ j = 13 ∨ j = 14 ∨ j = 15 ∨ j = 16 ∨ j = 17 ∨ j = 18)) ∨ (93 ≤ 90 ∧ 90 < 98)) from by omega))) ((hGσ104 91 0 (show ¬ ((91 = 88 ∧ (0 = 9 ∨ 0 = 10 ∨ 0 = 13 ∨ 0 = 14 ∨ 0 = 15 ∨ 0 = 16 ∨ 0 = 17 ∨ 0 = 18)) ∨ (93 ≤ 91 ∧ 91 < 98)) from by omega))) hIτ) (show (m + 1) ≤ σ104 88 13 ∨ ((¬ σ104 88 17 = 0 ∨ σ104 88 15 = 0) ∧ (m + 1) ≤ σ104 88 13 + 1) from by omega) (show (mTx (σ104 88 17) (σ104 88 15) (σ104 88 13)).toNat < N_ from by omega)
set_option maxHeartbeats 4000000 in
set_option maxRecDepth 100000 in
theorem c_X12_text {G : tw_G} (hM : tw_isM G) (σ : tw_M) (hI : tw_I σ) (hq0 : mI σ) : tw_C G yX12_text cX12_text 2 (some .int) 5 [vR 88] σ (q_X12_text σ) := by
  refine tw_met [(0, vR 88)] (by decide +kernel) rfl (Nat.le_of_ble_eq_true rfl) ?_
  refine j_iconst (pc := 0) dX12_text_0 ?_
  refine j_istore_n (pc := 1) (i := 1) (ls' := [(0, vR 88), (1, vI 0)]) [1, 0] dX12_text_1 rfl (Nat.le_of_ble_eq_true rfl) rfl rfl ?_
  refine j_aload_n (pc := 2) dX12_text_2 rfl rfl ?_
  refine j_iconst (pc := 3) dX12_text_3 ?_
  refine j_putI (pc := 4) fl_X12_91 fp_X12_17 dX12_text_4 (a_88 hM) rfl (j_nm (fun σ107 (eσ107 : σ107 = tw_up σ 88 17 0) => ?_))
  have hIσ107 : tw_I σ107 := tw_I_up hI eσ107 (show (0 : Int) ≤ 0 ∧ 0 ≤ 5 from ⟨by omega, by omega⟩)
  have hFσ107 : tw_F (fun c j => (c = 88 ∧ (j = 9 ∨ j = 10 ∨ j = 12 ∨ j = 13 ∨ j = 14 ∨ j = 15 ∨ j = 16 ∨ j = 17 ∨ j = 18)) ∨ (c = 89 ∧ j < 100) ∨ (90 ≤ c ∧ c < 98)) σ σ107 := tw_F_up (tw_F_rf) eσ107 (show (88 = 88 ∧ (17 = 9 ∨ 17 = 10 ∨ 17 = 12 ∨ 17 = 13 ∨ 17 = 14 ∨ 17 = 15 ∨ 17 = 16 ∨ 17 = 17 ∨ 17 = 18)) ∨ (88 = 89 ∧ 17 < 100) ∨ (90 ≤ 88 ∧ 88 < 98) from by omega)
  refine j_aload_n (pc := 7) dX12_text_7 rfl rfl ?_
  refine j_iconst (pc := 8) dX12_text_8 ?_
  refine j_putI (pc := 9) fl_X12_100 fp_X12_13 dX12_text_9 (a_88 hM) rfl (j_nm (fun σ108 (eσ108 : σ108 = tw_up σ107 88 13 0) => ?_))
  have hIσ108 : tw_I σ108 := tw_I_up hIσ107 eσ108 (show (0 : Int) ≤ 0 ∧ 0 ≤ 400 from ⟨by omega, by omega⟩)
  have hFσ108 : tw_F (fun c j => (c = 88 ∧ (j = 9 ∨ j = 10 ∨ j = 12 ∨ j = 13 ∨ j = 14 ∨ j = 15 ∨ j = 16 ∨ j = 17 ∨ j = 18)) ∨ (c = 89 ∧ j < 100) ∨ (90 ≤ c ∧ c < 98)) σ σ108 := tw_F_up hFσ107 eσ108 (show (88 = 88 ∧ (13 = 9 ∨ 13 = 10 ∨ 13 = 12 ∨ 13 = 13 ∨ 13 = 14 ∨ 13 = 15 ∨ 13 = 16 ∨ 13 = 17 ∨ 13 = 18)) ∨ (88 = 89 ∧ 13 < 100) ∨ (90 ≤ 88 ∧ 88 < 98) from by omega)
  refine j_aload_n (pc := 12) dX12_text_12 rfl rfl ?_
  refine j_callV (pc := 13) (As := []) (st := []) (c_X12_firstDraft hM σ108 hIσ108) mv_X12_65 rfl rfl rfl (a_88 hM) dX12_text_13 ⟨Nat.le_of_ble_eq_true rfl, Nat.le_of_ble_eq_true rfl⟩ ⟨Nat.le_refl _, Nat.le_refl _⟩ rfl (Nat.le_of_ble_eq_true rfl) rfl (fun z109 σ110 hz109 => ?_)
  obtain ⟨rfl, hIσ110, hGσ110, q111_0⟩ := hz109
  replace q111_0 : DR σ110 := q111_0
  have hFσ110 : tw_F (fun c j => (c = 88 ∧ (j = 9 ∨ j = 10 ∨ j = 12 ∨ j = 13 ∨ j = 14 ∨ j = 15 ∨ j = 16 ∨ j = 17 ∨ j = 18)) ∨ (c = 89 ∧ j < 100) ∨ (90 ≤ c ∧ c < 98)) σ σ110 := tw_F_tr hFσ108 hGσ110 (fun c j q => (show (c = 88 ∧ (j = 9 ∨ j = 10 ∨ j = 12 ∨ j = 13 ∨ j = 14 ∨ j = 15 ∨ j = 16 ∨ j = 17 ∨ j = 18)) ∨ (c = 89 ∧ j < 100) ∨ (90 ≤ c ∧ c < 98) from by replace q : (c = 88 ∧ (j = 9 ∨ j = 10)) ∨ (93 ≤ c ∧ c < 98) := q; omega))
  refine j_st (st' := []) rfl ?_
  refine j_aload_n (pc := 16) dX12_text_16 rfl rfl ?_
  refine j_callV (pc := 17) (As := []) (st := []) (c_X12_next hM σ110 hIσ110) mv_X12_137 rfl rfl rfl (a_88 hM) dX12_text_17 ⟨Nat.le_of_ble_eq_true rfl, Nat.le_of_ble_eq_true rfl⟩ ⟨Nat.le_refl _, Nat.le_refl _⟩ rfl (Nat.le_of_ble_eq_true rfl) rfl (fun z113 σ114 hz113 => ?_)
  obtain ⟨rfl, hIσ114, hGσ114, q115_0, q115_1, q115_2⟩ := hz113
  replace q115_0 : ¬ σ114 88 17 = 0 ∨ σ110 88 17 = 0 := q115_0
  have y117 : σ110 88 17 = 0 := (((hGσ110 88 17 (show ¬ ((88 = 88 ∧ (17 = 9 ∨ 17 = 10)) ∨ (93 ≤ 88 ∧ 88 < 98)) from by omega))).trans (tw_ne1 eσ108 (by omega))).trans (tw_eq1 eσ107)
  replace q115_1 : σ110 88 13 ≤ σ114 88 13 := q115_1
  have y118 : σ110 88 13 = 0 := ((hGσ110 88 13 (show ¬ ((88 = 88 ∧ (13 = 9 ∨ 13 = 10)) ∨ (93 ≤ 88 ∧ 88 < 98)) from by omega))).trans (tw_eq1 eσ108)
  replace q115_2 : ¬ σ114 88 17 = 0 ∨ σ114 88 15 = 0 ∨ σ110 88 13 < σ114 88 13 := q115_2
  have y119 : σ110 88 13 = 0 := ((hGσ110 88 13 (show ¬ ((88 = 88 ∧ (13 = 9 ∨ 13 = 10)) ∨ (93 ≤ 88 ∧ 88 < 98)) from by omega))).trans (tw_eq1 eσ108)
  have hFσ114 : tw_F (fun c j => (c = 88 ∧ (j = 9 ∨ j = 10 ∨ j = 12 ∨ j = 13 ∨ j = 14 ∨ j = 15 ∨ j = 16 ∨ j = 17 ∨ j = 18)) ∨ (c = 89 ∧ j < 100) ∨ (90 ≤ c ∧ c < 98)) σ σ114 := tw_F_tr hFσ110 hGσ114 (fun c j q => (show (c = 88 ∧ (j = 9 ∨ j = 10 ∨ j = 12 ∨ j = 13 ∨ j = 14 ∨ j = 15 ∨ j = 16 ∨ j = 17 ∨ j = 18)) ∨ (c = 89 ∧ j < 100) ∨ (90 ≤ c ∧ c < 98) from by replace q : (c = 88 ∧ (j = 13 ∨ j = 14 ∨ j = 15 ∨ j = 16 ∨ j = 17 ∨ j = 18)) := q; omega))
  refine j_st (st' := []) rfl ?_
  refine j_ls (ls' := [(0, vR 88), (1, vI 0)]) [0, 1] rfl ?_
  exact (l_X12_text hM σ hI hq0 (((mTx (σ114 88 17) (σ114 88 15) (σ114 88 13)).toNat) + 1)) 0 ⟨by omega, by omega⟩ σ114 hIσ114 hFσ114 (show DQ σ114 from (Or.inr (DR_F q111_0 (fun j => hGσ114 93 j (show ¬ ((93 = 88 ∧ (j = 13 ∨ j = 14 ∨ j = 15 ∨ j = 16 ∨ j = 17 ∨ j = 18))) from by omega)) (fun j => hGσ114 94 j (show ¬ ((94 = 88 ∧ (j = 13 ∨ j = 14 ∨ j = 15 ∨ j = 16 ∨ j = 17 ∨ j = 18))) from by omega))))) (show mI σ114 from mI_kept hq0 (fun j hj => ((((hGσ114 89 j (show ¬ ((89 = 88 ∧ (j = 13 ∨ j = 14 ∨ j = 15 ∨ j = 16 ∨ j = 17 ∨ j = 18))) from by omega))).trans (hGσ110 89 j (show ¬ ((89 = 88 ∧ (j = 9 ∨ j = 10)) ∨ (93 ≤ 89 ∧ 89 < 98)) from by omega))).trans (tw_ne1 eσ108 (by omega))).trans (tw_ne1 eσ107 (by omega))) (fun j => ((((hGσ114 90 j (show ¬ ((90 = 88 ∧ (j = 13 ∨ j = 14 ∨ j = 15 ∨ j = 16 ∨ j = 17 ∨ j = 18))) from by omega))).trans (hGσ110 90 j (show ¬ ((90 = 88 ∧ (j = 9 ∨ j = 10)) ∨ (93 ≤ 90 ∧ 90 < 98)) from by omega))).trans (tw_ne1 eσ108 (by omega))).trans (tw_ne1 eσ107 (by omega))) (((((hGσ114 91 0 (show ¬ ((91 = 88 ∧ (0 = 13 ∨ 0 = 14 ∨ 0 = 15 ∨ 0 = 16 ∨ 0 = 17 ∨ 0 = 18))) from by omega))).trans (hGσ110 91 0 (show ¬ ((91 = 88 ∧ (0 = 9 ∨ 0 = 10)) ∨ (93 ≤ 91 ∧ 91 < 98)) from by omega))).trans (tw_ne1 eσ108 (by omega))).trans (tw_ne1 eσ107 (by omega))) hI) (show (0 : Int) ≤ σ114 88 13 ∨ ((¬ σ114 88 17 = 0 ∨ σ114 88 15 = 0) ∧ (0 : Int) ≤ σ114 88 13 + 1) from by omega) (Nat.lt_succ_self _)
