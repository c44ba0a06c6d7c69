/-! 37a.model -/
theorem dX12_readLine_0 : decode cX12_readLine 0 = .ok (.aload_n 0, 1) := by decide +kernel
theorem dX12_readLine_1 : decode cX12_readLine 1 = .ok (.getfield 115, 3) := by decide +kernel
theorem dX12_readLine_4 : decode cX12_readLine 4 = .ok (.iconst 1, 1) := by decide +kernel
theorem dX12_readLine_5 : decode cX12_readLine 5 = .ok (.if_icmp .ne 10, 3) := by decide +kernel
theorem dX12_readLine_8 : decode cX12_readLine 8 = .ok (.aload_n 0, 1) := by decide +kernel
theorem dX12_readLine_9 : decode cX12_readLine 9 = .ok (.invokevirtual 144, 3) := by decide +kernel
theorem dX12_readLine_12 : decode cX12_readLine 12 = .ok (.goto 5, 3) := by decide +kernel
theorem dX12_readLine_15 : decode cX12_readLine 15 = .ok (.bipush (-4), 2) := by decide +kernel
theorem dX12_readLine_17 : decode cX12_readLine 17 = .ok (.istore_n 1, 1) := by decide +kernel
theorem dX12_readLine_18 : decode cX12_readLine 18 = .ok (.aload_n 0, 1) := by decide +kernel
theorem dX12_readLine_19 : decode cX12_readLine 19 = .ok (.iload_n 1, 1) := by decide +kernel
theorem dX12_readLine_20 : decode cX12_readLine 20 = .ok (.i2l, 1) := by decide +kernel
theorem dX12_readLine_21 : decode cX12_readLine 21 = .ok (.lconst 0, 1) := by decide +kernel
theorem dX12_readLine_22 : decode cX12_readLine 22 = .ok (.ldc2_w 147, 3) := by decide +kernel
theorem dX12_readLine_25 : decode cX12_readLine 25 = .ok (.invokestatic 82, 3) := by decide +kernel
theorem dX12_readLine_28 : decode cX12_readLine 28 = .ok (.ifCond .ne 15, 3) := by decide +kernel
theorem dX12_readLine_31 : decode cX12_readLine 31 = .ok (.iload_n 1, 1) := by decide +kernel
theorem dX12_readLine_32 : decode cX12_readLine 32 = .ok (.bipush 10, 2) := by decide +kernel
theorem dX12_readLine_34 : decode cX12_readLine 34 = .ok (.if_icmp .eq 9, 3) := by decide +kernel
theorem dX12_readLine_37 : decode cX12_readLine 37 = .ok (.iload_n 1, 1) := by decide +kernel
theorem dX12_readLine_38 : decode cX12_readLine 38 = .ok (.bipush 11, 2) := by decide +kernel
theorem dX12_readLine_40 : decode cX12_readLine 40 = .ok (.if_icmp .ne 7, 3) := by decide +kernel
theorem dX12_readLine_43 : decode cX12_readLine 43 = .ok (.iconst 1, 1) := by decide +kernel
theorem dX12_readLine_44 : decode cX12_readLine 44 = .ok (.goto 4, 3) := by decide +kernel
theorem dX12_readLine_47 : decode cX12_readLine 47 = .ok (.iconst 0, 1) := by decide +kernel
theorem dX12_readLine_48 : decode cX12_readLine 48 = .ok (.iconst 2, 1) := by decide +kernel
theorem dX12_readLine_49 : decode cX12_readLine 49 = .ok (.invokevirtual 129, 3) := by decide +kernel
theorem dX12_readLine_52 : decode cX12_readLine 52 = .ok (.aload_n 0, 1) := by decide +kernel
theorem dX12_readLine_53 : decode cX12_readLine 53 = .ok (.getfield 91, 3) := by decide +kernel
theorem dX12_readLine_56 : decode cX12_readLine 56 = .ok (.ifCond .ne 42, 3) := by decide +kernel
theorem dX12_readLine_59 : decode cX12_readLine 59 = .ok (.iload_n 1, 1) := by decide +kernel
theorem dX12_readLine_60 : decode cX12_readLine 60 = .ok (.bipush 10, 2) := by decide +kernel
theorem dX12_readLine_62 : decode cX12_readLine 62 = .ok (.if_icmp .ge 36, 3) := by decide +kernel
theorem dX12_readLine_65 : decode cX12_readLine 65 = .ok (.aload_n 0, 1) := by decide +kernel
theorem dX12_readLine_66 : decode cX12_readLine 66 = .ok (.aload_n 0, 1) := by decide +kernel
theorem dX12_readLine_67 : decode cX12_readLine 67 = .ok (.getfield 71, 3) := by decide +kernel
theorem dX12_readLine_70 : decode cX12_readLine 70 = .ok (.iload_n 1, 1) := by decide +kernel
theorem dX12_readLine_71 : decode cX12_readLine 71 = .ok (.ishr, 1) := by decide +kernel
theorem dX12_readLine_72 : decode cX12_readLine 72 = .ok (.iconst 1, 1) := by decide +kernel
theorem dX12_readLine_73 : decode cX12_readLine 73 = .ok (.iand, 1) := by decide +kernel
theorem dX12_readLine_74 : decode cX12_readLine 74 = .ok (.ifCond .ne 7, 3) := by decide +kernel
theorem dX12_readLine_77 : decode cX12_readLine 77 = .ok (.iconst 1, 1) := by decide +kernel
theorem dX12_readLine_78 : decode cX12_readLine 78 = .ok (.goto 4, 3) := by decide +kernel
theorem dX12_readLine_81 : decode cX12_readLine 81 = .ok (.iconst 0, 1) := by decide +kernel
theorem dX12_readLine_82 : decode cX12_readLine 82 = .ok (.iconst 4, 1) := by decide +kernel
theorem dX12_readLine_83 : decode cX12_readLine 83 = .ok (.invokevirtual 129, 3) := by decide +kernel
theorem dX12_readLine_86 : decode cX12_readLine 86 = .ok (.aload_n 0, 1) := by decide +kernel
theorem dX12_readLine_87 : decode cX12_readLine 87 = .ok (.dup, 1) := by decide +kernel
theorem dX12_readLine_88 : decode cX12_readLine 88 = .ok (.getfield 71, 3) := by decide +kernel
theorem dX12_readLine_91 : decode cX12_readLine 91 = .ok (.iconst 1, 1) := by decide +kernel
theorem dX12_readLine_92 : decode cX12_readLine 92 = .ok (.iload_n 1, 1) := by decide +kernel
theorem dX12_readLine_93 : decode cX12_readLine 93 = .ok (.ishl, 1) := by decide +kernel
theorem dX12_readLine_94 : decode cX12_readLine 94 = .ok (.ior, 1) := by decide +kernel
theorem dX12_readLine_95 : decode cX12_readLine 95 = .ok (.putfield 71, 3) := by decide +kernel
theorem dX12_readLine_98 : decode cX12_readLine 98 = .ok (.aload_n 0, 1) := by decide +kernel
theorem dX12_readLine_99 : decode cX12_readLine 99 = .ok (.invokevirtual 137, 3) := by decide +kernel
theorem dX12_readLine_102 : decode cX12_readLine 102 = .ok (.aload_n 0, 1) := by decide +kernel
theorem dX12_readLine_103 : decode cX12_readLine 103 = .ok (.getfield 91, 3) := by decide +kernel
theorem dX12_readLine_106 : decode cX12_readLine 106 = .ok (.ifCond .le 4, 3) := by decide +kernel
theorem dX12_readLine_109 : decode cX12_readLine 109 = .ok (.return_, 1) := by decide +kernel
theorem dX12_readLine_110 : decode cX12_readLine 110 = .ok (.iload_n 1, 1) := by decide +kernel
theorem dX12_readLine_111 : decode cX12_readLine 111 = .ok (.bipush 10, 2) := by decide +kernel
theorem dX12_readLine_113 : decode cX12_readLine 113 = .ok (.if_icmp .ne 10, 3) := by decide +kernel
theorem dX12_readLine_116 : decode cX12_readLine 116 = .ok (.aload_n 0, 1) := by decide +kernel
theorem dX12_readLine_117 : decode cX12_readLine 117 = .ok (.invokevirtual 149, 3) := by decide +kernel
theorem dX12_readLine_120 : decode cX12_readLine 120 = .ok (.goto 55, 3) := by decide +kernel
theorem dX12_readLine_123 : decode cX12_readLine 123 = .ok (.iload_n 1, 1) := by decide +kernel
theorem dX12_readLine_124 : decode cX12_readLine 124 = .ok (.bipush 11, 2) := by decide +kernel
theorem dX12_readLine_126 : decode cX12_readLine 126 = .ok (.if_icmp .ne 10, 3) := by decide +kernel
theorem dX12_readLine_129 : decode cX12_readLine 129 = .ok (.aload_n 0, 1) := by decide +kernel
theorem dX12_readLine_130 : decode cX12_readLine 130 = .ok (.invokevirtual 152, 3) := by decide +kernel
theorem dX12_readLine_133 : decode cX12_readLine 133 = .ok (.goto 42, 3) := by decide +kernel
theorem dX12_readLine_136 : decode cX12_readLine 136 = .ok (.aload_n 0, 1) := by decide +kernel
theorem dX12_readLine_137 : decode cX12_readLine 137 = .ok (.getfield 23, 3) := by decide +kernel
theorem dX12_readLine_140 : decode cX12_readLine 140 = .ok (.iload_n 1, 1) := by decide +kernel
theorem dX12_readLine_141 : decode cX12_readLine 141 = .ok (.aload_n 0, 1) := by decide +kernel
theorem dX12_readLine_142 : decode cX12_readLine 142 = .ok (.aload_n 0, 1) := by decide +kernel
theorem dX12_readLine_143 : decode cX12_readLine 143 = .ok (.iload_n 1, 1) := by decide +kernel
theorem dX12_readLine_144 : decode cX12_readLine 144 = .ok (.invokevirtual 155, 3) := by decide +kernel
theorem dX12_readLine_147 : decode cX12_readLine 147 = .ok (.aload_n 0, 1) := by decide +kernel
theorem dX12_readLine_148 : decode cX12_readLine 148 = .ok (.iload_n 1, 1) := by decide +kernel
theorem dX12_readLine_149 : decode cX12_readLine 149 = .ok (.invokevirtual 158, 3) := by decide +kernel
theorem dX12_readLine_152 : decode cX12_readLine 152 = .ok (.invokevirtual 140, 3) := by decide +kernel
theorem dX12_readLine_155 : decode cX12_readLine 155 = .ok (.iastore, 1) := by decide +kernel
theorem dX12_readLine_156 : decode cX12_readLine 156 = .ok (.iload_n 1, 1) := by decide +kernel
theorem dX12_readLine_157 : decode cX12_readLine 157 = .ok (.iconst 5, 1) := by decide +kernel
theorem dX12_readLine_158 : decode cX12_readLine 158 = .ok (.if_icmp .ne 17, 3) := by decide +kernel
theorem dX12_readLine_161 : decode cX12_readLine 161 = .ok (.aload_n 0, 1) := by decide +kernel
theorem dX12_readLine_162 : decode cX12_readLine 162 = .ok (.getfield 23, 3) := by decide +kernel
theorem dX12_readLine_165 : decode cX12_readLine 165 = .ok (.bipush 6, 2) := by decide +kernel
theorem dX12_readLine_167 : decode cX12_readLine 167 = .ok (.aload_n 0, 1) := by decide +kernel
theorem dX12_readLine_168 : decode cX12_readLine 168 = .ok (.iconst 0, 1) := by decide +kernel
theorem dX12_readLine_169 : decode cX12_readLine 169 = .ok (.bipush 20, 2) := by decide +kernel
theorem dX12_readLine_171 : decode cX12_readLine 171 = .ok (.invokevirtual 140, 3) := by decide +kernel
theorem dX12_readLine_174 : decode cX12_readLine 174 = .ok (.iastore, 1) := by decide +kernel
theorem dX12_readLine_175 : decode cX12_readLine 175 = .ok (.aload_n 0, 1) := by decide +kernel
theorem dX12_readLine_176 : decode cX12_readLine 176 = .ok (.getfield 91, 3) := by decide +kernel
theorem dX12_readLine_179 : decode cX12_readLine 179 = .ok (.ifCond .ne 21, 3) := by decide +kernel
theorem dX12_readLine_182 : decode cX12_readLine 182 = .ok (.aload_n 0, 1) := by decide +kernel
theorem dX12_readLine_183 : decode cX12_readLine 183 = .ok (.aload_n 0, 1) := by decide +kernel
theorem dX12_readLine_184 : decode cX12_readLine 184 = .ok (.getfield 115, 3) := by decide +kernel
theorem dX12_readLine_187 : decode cX12_readLine 187 = .ok (.iconst 3, 1) := by decide +kernel
theorem dX12_readLine_188 : decode cX12_readLine 188 = .ok (.if_icmp .ne 7, 3) := by decide +kernel
theorem dX12_readLine_191 : decode cX12_readLine 191 = .ok (.iconst 1, 1) := by decide +kernel
theorem dX12_readLine_192 : decode cX12_readLine 192 = .ok (.goto 4, 3) := by decide +kernel
theorem dX12_readLine_195 : decode cX12_readLine 195 = .ok (.iconst 0, 1) := by decide +kernel
theorem dX12_readLine_196 : decode cX12_readLine 196 = .ok (.iconst 2, 1) := by decide +kernel
theorem dX12_readLine_197 : decode cX12_readLine 197 = .ok (.invokevirtual 129, 3) := by decide +kernel
theorem dX12_readLine_200 : decode cX12_readLine 200 = .ok (.aload_n 0, 1) := by decide +kernel
theorem dX12_readLine_201 : decode cX12_readLine 201 = .ok (.invokevirtual 137, 3) := by decide +kernel
theorem dX12_readLine_204 : decode cX12_readLine 204 = .ok (.return_, 1) := by decide +kernel
theorem w91q {k lo hi v : Int} (hk : 0 ≤ k ∧ k ≤ 8) (h6 : ¬ k = 6) (h1 : ((k = 0 ∨ k = 1 ∨ k = 3) ∧ lo = 1) ∨ (¬ (k = 0 ∨ k = 1 ∨ k = 3) ∧ lo = 0)) (h2 : (k = 0 ∧ hi = 40) ∨ (k = 1 ∧ hi = 999) ∨ (k = 2 ∧ hi = 99) ∨ (k = 3 ∧ hi = 60) ∨ (k = 7 ∧ hi = 60) ∨ (k = 4 ∧ hi = 50) ∨ (k = 5 ∧ hi = 20) ∨ ((k < 0 ∨ k = 6 ∨ 7 < k) ∧ hi = 9)) (hv : lo ≤ v ∧ v ≤ hi) : (tw_b 91 k.toNat).1 ≤ v ∧ v ≤ (tw_b 91 k.toNat).2 := by
  rcases (show k = 0 ∨ k = 1 ∨ k = 2 ∨ k = 3 ∨ k = 4 ∨ k = 5 ∨ k = 7 ∨ k = 8 by omega) with e | e | e | e | e | e | e | e <;> subst e <;> exact w91 ⟨by omega, by omega⟩ (by omega)
abbrev q_X12_readLine  (σ : tw_M) : Option tw_V → tw_M → Prop := fun z τ => z = none ∧ tw_I τ ∧ tw_F (fun c j => (c = 88 ∧ (j = 9 ∨ j = 10 ∨ j = 13 ∨ j = 14 ∨ j = 15 ∨ j = 16 ∨ j = 17 ∨ j = 18)) ∨ (93 ≤ c ∧ c < 98)) σ τ ∧ (DQ τ) ∧ (σ 88 13 ≤ τ 88 13) ∧ (¬ τ 88 17 = 0 ∨ τ 88 15 = 0 ∨ σ 88 13 < τ 88 13) ∧ (aM τ = lineM (fM σ) (aM σ))
set_option maxHeartbeats 4000000 in
set_option maxRecDepth 100000 in
theorem l_X12_readLine {G : tw_G} (hM : tw_isM G) (σ : tw_M) (hI : tw_I σ) (hq0 : DQ σ) (hq1 : σ 88 17 = 0) (hq2 : FB (fM σ)) : ∀ N_ : Nat, (∀ (k : Int) (hk : -4 ≤ k ∧ k ≤ 23) (τ : tw_M) (hIτ : tw_I τ) (hFτ : tw_F (fun c j => (c = 88 ∧ (j = 9 ∨ j = 10 ∨ j = 13 ∨ j = 14 ∨ j = 15 ∨ j = 16 ∨ j = 17 ∨ j = 18)) ∨ (93 ≤ c ∧ c < 98)) σ τ) (i0 : DQ τ) (i1 : ¬ τ 88 17 = 0 ∨ (0 ≤ k ∧ k ≤ 8) ∨ k = 10 ∨ k = 11) (i2 : σ 88 13 ≤ τ 88 13) (i3 : (mLS σ = -1 ∧ ¬ τ 88 17 = 0) ∨ (mLS σ = k ∧ 0 ≤ k ∧ k ≤ 8 ∧ ¬ k = 6) ∨ (mLS σ = 9 ∧ k = 10) ∨ (mLS σ = 10 ∧ k = 11)) (i4 : aM τ = lS1 σ) (hm : 4 < N_), tw_J G (tw_mt RX12 cX12_readLine 2 none 4) (tw_E G (q_X12_readLine σ)) 52 [(0, vR 88), (1, vI k)] [] τ) ∧ (∀ (k : Int) (hk : -4 ≤ k ∧ k ≤ 23) (τ : tw_M) (hIτ : tw_I τ) (hFτ : tw_F (fun c j => (c = 88 ∧ (j = 9 ∨ j = 10 ∨ j = 13 ∨ j = 14 ∨ j = 15 ∨ j = 16 ∨ j = 17 ∨ j = 18)) ∨ (93 ≤ c ∧ c < 98)) σ τ) (i0 : DQ τ) (i1 : ¬ τ 88 17 = 0 ∨ (0 ≤ k ∧ k ≤ 8) ∨ k = 10 ∨ k = 11) (i2 : σ 88 13 ≤ τ 88 13) (i3 : (mLS σ = -1 ∧ ¬ τ 88 17 = 0) ∨ (mLS σ = k ∧ 0 ≤ k ∧ k ≤ 8 ∧ ¬ k = 6) ∨ (mLS σ = 9 ∧ k = 10) ∨ (mLS σ = 10 ∧ k = 11)) (i4 : aM τ = lS2 σ) (hm : 3 < N_), tw_J G (tw_mt RX12 cX12_readLine 2 none 4) (tw_E G (q_X12_readLine σ)) 98 [(0, vR 88), (1, vI k)] [] τ) ∧ (∀  (τ : tw_M) (hIτ : tw_I τ) (hFτ : tw_F (fun c j => (c = 88 ∧ (j = 9 ∨ j = 10 ∨ j = 13 ∨ j = 14 ∨ j = 15 ∨ j = 16 ∨ j = 17 ∨ j = 18)) ∨ (93 ≤ c ∧ c < 98)) σ τ) (i0 : DQ τ) (i1 : σ 88 13 ≤ τ 88 13) (i2 : aM τ = lS4 σ) (i3 : (lS3 σ) 4 = 0) (hm : 2 < N_), tw_J G (tw_mt RX12 cX12_readLine 2 none 4) (tw_E G (q_X12_readLine σ)) 175 [(0, vR 88)] [] τ) := by
  intro N_
  induction N_ with
  | zero => exact ⟨fun k hk τ hIτ hFτ i0 i1 i2 i3 i4 hm => absurd hm (Nat.not_lt_zero _), fun k hk τ hIτ hFτ i0 i1 i2 i3 i4 hm => absurd hm (Nat.not_lt_zero _), fun τ hIτ hFτ i0 i1 i2 i3 hm => absurd hm (Nat.not_lt_zero _)⟩
  | succ N_ ih =>
    refine ⟨?_, ?_, ?_⟩
    · intro k hk τ hIτ hFτ i0 i1 i2 i3 i4 hm
      refine j_aload_n (pc := 52) dX12_readLine_52 rfl rfl ?_
      refine j_getI (pc := 53) fl_X12_91 dX12_readLine_53 (a_88 hM) rfl ?_
      have f1 : (0 : Int) ≤ τ 88 17 ∧ τ 88 17 ≤ 5 := hIτ 88 17
      refine j_ifR_ne (pc := 56) (tgt := 98) ⟨by omega, by omega⟩ dX12_readLine_56 rfl (fun h2 => ?_) (fun h2 => ?_)
      · refine j_ls (ls' := [(0, vR 88), (1, vI k)]) [0, 1] rfl ?_
        exact ih.2.1 k ⟨by omega, by omega⟩ τ hIτ hFτ (show DQ τ from DQ_F i0 (fun j => rfl) (fun j => rfl) (by omega)) (show ¬ τ 88 17 = 0 ∨ (0 ≤ k ∧ k ≤ 8) ∨ k = 10 ∨ k = 11 from (by first | exact i1 | (skip; clear i3; omega))) (show σ 88 13 ≤ τ 88 13 from (by skip; omega)) (show (mLS σ = -1 ∧ ¬ τ 88 17 = 0) ∨ (mLS σ = k ∧ 0 ≤ k ∧ k ≤ 8 ∧ ¬ k = 6) ∨ (mLS σ = 9 ∧ k = 10) ∨ (mLS σ = 10 ∧ k = 11) from (by first | exact i3 | (skip; clear i1; omega))) (show aM τ = lS2 σ from (by first | exact lS2_lt i4 kq.1 (by omega) c2 ((aM_wr (i := 6) _ (by omega)).trans (wr_cg (fun h4 => mbit_w (σ := τ) (by omega) s2))) | exact lS2_dead i4 (by omega) | exact lS2_ge i4 (by omega))) (show 3 < N_ from by omega)
      · refine j_iload_n (pc := 59) dX12_readLine_59 rfl rfl ?_
        refine j_bipush (pc := 60) dX12_readLine_60 rfl ?_
        refine j_icmpR_ge (pc := 62) (tgt := 98) ⟨by omega, by omega⟩ ⟨by omega, by omega⟩ dX12_readLine_62 rfl (fun h3 => ?_) (fun h3 => ?_)
        · refine j_ls (ls' := [(0, vR 88), (1, vI k)]) [0, 1] rfl ?_
          exact ih.2.1 k ⟨by omega, by omega⟩ τ hIτ hFτ (show DQ τ from DQ_F i0 (fun j => rfl) (fun j => rfl) (by omega)) (show ¬ τ 88 17 = 0 ∨ (0 ≤ k ∧ k ≤ 8) ∨ k = 10 ∨ k = 11 from (by first | exact i1 | (skip; clear i3; omega))) (show σ 88 13 ≤ τ 88 13 from (by skip; omega)) (show (mLS σ = -1 ∧ ¬ τ 88 17 = 0) ∨ (mLS σ = k ∧ 0 ≤ k ∧ k ≤ 8 ∧ ¬ k = 6) ∨ (mLS σ = 9 ∧ k = 10) ∨ (mLS σ = 10 ∧ k = 11) from (by first | exact i3 | (skip; clear i1; omega))) (show aM τ = lS2 σ from (by first | exact lS2_lt i4 kq.1 (by omega) c2 ((aM_wr (i := 6) _ (by omega)).trans (wr_cg (fun h4 => mbit_w (σ := τ) (by omega) s2))) | exact lS2_dead i4 (by omega) | exact lS2_ge i4 (by omega))) (show 3 < N_ from by omega)
        · have kq : mLS σ = k ∧ 0 ≤ k ∧ k ≤ 8 ∧ ¬ k = 6 := by clear i1; omega
          refine j_aload_n (pc := 65) dX12_readLine_65 rfl rfl ?_
          refine j_aload_n (pc := 66) dX12_readLine_66 rfl rfl ?_
          refine j_getI (pc := 67) fl_X12_71 dX12_readLine_67 (a_88 hM) rfl ?_
          have f4 : (-2147483648 : Int) ≤ τ 88 9 ∧ τ 88 9 ≤ 2147483647 := hIτ 88 9
          refine j_iload_n (pc := 70) dX12_readLine_70 rfl rfl ?_
          refine j_ishr (pc := 71) dX12_readLine_71 (fun z5 ez5 => ?_)
          have hz5 : (-2147483648 : Int) ≤ z5 ∧ z5 ≤ 2147483647 := by rw [ez5]; exact shr_in _ _
          have b1 := ez5
          refine j_iconst (pc := 72) dX12_readLine_72 ?_
          refine j_iand (pc := 73) dX12_readLine_73 (fun z6 ez6 => ?_)
          have hz6 : (-2147483648 : Int) ≤ z6 ∧ z6 ≤ 2147483647 := by rw [ez6]; exact and_in _ _
          have b2 := ez6; rw [b1] at b2
          refine j_ifR_ne (pc := 74) (tgt := 81) ⟨by omega, by omega⟩ dX12_readLine_74 rfl (fun h7 => ?_) (fun h7 => ?_)
          · refine j_iconst (pc := 81) dX12_readLine_81 ?_
            refine j_iconst (pc := 82) dX12_readLine_82 ?_
            refine j_callV (pc := 83) (As := [vI 0, vI 4]) (st := []) (c_X12_needs hM 0 (by (first | decide | exact ⟨by omega, by omega⟩)) 4 (by (first | decide | exact ⟨by omega, by omega⟩)) τ hIτ) mv_X12_129 rfl rfl rfl (a_88 hM) dX12_readLine_83 ⟨Nat.le_of_ble_eq_true rfl, Nat.le_of_ble_eq_true rfl⟩ ⟨Nat.le_refl _, Nat.le_refl _⟩ rfl (Nat.le_of_ble_eq_true rfl) rfl (fun z8 σ9 hz8 => ?_)
            obtain ⟨rfl, hIσ9, hGσ9, q10_0, q10_1, q10_2⟩ := hz8
            replace q10_0 : (¬ (0 : Int) = 0 ∧ σ9 88 17 = τ 88 17) ∨ ((0 : Int) = 0 ∧ τ 88 17 = 0 ∧ σ9 88 17 = (4 : Int)) ∨ ((0 : Int) = 0 ∧ ¬ τ 88 17 = 0 ∧ σ9 88 17 = τ 88 17) := q10_0
            replace q10_1 : (¬ (0 : Int) = 0 ∧ σ9 88 17 = τ 88 17 ∧ σ9 88 18 = τ 88 18) ∨ ((0 : Int) = 0 ∧ τ 88 17 = 0 ∧ σ9 88 17 = (4 : Int) ∧ σ9 88 18 = τ 88 14) ∨ ((0 : Int) = 0 ∧ ¬ τ 88 17 = 0 ∧ σ9 88 17 = τ 88 17 ∧ σ9 88 18 = τ 88 18) := q10_1
            replace q10_2 : aM σ9 = need (decide (¬ (0 : Int) = 0)) (4 : Int) (aM τ) := q10_2
            have hFσ9 : tw_F (fun c j => (c = 88 ∧ (j = 9 ∨ j = 10 ∨ j = 13 ∨ j = 14 ∨ j = 15 ∨ j = 16 ∨ j = 17 ∨ j = 18)) ∨ (93 ≤ c ∧ c < 98)) σ σ9 := tw_F_tr hFτ hGσ9 (fun c j q => (show (c = 88 ∧ (j = 9 ∨ j = 10 ∨ j = 13 ∨ j = 14 ∨ j = 15 ∨ j = 16 ∨ j = 17 ∨ j = 18)) ∨ (93 ≤ c ∧ c < 98) from by replace q : (c = 88 ∧ (j = 17 ∨ j = 18)) := q; exact (Or.inl ⟨q.1, (q.2.elim (fun z => (Or.inr (Or.inr (Or.inr (Or.inr (Or.inr (Or.inr (Or.inl z)))))))) (fun z => (Or.inr (Or.inr (Or.inr (Or.inr (Or.inr (Or.inr (Or.inr z)))))))))⟩)))
            refine j_st (st' := []) rfl ?_
            have c2 : aM σ9 = need (decide (tw_and (tw_shr ((aM τ) 6) k) 1 = 0)) 4 (aM τ) := (q10_2).trans (need_cg (fun h4 => by rw [aM_4] at h4; clear i1 i2 i3; clear q10_0 q10_1 q10_2; first | exact (decide_eq_true (by omega)).trans (mbit_t h4 b2 (by omega)).symm | exact (decide_eq_false (by omega)).trans (mbit_f h4 b2 (by omega)).symm))
            refine j_aload_n (pc := 86) dX12_readLine_86 rfl rfl ?_
            refine j_dup (pc := 87) dX12_readLine_87 rfl ?_
            refine j_getI (pc := 88) fl_X12_71 dX12_readLine_88 (a_88 hM) rfl ?_
            refine j_topV (show σ9 88 9 = τ 88 9 from (hGσ9 88 9 (show ¬ ((88 = 88 ∧ (9 = 17 ∨ 9 = 18))) from by decide))) ?_
            refine j_iconst (pc := 91) dX12_readLine_91 ?_
            refine j_iload_n (pc := 92) dX12_readLine_92 rfl rfl ?_
            refine j_ishl (pc := 93) dX12_readLine_93 (fun z12 ez12 => ?_)
            have hz12 : (-2147483648 : Int) ≤ z12 ∧ z12 ≤ 2147483647 := by rw [ez12]; exact shl_in _ _
            have s1 := ez12
            refine j_ior (pc := 94) dX12_readLine_94 (fun z13 ez13 => ?_)
            have hz13 : (-2147483648 : Int) ≤ z13 ∧ z13 ≤ 2147483647 := by rw [ez13]; exact or_in _ _
            have s2 := ez13; rw [s1] at s2
            refine j_putI (pc := 95) fl_X12_71 fp_X12_9 dX12_readLine_95 (a_88 hM) rfl (j_nm (fun σ14 (eσ14 : σ14 = tw_up σ9 88 9 z13) => ?_))
            have hIσ14 : tw_I σ14 := tw_I_up hIσ9 eσ14 (show (-2147483648 : Int) ≤ z13 ∧ z13 ≤ 2147483647 from ⟨by omega, by omega⟩)
            have hFσ14 : tw_F (fun c j => (c = 88 ∧ (j = 9 ∨ j = 10 ∨ j = 13 ∨ j = 14 ∨ j = 15 ∨ j = 16 ∨ j = 17 ∨ j = 18)) ∨ (93 ≤ c ∧ c < 98)) σ σ14 := tw_F_up hFσ9 eσ14 (show (88 = 88 ∧ (9 = 9 ∨ 9 = 10 ∨ 9 = 13 ∨ 9 = 14 ∨ 9 = 15 ∨ 9 = 16 ∨ 9 = 17 ∨ 9 = 18)) ∨ (93 ≤ 88 ∧ 88 < 98) from (Or.inl ⟨rfl, (Or.inl rfl)⟩))
            refine j_ls (ls' := [(0, vR 88), (1, vI k)]) [0, 1] rfl ?_
            have y15 : σ14 88 17 = σ9 88 17 := (tw_ne1 eσ14 (by (first | decide | omega)))
            have f16 : (0 : Int) ≤ σ9 88 17 ∧ σ9 88 17 ≤ 5 := hIσ9 88 17
            have y17 : σ14 88 13 = τ 88 13 := ((tw_ne1 eσ14 (by (first | decide | omega)))).trans (hGσ9 88 13 (show ¬ ((88 = 88 ∧ (13 = 17 ∨ 13 = 18))) from by decide))
            have f18 : (0 : Int) ≤ τ 88 13 ∧ τ 88 13 ≤ 400 := hIτ 88 13
            have y19 : σ14 88 17 = σ9 88 17 := (tw_ne1 eσ14 (by (first | decide | omega)))
            exact ih.2.1 k ⟨by omega, by omega⟩ σ14 hIσ14 hFσ14 (show DQ σ14 from DQ_F i0 (fun j => ((tw_ne1 eσ14 (by (first | decide | omega)))).trans (hGσ9 93 j (show ¬ ((93 = 88 ∧ (j = 17 ∨ j = 18))) from fun h => absurd h.1 (by decide)))) (fun j => ((tw_ne1 eσ14 (by (first | decide | omega)))).trans (hGσ9 94 j (show ¬ ((94 = 88 ∧ (j = 17 ∨ j = 18))) from fun h => absurd h.1 (by decide)))) (by omega)) (show ¬ σ14 88 17 = 0 ∨ (0 ≤ k ∧ k ≤ 8) ∨ k = 10 ∨ k = 11 from (by first | exact i1 | (clear q10_1 q10_2; clear i3; omega))) (show σ 88 13 ≤ σ14 88 13 from (by clear q10_0 q10_1 q10_2; omega)) (show (mLS σ = -1 ∧ ¬ σ14 88 17 = 0) ∨ (mLS σ = k ∧ 0 ≤ k ∧ k ≤ 8 ∧ ¬ k = 6) ∨ (mLS σ = 9 ∧ k = 10) ∨ (mLS σ = 10 ∧ k = 11) from (by first | exact i3 | (clear q10_1 q10_2; clear i1; omega))) (show aM σ14 = lS2 σ from (by first | exact lS2_lt i4 kq.1 (by omega) c2 ((aM_wr (i := 6) eσ14 (Or.inl ⟨rfl, by omega, by omega⟩)).trans (wr_cg (fun h4 => mbit_w (σ := τ) (by omega) s2))) | exact lS2_dead i4 (by omega) | exact lS2_ge i4 (by omega))) (show 3 < N_ from by omega)
          · refine j_iconst (pc := 77) dX12_readLine_77 ?_
            refine j_goto (pc := 78) (tgt := 82) dX12_readLine_78 rfl ?_
            refine j_iconst (pc := 82) dX12_readLine_82 ?_
            refine j_callV (pc := 83) (As := [vI 1, vI 4]) (st := []) (c_X12_needs hM 1 (by (first | decide | exact ⟨by omega, by omega⟩)) 4 (by (first | decide | exact ⟨by omega, by omega⟩)) τ hIτ) mv_X12_129 rfl rfl rfl (a_88 hM) dX12_readLine_83 ⟨Nat.le_of_ble_eq_true rfl, Nat.le_of_ble_eq_true rfl⟩ ⟨Nat.le_refl _, Nat.le_refl _⟩ rfl (Nat.le_of_ble_eq_true rfl) rfl (fun z20 σ21 hz20 => ?_)
            obtain ⟨rfl, hIσ21, hGσ21, q22_0, q22_1, q22_2⟩ := hz20
            replace q22_0 : (¬ (1 : Int) = 0 ∧ σ21 88 17 = τ 88 17) ∨ ((1 : Int) = 0 ∧ τ 88 17 = 0 ∧ σ21 88 17 = (4 : Int)) ∨ ((1 : Int) = 0 ∧ ¬ τ 88 17 = 0 ∧ σ21 88 17 = τ 88 17) := q22_0
            replace q22_1 : (¬ (1 : Int) = 0 ∧ σ21 88 17 = τ 88 17 ∧ σ21 88 18 = τ 88 18) ∨ ((1 : Int) = 0 ∧ τ 88 17 = 0 ∧ σ21 88 17 = (4 : Int) ∧ σ21 88 18 = τ 88 14) ∨ ((1 : Int) = 0 ∧ ¬ τ 88 17 = 0 ∧ σ21 88 17 = τ 88 17 ∧ σ21 88 18 = τ 88 18) := q22_1
            replace q22_2 : aM σ21 = need (decide (¬ (1 : Int) = 0)) (4 : Int) (aM τ) := q22_2
            have hFσ21 : tw_F (fun c j => (c = 88 ∧ (j = 9 ∨ j = 10 ∨ j = 13 ∨ j = 14 ∨ j = 15 ∨ j = 16 ∨ j = 17 ∨ j = 18)) ∨ (93 ≤ c ∧ c < 98)) σ σ21 := tw_F_tr hFτ hGσ21 (fun c j q => (show (c = 88 ∧ (j = 9 ∨ j = 10 ∨ j = 13 ∨ j = 14 ∨ j = 15 ∨ j = 16 ∨ j = 17 ∨ j = 18)) ∨ (93 ≤ c ∧ c < 98) from by replace q : (c = 88 ∧ (j = 17 ∨ j = 18)) := q; exact (Or.inl ⟨q.1, (q.2.elim (fun z => (Or.inr (Or.inr (Or.inr (Or.inr (Or.inr (Or.inr (Or.inl z)))))))) (fun z => (Or.inr (Or.inr (Or.inr (Or.inr (Or.inr (Or.inr (Or.inr z)))))))))⟩)))
            refine j_st (st' := []) rfl ?_
            have c2 : aM σ21 = need (decide (tw_and (tw_shr ((aM τ) 6) k) 1 = 0)) 4 (aM τ) := (q22_2).trans (need_cg (fun h4 => by rw [aM_4] at h4; clear i1 i2 i3; clear q22_0 q22_1 q22_2; first | exact (decide_eq_true (by omega)).trans (mbit_t h4 b2 (by omega)).symm | exact (decide_eq_false (by omega)).trans (mbit_f h4 b2 (by omega)).symm))
            refine j_aload_n (pc := 86) dX12_readLine_86 rfl rfl ?_
            refine j_dup (pc := 87) dX12_readLine_87 rfl ?_
            refine j_getI (pc := 88) fl_X12_71 dX12_readLine_88 (a_88 hM) rfl ?_
            refine j_topV (show σ21 88 9 = τ 88 9 from (hGσ21 88 9 (show ¬ ((88 = 88 ∧ (9 = 17 ∨ 9 = 18))) from by decide))) ?_
            refine j_iconst (pc := 91) dX12_readLine_91 ?_
            refine j_iload_n (pc := 92) dX12_readLine_92 rfl rfl ?_
            refine j_ishl (pc := 93) dX12_readLine_93 (fun z24 ez24 => ?_)
            have hz24 : (-2147483648 : Int) ≤ z24 ∧ z24 ≤ 2147483647 := by rw [ez24]; exact shl_in _ _
            have s1 := ez24
            refine j_ior (pc := 94) dX12_readLine_94 (fun z25 ez25 => ?_)
            have hz25 : (-2147483648 : Int) ≤ z25 ∧ z25 ≤ 2147483647 := by rw [ez25]; exact or_in _ _
            have s2 := ez25; rw [s1] at s2
            refine j_putI (pc := 95) fl_X12_71 fp_X12_9 dX12_readLine_95 (a_88 hM) rfl (j_nm (fun σ26 (eσ26 : σ26 = tw_up σ21 88 9 z25) => ?_))
            have hIσ26 : tw_I σ26 := tw_I_up hIσ21 eσ26 (show (-2147483648 : Int) ≤ z25 ∧ z25 ≤ 2147483647 from ⟨by omega, by omega⟩)
            have hFσ26 : tw_F (fun c j => (c = 88 ∧ (j = 9 ∨ j = 10 ∨ j = 13 ∨ j = 14 ∨ j = 15 ∨ j = 16 ∨ j = 17 ∨ j = 18)) ∨ (93 ≤ c ∧ c < 98)) σ σ26 := tw_F_up hFσ21 eσ26 (show (88 = 88 ∧ (9 = 9 ∨ 9 = 10 ∨ 9 = 13 ∨ 9 = 14 ∨ 9 = 15 ∨ 9 = 16 ∨ 9 = 17 ∨ 9 = 18)) ∨ (93 ≤ 88 ∧ 88 < 98) from (Or.inl ⟨rfl, (Or.inl rfl)⟩))
            refine j_ls (ls' := [(0, vR 88), (1, vI k)]) [0, 1] rfl ?_
            have y27 : σ26 88 17 = σ21 88 17 := (tw_ne1 eσ26 (by (first | decide | omega)))
            have f28 : (0 : Int) ≤ σ21 88 17 ∧ σ21 88 17 ≤ 5 := hIσ21 88 17
            have y29 : σ26 88 13 = τ 88 13 := ((tw_ne1 eσ26 (by (first | decide | omega)))).trans (hGσ21 88 13 (show ¬ ((88 = 88 ∧ (13 = 17 ∨ 13 = 18))) from by decide))
            have f30 : (0 : Int) ≤ τ 88 13 ∧ τ 88 13 ≤ 400 := hIτ 88 13
            have y31 : σ26 88 17 = σ21 88 17 := (tw_ne1 eσ26 (by (first | decide | omega)))
            exact ih.2.1 k ⟨by omega, by omega⟩ σ26 hIσ26 hFσ26 (show DQ σ26 from DQ_F i0 (fun j => ((tw_ne1 eσ26 (by (first | decide | omega)))).trans (hGσ21 93 j (show ¬ ((93 = 88 ∧ (j = 17 ∨ j = 18))) from fun h => absurd h.1 (by decide)))) (fun j => ((tw_ne1 eσ26 (by (first | decide | omega)))).trans (hGσ21 94 j (show ¬ ((94 = 88 ∧ (j = 17 ∨ j = 18))) from fun h => absurd h.1 (by decide)))) (by omega)) (show ¬ σ26 88 17 = 0 ∨ (0 ≤ k ∧ k ≤ 8) ∨ k = 10 ∨ k = 11 from (by first | exact i1 | (clear q22_1 q22_2; clear i3; omega))) (show σ 88 13 ≤ σ26 88 13 from (by clear q22_0 q22_1 q22_2; omega)) (show (mLS σ = -1 ∧ ¬ σ26 88 17 = 0) ∨ (mLS σ = k ∧ 0 ≤ k ∧ k ≤ 8 ∧ ¬ k = 6) ∨ (mLS σ = 9 ∧ k = 10) ∨ (mLS σ = 10 ∧ k = 11) from (by first | exact i3 | (clear q22_1 q22_2; clear i1; omega))) (show aM σ26 = lS2 σ from (by first | exact lS2_lt i4 kq.1 (by omega) c2 ((aM_wr (i := 6) eσ26 (Or.inl ⟨rfl, by omega, by omega⟩)).trans (wr_cg (fun h4 => mbit_w (σ := τ) (by omega) s2))) | exact lS2_dead i4 (by omega) | exact lS2_ge i4 (by omega))) (show 3 < N_ from by omega)
    · intro k hk τ hIτ hFτ i0 i1 i2 i3 i4 hm
      have fz : fM τ = fM σ := fM_F (hFτ 88 12 (show ¬ ((88 = 88 ∧ (12 = 9 ∨ 12 = 10 ∨ 12 = 13 ∨ 12 = 14 ∨ 12 = 15 ∨ 12 = 16 ∨ 12 = 17 ∨ 12 = 18)) ∨ (93 ≤ 88 ∧ 88 < 98)) from by decide)) (fun j => hFτ 98 j (show ¬ ((98 = 88 ∧ (j = 9 ∨ j = 10 ∨ j = 13 ∨ j = 14 ∨ j = 15 ∨ j = 16 ∨ j = 17 ∨ j = 18)) ∨ (93 ≤ 98 ∧ 98 < 98)) from fun h => h.elim (fun h => absurd h.1 (by decide)) (fun h => absurd h (by decide))))
      refine j_aload_n (pc := 98) dX12_readLine_98 rfl rfl ?_
      refine j_callV (pc := 99) (As := []) (st := []) (c_X12_next hM τ hIτ) mv_X12_137 rfl rfl rfl (a_88 hM) dX12_readLine_99 ⟨Nat.le_of_ble_eq_true rfl, Nat.le_of_ble_eq_true rfl⟩ ⟨Nat.le_refl _, Nat.le_refl _⟩ rfl (Nat.le_of_ble_eq_true rfl) rfl (fun z32 σ33 hz32 => ?_)
      obtain ⟨rfl, hIσ33, hGσ33, q34_0, q34_1, q34_2, q34_3⟩ := hz32
      replace q34_0 : ¬ σ33 88 17 = 0 ∨ τ 88 17 = 0 := q34_0
      replace q34_1 : τ 88 13 ≤ σ33 88 13 := q34_1
      replace q34_2 : ¬ σ33 88 17 = 0 ∨ σ33 88 15 = 0 ∨ τ 88 13 < σ33 88 13 := q34_2
      replace q34_3 : aM σ33 = tok (fM τ) (aM τ) := q34_3
      have hFσ33 : tw_F (fun c j => (c = 88 ∧ (j = 9 ∨ j = 10 ∨ j = 13 ∨ j = 14 ∨ j = 15 ∨ j = 16 ∨ j = 17 ∨ j = 18)) ∨ (93 ≤ c ∧ c < 98)) σ σ33 := tw_F_tr hFτ hGσ33 (fun c j q => (show (c = 88 ∧ (j = 9 ∨ j = 10 ∨ j = 13 ∨ j = 14 ∨ j = 15 ∨ j = 16 ∨ j = 17 ∨ j = 18)) ∨ (93 ≤ c ∧ c < 98) from by replace q : (c = 88 ∧ (j = 13 ∨ j = 14 ∨ j = 15 ∨ j = 16 ∨ j = 17 ∨ j = 18)) := q; exact (Or.inl ⟨q.1, (q.2.elim (fun z => (Or.inr (Or.inr (Or.inl z)))) (fun z => (z.elim (fun z => (Or.inr (Or.inr (Or.inr (Or.inl z))))) (fun z => (z.elim (fun z => (Or.inr (Or.inr (Or.inr (Or.inr (Or.inl z)))))) (fun z => (z.elim (fun z => (Or.inr (Or.inr (Or.inr (Or.inr (Or.inr (Or.inl z))))))) (fun z => (z.elim (fun z => (Or.inr (Or.inr (Or.inr (Or.inr (Or.inr (Or.inr (Or.inl z)))))))) (fun z => (Or.inr (Or.inr (Or.inr (Or.inr (Or.inr (Or.inr (Or.inr z)))))))))))))))))⟩)))
      refine j_st (st' := []) rfl ?_
      have c3 : aM σ33 = lS3 σ := by (have q := q34_3); rw [fz, i4] at q; exact q
      refine j_aload_n (pc := 102) dX12_readLine_102 rfl rfl ?_
      refine j_getI (pc := 103) fl_X12_91 dX12_readLine_103 (a_88 hM) rfl ?_
      have f36 : (0 : Int) ≤ σ33 88 17 ∧ σ33 88 17 ≤ 5 := hIσ33 88 17
      refine j_ifR_le (pc := 106) (tgt := 110) ⟨by omega, by omega⟩ dX12_readLine_106 rfl (fun h37 => ?_) (fun h37 => ?_)
      · refine j_iload_n (pc := 110) dX12_readLine_110 rfl rfl ?_
        refine j_bipush (pc := 111) dX12_readLine_111 rfl ?_
        refine j_icmpR_ne (pc := 113) (tgt := 123) ⟨by omega, by omega⟩ ⟨by omega, by omega⟩ dX12_readLine_113 rfl (fun h38 => ?_) (fun h38 => ?_)
        · refine j_iload_n (pc := 123) dX12_readLine_123 rfl rfl ?_
          refine j_bipush (pc := 124) dX12_readLine_124 rfl ?_
          refine j_icmpR_ne (pc := 126) (tgt := 136) ⟨by omega, by omega⟩ ⟨by omega, by omega⟩ dX12_readLine_126 rfl (fun h39 => ?_) (fun h39 => ?_)
          · have kq : mLS σ = k ∧ 0 ≤ k ∧ k ≤ 8 ∧ ¬ k = 6 := by clear i1; clear q34_1 q34_2 q34_3; omega
            clear i1 i3
            refine j_aload_n (pc := 136) dX12_readLine_136 rfl rfl ?_
            refine j_getR (pc := 137) (r := 93) fl_X12_23 dX12_readLine_137 (a_88 hM) rfl ?_
            refine j_iload_n (pc := 140) dX12_readLine_140 rfl rfl ?_
            refine j_aload_n (pc := 141) dX12_readLine_141 rfl rfl ?_
            refine j_aload_n (pc := 142) dX12_readLine_142 rfl rfl ?_
            refine j_iload_n (pc := 143) dX12_readLine_143 rfl rfl ?_
            refine j_callV (pc := 144) (As := [vI k]) (st := [vR 88, vI k, vR 93]) (c_X12_lowest hM k ⟨by omega, by omega⟩ σ33 hIσ33) mv_X12_155 rfl rfl rfl (a_88 hM) dX12_readLine_144 ⟨Nat.le_of_ble_eq_true rfl, Nat.le_of_ble_eq_true rfl⟩ ⟨Nat.le_refl _, Nat.le_refl _⟩ rfl (Nat.le_of_ble_eq_true rfl) rfl (fun z40 σ41 hz40 => ?_)
            obtain ⟨r43, rfl, hr43, rfl, q42_0⟩ := hz40
            replace q42_0 : ((k = 0 ∨ k = 1 ∨ k = 3) ∧ r43 = 1) ∨ (¬ (k = 0 ∨ k = 1 ∨ k = 3) ∧ r43 = 0) := q42_0
            refine j_st (st' := [vI r43, vR 88, vI k, vR 93]) rfl ?_
            have l1 := least_r q42_0 (by omega) (by omega)
            refine j_aload_n (pc := 147) dX12_readLine_147 rfl rfl ?_
            refine j_iload_n (pc := 148) dX12_readLine_148 rfl rfl ?_
            refine j_callV (pc := 149) (As := [vI k]) (st := [vI r43, vR 88, vI k, vR 93]) (c_X12_highest hM k ⟨by omega, by omega⟩ σ33 hIσ33) mv_X12_158 rfl rfl rfl (a_88 hM) dX12_readLine_149 ⟨Nat.le_of_ble_eq_true rfl, Nat.le_of_ble_eq_true rfl⟩ ⟨Nat.le_refl _, Nat.le_refl _⟩ rfl (Nat.le_of_ble_eq_true rfl) rfl (fun z44 σ45 hz44 => ?_)
            obtain ⟨r47, rfl, hr47, rfl, q46_0⟩ := hz44
            replace q46_0 : (k = 0 ∧ r47 = 40) ∨ (k = 1 ∧ r47 = 999) ∨ (k = 2 ∧ r47 = 99) ∨ (k = 3 ∧ r47 = 60) ∨ (k = 7 ∧ r47 = 60) ∨ (k = 4 ∧ r47 = 50) ∨ (k = 5 ∧ r47 = 20) ∨ ((k < 0 ∨ k = 6 ∨ 7 < k) ∧ r47 = 9) := q46_0
            refine j_st (st' := [vI r47, vI r43, vR 88, vI k, vR 93]) rfl ?_
            have l2 := most_r q46_0 (by omega) (by omega) (by omega)
            have fz : fM σ33 = fM σ := fM_F (hFσ33 88 12 (show ¬ ((88 = 88 ∧ (12 = 9 ∨ 12 = 10 ∨ 12 = 13 ∨ 12 = 14 ∨ 12 = 15 ∨ 12 = 16 ∨ 12 = 17 ∨ 12 = 18)) ∨ (93 ≤ 88 ∧ 88 < 98)) from by decide)) (fun j => hFσ33 98 j (show ¬ ((98 = 88 ∧ (j = 9 ∨ j = 10 ∨ j = 13 ∨ j = 14 ∨ j = 15 ∨ j = 16 ∨ j = 17 ∨ j = 18)) ∨ (93 ≤ 98 ∧ 98 < 98)) from fun h => h.elim (fun h => absurd h.1 (by decide)) (fun h => absurd h (by decide))))
            refine j_callV (pc := 152) (As := [vI r43, vI r47]) (st := [vI k, vR 93]) (c_X12_readNumber hM r43 ⟨by omega, by omega⟩ r47 ⟨by omega, by omega⟩ σ33 hIσ33) mv_X12_140 rfl rfl rfl (a_88 hM) dX12_readLine_152 ⟨Nat.le_of_ble_eq_true rfl, Nat.le_of_ble_eq_true rfl⟩ ⟨Nat.le_refl _, Nat.le_refl _⟩ rfl (Nat.le_of_ble_eq_true rfl) rfl (fun z48 σ49 hz48 => ?_)
            obtain ⟨r51, rfl, hr51, hIσ49, hGσ49, q50_0, q50_1, q50_2, q50_3, q50_4⟩ := hz48
            replace q50_0 : ¬ σ49 88 17 = 0 ∨ (σ33 88 17 = 0 ∧ r43 ≤ r51 ∧ r51 ≤ r47) := q50_0
            replace q50_1 : σ33 88 13 ≤ σ49 88 13 := q50_1
            replace q50_2 : ¬ σ49 88 17 = 0 ∨ σ49 88 15 = 0 ∨ σ33 88 13 < σ49 88 13 := q50_2
            replace q50_3 : aM σ49 = tok (fM σ33) (numS r43 r47 (aM σ33)) := q50_3
            replace q50_4 : (aM σ49) 4 = 0 → r51 = (numS r43 r47 (aM σ33)) 3 := q50_4
            have hFσ49 : tw_F (fun c j => (c = 88 ∧ (j = 9 ∨ j = 10 ∨ j = 13 ∨ j = 14 ∨ j = 15 ∨ j = 16 ∨ j = 17 ∨ j = 18)) ∨ (93 ≤ c ∧ c < 98)) σ σ49 := tw_F_tr hFσ33 hGσ49 (fun c j q => (show (c = 88 ∧ (j = 9 ∨ j = 10 ∨ j = 13 ∨ j = 14 ∨ j = 15 ∨ j = 16 ∨ j = 17 ∨ j = 18)) ∨ (93 ≤ c ∧ c < 98) from by replace q : (c = 88 ∧ (j = 13 ∨ j = 14 ∨ j = 15 ∨ j = 16 ∨ j = 17 ∨ j = 18)) := q; exact (Or.inl ⟨q.1, (q.2.elim (fun z => (Or.inr (Or.inr (Or.inl z)))) (fun z => (z.elim (fun z => (Or.inr (Or.inr (Or.inr (Or.inl z))))) (fun z => (z.elim (fun z => (Or.inr (Or.inr (Or.inr (Or.inr (Or.inl z)))))) (fun z => (z.elim (fun z => (Or.inr (Or.inr (Or.inr (Or.inr (Or.inr (Or.inl z))))))) (fun z => (z.elim (fun z => (Or.inr (Or.inr (Or.inr (Or.inr (Or.inr (Or.inr (Or.inl z)))))))) (fun z => (Or.inr (Or.inr (Or.inr (Or.inr (Or.inr (Or.inr (Or.inr z)))))))))))))))))⟩)))
            refine j_st (st' := [vI r51, vI k, vR 93]) rfl ?_
            have c5 := q50_3; rw [fz, c3, l1, l2] at c5
            have v5 := q50_4; rw [c3, l1, l2] at v5
            refine j_iast (pc := 155) dX12_readLine_155 (a_93 hM) (by omega) (by omega) (by decide) (j_nm (fun σ52 (eσ52 : σ52 = tw_up σ49 93 (k.toNat) r51) => ?_))
            have hIσ52 : tw_I σ52 := tw_I_up hIσ49 eσ52 (show (-2147483648 : Int) ≤ r51 ∧ r51 ≤ 2147483647 from ⟨by omega, by omega⟩)
            have hFσ52 : tw_F (fun c j => (c = 88 ∧ (j = 9 ∨ j = 10 ∨ j = 13 ∨ j = 14 ∨ j = 15 ∨ j = 16 ∨ j = 17 ∨ j = 18)) ∨ (93 ≤ c ∧ c < 98)) σ σ52 := tw_F_up hFσ49 eσ52 (show (93 = 88 ∧ (k.toNat = 9 ∨ k.toNat = 10 ∨ k.toNat = 13 ∨ k.toNat = 14 ∨ k.toNat = 15 ∨ k.toNat = 16 ∨ k.toNat = 17 ∨ k.toNat = 18)) ∨ (93 ≤ 93 ∧ 93 < 98) from (Or.inr (by decide)))
            have D1 : DQ σ52 := DQ_put93 (DQ_F i0 (fun j => ((hGσ49 93 j (show ¬ ((93 = 88 ∧ (j = 13 ∨ j = 14 ∨ j = 15 ∨ j = 16 ∨ j = 17 ∨ j = 18))) from fun h => absurd h.1 (by decide)))).trans (hGσ33 93 j (show ¬ ((93 = 88 ∧ (j = 13 ∨ j = 14 ∨ j = 15 ∨ j = 16 ∨ j = 17 ∨ j = 18))) from fun h => absurd h.1 (by decide)))) (fun j => ((hGσ49 94 j (show ¬ ((94 = 88 ∧ (j = 13 ∨ j = 14 ∨ j = 15 ∨ j = 16 ∨ j = 17 ∨ j = 18))) from fun h => absurd h.1 (by decide)))).trans (hGσ33 94 j (show ¬ ((94 = 88 ∧ (j = 13 ∨ j = 14 ∨ j = 15 ∨ j = 16 ∨ j = 17 ∨ j = 18))) from fun h => absurd h.1 (by decide)))) (by omega)) eσ52 (by rcases q50_0 with q | q; exact Or.inl q; exact Or.inr (w91q ⟨kq.2.1, kq.2.2.1⟩ kq.2.2.2 q42_0 q46_0 ⟨q.2.1, q.2.2⟩))
            clear q46_0 q42_0
            have c6 := (aM_wr (i := 100 + k.toNat) eσ52 (Or.inr (Or.inr (Or.inl ⟨rfl, by omega, by omega⟩)))).trans (wr_cg v5)
            refine j_iload_n (pc := 156) dX12_readLine_156 rfl rfl ?_
            refine j_iconst (pc := 157) dX12_readLine_157 ?_
            refine j_icmpR_ne (pc := 158) (tgt := 175) ⟨by omega, by omega⟩ ⟨by omega, by omega⟩ dX12_readLine_158 rfl (fun h53 => ?_) (fun h53 => ?_)
            · refine j_ls (ls' := [(0, vR 88)]) [0] rfl ?_
              have y54 : σ52 88 13 = σ49 88 13 := (tw_ne1 eσ52 (by (first | decide | omega)))
              have f55 : (0 : Int) ≤ σ49 88 13 ∧ σ49 88 13 ≤ 400 := hIσ49 88 13
              exact ih.2.2 σ52 hIσ52 hFσ52 (show DQ σ52 from (by first | exact q50_0 | exact D1 | exact DQ_put93 (DQ_F D1 (fun j => hGσ49 93 j (show ¬ ((93 = 88 ∧ (j = 13 ∨ j = 14 ∨ j = 15 ∨ j = 16 ∨ j = 17 ∨ j = 18))) from fun h => absurd h.1 (by decide))) (fun j => hGσ49 94 j (show ¬ ((94 = 88 ∧ (j = 13 ∨ j = 14 ∨ j = 15 ∨ j = 16 ∨ j = 17 ∨ j = 18))) from fun h => absurd h.1 (by decide))) (by omega)) eσ52 (by rcases q50_0 with q | q; exact Or.inl (by omega); exact Or.inr (r5w (by decide) (by omega))) | exact DQ_F i0 (fun j => rfl) (fun j => (((tw_ne1 eσ52 (by (first | decide | omega)))).trans (hGσ49 94 j (show ¬ ((94 = 88 ∧ (j = 13 ∨ j = 14 ∨ j = 15 ∨ j = 16 ∨ j = 17 ∨ j = 18))) from fun h => absurd h.1 (by decide)))).trans (hGσ33 94 j (show ¬ ((94 = 88 ∧ (j = 13 ∨ j = 14 ∨ j = 15 ∨ j = 16 ∨ j = 17 ∨ j = 18))) from fun h => absurd h.1 (by decide)))) (by omega))) (show σ 88 13 ≤ σ52 88 13 from (by clear q34_0 q34_2 q34_3 q50_0 q50_2 q50_3 q50_4; omega)) (show aM σ52 = lS4 σ from (by first | exact c4 | exact lS4_rule kq.1 (by omega) (ruleM_of5 c5 c6 (by omega) c7 ((aM_wr (i := 106) eσ52 (Or.inr (Or.inr (Or.inl ⟨rfl, by omega, by omega⟩)))).trans (wr_cg v7))) | exact lS4_rule kq.1 (by omega) (ruleM_of c5 c6 (by omega)))) (show (lS3 σ) 4 = 0 from (by rw [← c3, aM_4]; omega)) (show 2 < N_ from by omega)
            · refine j_aload_n (pc := 161) dX12_readLine_161 rfl rfl ?_
              refine j_getR (pc := 162) (r := 93) fl_X12_23 dX12_readLine_162 (a_88 hM) rfl ?_
              refine j_bipush (pc := 165) dX12_readLine_165 rfl ?_
              refine j_aload_n (pc := 167) dX12_readLine_167 rfl rfl ?_
              refine j_iconst (pc := 168) dX12_readLine_168 ?_
              refine j_bipush (pc := 169) dX12_readLine_169 rfl ?_
              have fz : fM σ52 = fM σ := fM_F (hFσ52 88 12 (show ¬ ((88 = 88 ∧ (12 = 9 ∨ 12 = 10 ∨ 12 = 13 ∨ 12 = 14 ∨ 12 = 15 ∨ 12 = 16 ∨ 12 = 17 ∨ 12 = 18)) ∨ (93 ≤ 88 ∧ 88 < 98)) from by decide)) (fun j => hFσ52 98 j (show ¬ ((98 = 88 ∧ (j = 9 ∨ j = 10 ∨ j = 13 ∨ j = 14 ∨ j = 15 ∨ j = 16 ∨ j = 17 ∨ j = 18)) ∨ (93 ≤ 98 ∧ 98 < 98)) from fun h => h.elim (fun h => absurd h.1 (by decide)) (fun h => absurd h (by decide))))
              refine j_callV (pc := 171) (As := [vI 0, vI 20]) (st := [vI 6, vR 93]) (c_X12_readNumber hM 0 (by (first | decide | exact ⟨by omega, by omega⟩)) 20 (by (first | decide | exact ⟨by omega, by omega⟩)) σ52 hIσ52) mv_X12_140 rfl rfl rfl (a_88 hM) dX12_readLine_171 ⟨Nat.le_of_ble_eq_true rfl, Nat.le_of_ble_eq_true rfl⟩ ⟨Nat.le_refl _, Nat.le_refl _⟩ rfl (Nat.le_of_ble_eq_true rfl) rfl (fun z56 σ57 hz56 => ?_)
              obtain ⟨r59, rfl, hr59, hIσ57, hGσ57, q58_0, q58_1, q58_2, q58_3, q58_4⟩ := hz56
              replace q58_0 : ¬ σ57 88 17 = 0 ∨ (σ52 88 17 = 0 ∧ (0 : Int) ≤ r59 ∧ r59 ≤ (20 : Int)) := q58_0
              have y60 : σ52 88 17 = σ49 88 17 := (tw_ne1 eσ52 (by (first | decide | omega)))
              have f61 : (0 : Int) ≤ σ49 88 17 ∧ σ49 88 17 ≤ 5 := hIσ49 88 17
              replace q58_1 : σ52 88 13 ≤ σ57 88 13 := q58_1
              have y62 : σ52 88 13 = σ49 88 13 := (tw_ne1 eσ52 (by (first | decide | omega)))
              have f63 : (0 : Int) ≤ σ49 88 13 ∧ σ49 88 13 ≤ 400 := hIσ49 88 13
              replace q58_2 : ¬ σ57 88 17 = 0 ∨ σ57 88 15 = 0 ∨ σ52 88 13 < σ57 88 13 := q58_2
              have y64 : σ52 88 13 = σ49 88 13 := (tw_ne1 eσ52 (by (first | decide | omega)))
              replace q58_3 : aM σ57 = tok (fM σ52) (numS (0 : Int) (20 : Int) (aM σ52)) := q58_3
              replace q58_4 : (aM σ57) 4 = 0 → r59 = (numS (0 : Int) (20 : Int) (aM σ52)) 3 := q58_4
              have hFσ57 : tw_F (fun c j => (c = 88 ∧ (j = 9 ∨ j = 10 ∨ j = 13 ∨ j = 14 ∨ j = 15 ∨ j = 16 ∨ j = 17 ∨ j = 18)) ∨ (93 ≤ c ∧ c < 98)) σ σ57 := tw_F_tr hFσ52 hGσ57 (fun c j q => (show (c = 88 ∧ (j = 9 ∨ j = 10 ∨ j = 13 ∨ j = 14 ∨ j = 15 ∨ j = 16 ∨ j = 17 ∨ j = 18)) ∨ (93 ≤ c ∧ c < 98) from by replace q : (c = 88 ∧ (j = 13 ∨ j = 14 ∨ j = 15 ∨ j = 16 ∨ j = 17 ∨ j = 18)) := q; exact (Or.inl ⟨q.1, (q.2.elim (fun z => (Or.inr (Or.inr (Or.inl z)))) (fun z => (z.elim (fun z => (Or.inr (Or.inr (Or.inr (Or.inl z))))) (fun z => (z.elim (fun z => (Or.inr (Or.inr (Or.inr (Or.inr (Or.inl z)))))) (fun z => (z.elim (fun z => (Or.inr (Or.inr (Or.inr (Or.inr (Or.inr (Or.inl z))))))) (fun z => (z.elim (fun z => (Or.inr (Or.inr (Or.inr (Or.inr (Or.inr (Or.inr (Or.inl z)))))))) (fun z => (Or.inr (Or.inr (Or.inr (Or.inr (Or.inr (Or.inr (Or.inr z)))))))))))))))))⟩)))
              refine j_st (st' := [vI r59, vI 6, vR 93]) rfl ?_
              have c7 := q58_3; rw [fz] at c7
              have v7 := q58_4
              refine j_iast (pc := 174) dX12_readLine_174 (a_93 hM) (by omega) (by omega) (by decide) (j_nm (fun σ65 (eσ65 : σ65 = tw_up σ57 93 6 r59) => ?_))
              have hIσ65 : tw_I σ65 := tw_I_up hIσ57 eσ65 (show (-2147483648 : Int) ≤ r59 ∧ r59 ≤ 2147483647 from ⟨by omega, by omega⟩)
              have hFσ65 : tw_F (fun c j => (c = 88 ∧ (j = 9 ∨ j = 10 ∨ j = 13 ∨ j = 14 ∨ j = 15 ∨ j = 16 ∨ j = 17 ∨ j = 18)) ∨ (93 ≤ c ∧ c < 98)) σ σ65 := tw_F_up hFσ57 eσ65 (show (93 = 88 ∧ (6 = 9 ∨ 6 = 10 ∨ 6 = 13 ∨ 6 = 14 ∨ 6 = 15 ∨ 6 = 16 ∨ 6 = 17 ∨ 6 = 18)) ∨ (93 ≤ 93 ∧ 93 < 98) from (Or.inr (by decide)))
              refine j_ls (ls' := [(0, vR 88)]) [0] rfl ?_
              have y66 : σ65 88 13 = σ57 88 13 := (tw_ne1 eσ65 (by (first | decide | omega)))
              have f67 : (0 : Int) ≤ σ57 88 13 ∧ σ57 88 13 ≤ 400 := hIσ57 88 13
              exact ih.2.2 σ65 hIσ65 hFσ65 (show DQ σ65 from (by first | exact q58_0 | exact D1 | exact DQ_put93 (DQ_F D1 (fun j => hGσ57 93 j (show ¬ ((93 = 88 ∧ (j = 13 ∨ j = 14 ∨ j = 15 ∨ j = 16 ∨ j = 17 ∨ j = 18))) from fun h => absurd h.1 (by decide))) (fun j => hGσ57 94 j (show ¬ ((94 = 88 ∧ (j = 13 ∨ j = 14 ∨ j = 15 ∨ j = 16 ∨ j = 17 ∨ j = 18))) from fun h => absurd h.1 (by decide))) (by omega)) eσ65 (by rcases q58_0 with q | q; exact Or.inl (by omega); exact Or.inr (r5w (by decide) (by omega))) | exact DQ_F i0 (fun j => rfl) (fun j => (((((tw_ne1 eσ65 (by (first | decide | omega)))).trans (hGσ57 94 j (show ¬ ((94 = 88 ∧ (j = 13 ∨ j = 14 ∨ j = 15 ∨ j = 16 ∨ j = 17 ∨ j = 18))) from fun h => absurd h.1 (by decide)))).trans (tw_ne1 eσ52 (by (first | decide | omega)))).trans (hGσ49 94 j (show ¬ ((94 = 88 ∧ (j = 13 ∨ j = 14 ∨ j = 15 ∨ j = 16 ∨ j = 17 ∨ j = 18))) from fun h => absurd h.1 (by decide)))).trans (hGσ33 94 j (show ¬ ((94 = 88 ∧ (j = 13 ∨ j = 14 ∨ j = 15 ∨ j = 16 ∨ j = 17 ∨ j = 18))) from fun h => absurd h.1 (by decide)))) (by omega))) (show σ 88 13 ≤ σ65 88 13 from (by clear q34_0 q34_2 q34_3 q50_0 q50_2 q50_3 q50_4 q58_0 q58_2 q58_3 q58_4; omega)) (show aM σ65 = lS4 σ from (by first | exact c4 | exact lS4_rule kq.1 (by omega) (ruleM_of5 c5 c6 (by omega) c7 ((aM_wr (i := 106) eσ65 (Or.inr (Or.inr (Or.inl ⟨rfl, by omega, by omega⟩)))).trans (wr_cg v7))) | exact lS4_rule kq.1 (by omega) (ruleM_of c5 c6 (by omega)))) (show (lS3 σ) 4 = 0 from (by rw [← c3, aM_4]; omega)) (show 2 < N_ from by omega)
          · have kq : mLS σ = 10 := by clear i1; clear q34_1 q34_2 q34_3; omega
            clear i1 i3
            refine j_aload_n (pc := 129) dX12_readLine_129 rfl rfl ?_
            have fz : fM σ33 = fM σ := fM_F (hFσ33 88 12 (show ¬ ((88 = 88 ∧ (12 = 9 ∨ 12 = 10 ∨ 12 = 13 ∨ 12 = 14 ∨ 12 = 15 ∨ 12 = 16 ∨ 12 = 17 ∨ 12 = 18)) ∨ (93 ≤ 88 ∧ 88 < 98)) from by decide)) (fun j => hFσ33 98 j (show ¬ ((98 = 88 ∧ (j = 9 ∨ j = 10 ∨ j = 13 ∨ j = 14 ∨ j = 15 ∨ j = 16 ∨ j = 17 ∨ j = 18)) ∨ (93 ≤ 98 ∧ 98 < 98)) from fun h => h.elim (fun h => absurd h.1 (by decide)) (fun h => absurd h (by decide))))
            refine j_callV (pc := 130) (As := []) (st := []) (c_X12_readRack hM σ33 hIσ33) mv_X12_152 rfl rfl rfl (a_88 hM) dX12_readLine_130 ⟨Nat.le_of_ble_eq_true rfl, Nat.le_of_ble_eq_true rfl⟩ ⟨Nat.le_refl _, Nat.le_refl _⟩ rfl (Nat.le_of_ble_eq_true rfl) rfl (fun z68 σ69 hz68 => ?_)
            obtain ⟨rfl, hIσ69, hGσ69, q70_0, q70_1, q70_2⟩ := hz68
            replace q70_0 : ¬ σ69 88 17 = 0 ∨ σ33 88 17 = 0 := q70_0
            replace q70_1 : σ33 88 13 ≤ σ69 88 13 := q70_1
            replace q70_2 : aM σ69 = rackM (fM σ33) (aM σ33) := q70_2
            have hFσ69 : tw_F (fun c j => (c = 88 ∧ (j = 9 ∨ j = 10 ∨ j = 13 ∨ j = 14 ∨ j = 15 ∨ j = 16 ∨ j = 17 ∨ j = 18)) ∨ (93 ≤ c ∧ c < 98)) σ σ69 := tw_F_tr hFσ33 hGσ69 (fun c j q => (show (c = 88 ∧ (j = 9 ∨ j = 10 ∨ j = 13 ∨ j = 14 ∨ j = 15 ∨ j = 16 ∨ j = 17 ∨ j = 18)) ∨ (93 ≤ c ∧ c < 98) from by replace q : (c = 88 ∧ (j = 13 ∨ j = 14 ∨ j = 15 ∨ j = 16 ∨ j = 17 ∨ j = 18)) ∨ c = 95 ∨ c = 97 := q; exact (q.elim (fun q => (Or.inl ⟨q.1, (q.2.elim (fun z => (Or.inr (Or.inr (Or.inl z)))) (fun z => (z.elim (fun z => (Or.inr (Or.inr (Or.inr (Or.inl z))))) (fun z => (z.elim (fun z => (Or.inr (Or.inr (Or.inr (Or.inr (Or.inl z)))))) (fun z => (z.elim (fun z => (Or.inr (Or.inr (Or.inr (Or.inr (Or.inr (Or.inl z))))))) (fun z => (z.elim (fun z => (Or.inr (Or.inr (Or.inr (Or.inr (Or.inr (Or.inr (Or.inl z)))))))) (fun z => (Or.inr (Or.inr (Or.inr (Or.inr (Or.inr (Or.inr (Or.inr z)))))))))))))))))⟩)) (fun q => (q.elim (fun q => (Or.inr (by rw [show c = 95 from q]; decide))) (fun q => (Or.inr (by rw [show c = 97 from q]; decide))))))))
            refine j_st (st' := []) rfl ?_
            have c4 := lS4_rack (σ := σ) kq (by (have q := q70_2); rw [fz, c3] at q; exact q)
            refine j_goto (pc := 133) (tgt := 175) dX12_readLine_133 rfl ?_
            refine j_ls (ls' := [(0, vR 88)]) [0] rfl ?_
            exact ih.2.2 σ69 hIσ69 hFσ69 (show DQ σ69 from (by first | exact q70_0 | exact D1 | exact DQ_put93 (DQ_F D1 (fun j => hGσ69 93 j (show ¬ ((93 = 88 ∧ (j = 13 ∨ j = 14 ∨ j = 15 ∨ j = 16 ∨ j = 17 ∨ j = 18)) ∨ 93 = 95 ∨ 93 = 97) from fun h => h.elim (fun h => absurd h.1 (by decide)) (fun h => h.elim (fun h => absurd h (by decide)) (fun h => absurd h (by decide))))) (fun j => hGσ69 94 j (show ¬ ((94 = 88 ∧ (j = 13 ∨ j = 14 ∨ j = 15 ∨ j = 16 ∨ j = 17 ∨ j = 18)) ∨ 94 = 95 ∨ 94 = 97) from fun h => h.elim (fun h => absurd h.1 (by decide)) (fun h => h.elim (fun h => absurd h (by decide)) (fun h => absurd h (by decide))))) (by omega)) _ (by rcases q70_0 with q | q; exact Or.inl (by omega); exact Or.inr (r5w (by decide) (by omega))) | exact DQ_F i0 (fun j => ((hGσ69 93 j (show ¬ ((93 = 88 ∧ (j = 13 ∨ j = 14 ∨ j = 15 ∨ j = 16 ∨ j = 17 ∨ j = 18)) ∨ 93 = 95 ∨ 93 = 97) from fun h => h.elim (fun h => absurd h.1 (by decide)) (fun h => h.elim (fun h => absurd h (by decide)) (fun h => absurd h (by decide)))))).trans (hGσ33 93 j (show ¬ ((93 = 88 ∧ (j = 13 ∨ j = 14 ∨ j = 15 ∨ j = 16 ∨ j = 17 ∨ j = 18))) from fun h => absurd h.1 (by decide)))) (fun j => ((hGσ69 94 j (show ¬ ((94 = 88 ∧ (j = 13 ∨ j = 14 ∨ j = 15 ∨ j = 16 ∨ j = 17 ∨ j = 18)) ∨ 94 = 95 ∨ 94 = 97) from fun h => h.elim (fun h => absurd h.1 (by decide)) (fun h => h.elim (fun h => absurd h (by decide)) (fun h => absurd h (by decide)))))).trans (hGσ33 94 j (show ¬ ((94 = 88 ∧ (j = 13 ∨ j = 14 ∨ j = 15 ∨ j = 16 ∨ j = 17 ∨ j = 18))) from fun h => absurd h.1 (by decide)))) (by omega))) (show σ 88 13 ≤ σ69 88 13 from (by clear q34_0 q34_2 q34_3 q70_0 q70_2; omega)) (show aM σ69 = lS4 σ from (by first | exact c4 | exact lS4_rule kq.1 (by omega) (ruleM_of5 c5 c6 (by omega) c7 ((aM_wr (i := 106) _ (by omega)).trans (wr_cg v7))) | exact lS4_rule kq.1 (by omega) (ruleM_of c5 c6 (by omega)))) (show (lS3 σ) 4 = 0 from (by rw [← c3, aM_4]; omega)) (show 2 < N_ from by omega)
        · have kq : mLS σ = 9 := by clear i1; clear q34_1 q34_2 q34_3; omega
          clear i1 i3
          refine j_aload_n (pc := 116) dX12_readLine_116 rfl rfl ?_
          have fz : fM σ33 = fM σ := fM_F (hFσ33 88 12 (show ¬ ((88 = 88 ∧ (12 = 9 ∨ 12 = 10 ∨ 12 = 13 ∨ 12 = 14 ∨ 12 = 15 ∨ 12 = 16 ∨ 12 = 17 ∨ 12 = 18)) ∨ (93 ≤ 88 ∧ 88 < 98)) from by decide)) (fun j => hFσ33 98 j (show ¬ ((98 = 88 ∧ (j = 9 ∨ j = 10 ∨ j = 13 ∨ j = 14 ∨ j = 15 ∨ j = 16 ∨ j = 17 ∨ j = 18)) ∨ (93 ≤ 98 ∧ 98 < 98)) from fun h => h.elim (fun h => absurd h.1 (by decide)) (fun h => absurd h (by decide))))
          refine j_callV (pc := 117) (As := []) (st := []) (c_X12_readAt hM σ33 hIσ33 (DQ_F i0 (fun j => (hGσ33 93 j (show ¬ ((93 = 88 ∧ (j = 13 ∨ j = 14 ∨ j = 15 ∨ j = 16 ∨ j = 17 ∨ j = 18))) from fun h => absurd h.1 (by decide)))) (fun j => (hGσ33 94 j (show ¬ ((94 = 88 ∧ (j = 13 ∨ j = 14 ∨ j = 15 ∨ j = 16 ∨ j = 17 ∨ j = 18))) from fun h => absurd h.1 (by decide)))) (by omega)) (by rw [fz]; exact hq2)) mv_X12_149 rfl rfl rfl (a_88 hM) dX12_readLine_117 ⟨Nat.le_of_ble_eq_true rfl, Nat.le_of_ble_eq_true rfl⟩ ⟨Nat.le_refl _, Nat.le_refl _⟩ rfl (Nat.le_of_ble_eq_true rfl) rfl (fun z72 σ73 hz72 => ?_)
          obtain ⟨rfl, hIσ73, hGσ73, q74_0, q74_1, q74_2, q74_3⟩ := hz72
          replace q74_0 : DQ σ73 := q74_0
          replace q74_1 : ¬ σ73 88 17 = 0 ∨ σ33 88 17 = 0 := q74_1
          replace q74_2 : σ33 88 13 ≤ σ73 88 13 := q74_2
          replace q74_3 : aM σ73 = footM (fM σ33) (aM σ33) := q74_3
          have hFσ73 : tw_F (fun c j => (c = 88 ∧ (j = 9 ∨ j = 10 ∨ j = 13 ∨ j = 14 ∨ j = 15 ∨ j = 16 ∨ j = 17 ∨ j = 18)) ∨ (93 ≤ c ∧ c < 98)) σ σ73 := tw_F_tr hFσ33 hGσ73 (fun c j q => (show (c = 88 ∧ (j = 9 ∨ j = 10 ∨ j = 13 ∨ j = 14 ∨ j = 15 ∨ j = 16 ∨ j = 17 ∨ j = 18)) ∨ (93 ≤ c ∧ c < 98) from by replace q : (c = 88 ∧ (j = 10 ∨ j = 13 ∨ j = 14 ∨ j = 15 ∨ j = 16 ∨ j = 17 ∨ j = 18)) ∨ c = 94 ∨ c = 96 := q; exact (q.elim (fun q => (Or.inl ⟨q.1, (q.2.elim (fun z => (Or.inr (Or.inl z))) (fun z => (z.elim (fun z => (Or.inr (Or.inr (Or.inl z)))) (fun z => (z.elim (fun z => (Or.inr (Or.inr (Or.inr (Or.inl z))))) (fun z => (z.elim (fun z => (Or.inr (Or.inr (Or.inr (Or.inr (Or.inl z)))))) (fun z => (z.elim (fun z => (Or.inr (Or.inr (Or.inr (Or.inr (Or.inr (Or.inl z))))))) (fun z => (z.elim (fun z => (Or.inr (Or.inr (Or.inr (Or.inr (Or.inr (Or.inr (Or.inl z)))))))) (fun z => (Or.inr (Or.inr (Or.inr (Or.inr (Or.inr (Or.inr (Or.inr z)))))))))))))))))))⟩)) (fun q => (q.elim (fun q => (Or.inr (by rw [show c = 94 from q]; decide))) (fun q => (Or.inr (by rw [show c = 96 from q]; decide))))))))
          refine j_st (st' := []) rfl ?_
          have c4 := lS4_at (σ := σ) kq (by (have q := q74_3); rw [fz, c3] at q; exact q)
          refine j_goto (pc := 120) (tgt := 175) dX12_readLine_120 rfl ?_
          refine j_ls (ls' := [(0, vR 88)]) [0] rfl ?_
          exact ih.2.2 σ73 hIσ73 hFσ73 (show DQ σ73 from (by first | exact q74_0 | exact D1 | exact DQ_put93 (DQ_F D1 (fun j => hGσ73 93 j (show ¬ ((93 = 88 ∧ (j = 10 ∨ j = 13 ∨ j = 14 ∨ j = 15 ∨ j = 16 ∨ j = 17 ∨ j = 18)) ∨ 93 = 94 ∨ 93 = 96) from fun h => h.elim (fun h => absurd h.1 (by decide)) (fun h => h.elim (fun h => absurd h (by decide)) (fun h => absurd h (by decide))))) (fun j => hGσ73 94 j (show ¬ ((94 = 88 ∧ (j = 10 ∨ j = 13 ∨ j = 14 ∨ j = 15 ∨ j = 16 ∨ j = 17 ∨ j = 18)) ∨ 94 = 94 ∨ 94 = 96) from by omega)) (by omega)) _ (by rcases q74_0 with q | q; exact Or.inl (by omega); exact Or.inr (r5w (by decide) (by omega))) | exact DQ_F i0 (fun j => ((hGσ73 93 j (show ¬ ((93 = 88 ∧ (j = 10 ∨ j = 13 ∨ j = 14 ∨ j = 15 ∨ j = 16 ∨ j = 17 ∨ j = 18)) ∨ 93 = 94 ∨ 93 = 96) from fun h => h.elim (fun h => absurd h.1 (by decide)) (fun h => h.elim (fun h => absurd h (by decide)) (fun h => absurd h (by decide)))))).trans (hGσ33 93 j (show ¬ ((93 = 88 ∧ (j = 13 ∨ j = 14 ∨ j = 15 ∨ j = 16 ∨ j = 17 ∨ j = 18))) from fun h => absurd h.1 (by decide)))) (fun j => rfl) (by omega))) (show σ 88 13 ≤ σ73 88 13 from (by clear q34_0 q34_2 q34_3 q74_0 q74_1 q74_3; omega)) (show aM σ73 = lS4 σ from (by first | exact c4 | exact lS4_rule kq.1 (by omega) (ruleM_of5 c5 c6 (by omega) c7 ((aM_wr (i := 106) _ (by omega)).trans (wr_cg v7))) | exact lS4_rule kq.1 (by omega) (ruleM_of c5 c6 (by omega)))) (show (lS3 σ) 4 = 0 from (by rw [← c3, aM_4]; omega)) (show 2 < N_ from by omega)
      · have lx := lineM_end0 hq1 c3 (by omega)
        exact j_vret (pc := 109) ⟨rfl, rfl⟩ dX12_readLine_109 rfl ⟨rfl, hIσ33, hFσ33, (by first | exact DQ_F D3 (fun j => hGσ33 93 j (show ¬ ((93 = 88 ∧ (j = 13 ∨ j = 14 ∨ j = 15 ∨ j = 16 ∨ j = 17 ∨ j = 18))) from fun h => absurd h.1 (by decide))) (fun j => hGσ33 94 j (show ¬ ((94 = 88 ∧ (j = 13 ∨ j = 14 ∨ j = 15 ∨ j = 16 ∨ j = 17 ∨ j = 18))) from fun h => absurd h.1 (by decide))) (by omega) | exact Or.inl (by omega)), (by clear q34_0 q34_2 q34_3; omega), by omega, lx⟩
    · intro τ hIτ hFτ i0 i1 i2 i3 hm
      refine j_aload_n (pc := 175) dX12_readLine_175 rfl rfl ?_
      refine j_getI (pc := 176) fl_X12_91 dX12_readLine_176 (a_88 hM) rfl ?_
      have f76 : (0 : Int) ≤ τ 88 17 ∧ τ 88 17 ≤ 5 := hIτ 88 17
      refine j_ifR_ne (pc := 179) (tgt := 200) ⟨by omega, by omega⟩ dX12_readLine_179 rfl (fun h77 => ?_) (fun h77 => ?_)
      · have D3 : DQ τ := by first | exact i0 | exact DQ_F i0 (fun j => hG_ 93 j _) (fun j => hG_ 94 j _) (by omega)
        have c5 : aM τ = need (decide ((aM τ) 2 = 3)) 2 (aM τ) := aM_needt (fun h0 => absurd h0 (by omega))
        have fz : fM τ = fM σ := fM_F (hFτ 88 12 (show ¬ ((88 = 88 ∧ (12 = 9 ∨ 12 = 10 ∨ 12 = 13 ∨ 12 = 14 ∨ 12 = 15 ∨ 12 = 16 ∨ 12 = 17 ∨ 12 = 18)) ∨ (93 ≤ 88 ∧ 88 < 98)) from by decide)) (fun j => hFτ 98 j (show ¬ ((98 = 88 ∧ (j = 9 ∨ j = 10 ∨ j = 13 ∨ j = 14 ∨ j = 15 ∨ j = 16 ∨ j = 17 ∨ j = 18)) ∨ (93 ≤ 98 ∧ 98 < 98)) from fun h => h.elim (fun h => absurd h.1 (by decide)) (fun h => absurd h (by decide))))
        refine j_aload_n (pc := 200) dX12_readLine_200 rfl rfl ?_
        refine j_callV (pc := 201) (As := []) (st := []) (c_X12_next hM τ hIτ) mv_X12_137 rfl rfl rfl (a_88 hM) dX12_readLine_201 ⟨Nat.le_of_ble_eq_true rfl, Nat.le_of_ble_eq_true rfl⟩ ⟨Nat.le_refl _, Nat.le_refl _⟩ rfl (Nat.le_of_ble_eq_true rfl) rfl (fun z78 σ79 hz78 => ?_)
        obtain ⟨rfl, hIσ79, hGσ79, q80_0, q80_1, q80_2, q80_3⟩ := hz78
        replace q80_0 : ¬ σ79 88 17 = 0 ∨ τ 88 17 = 0 := q80_0
        replace q80_1 : τ 88 13 ≤ σ79 88 13 := q80_1
        replace q80_2 : ¬ σ79 88 17 = 0 ∨ σ79 88 15 = 0 ∨ τ 88 13 < σ79 88 13 := q80_2
        replace q80_3 : aM σ79 = tok (fM τ) (aM τ) := q80_3
        have hFσ79 : tw_F (fun c j => (c = 88 ∧ (j = 9 ∨ j = 10 ∨ j = 13 ∨ j = 14 ∨ j = 15 ∨ j = 16 ∨ j = 17 ∨ j = 18)) ∨ (93 ≤ c ∧ c < 98)) σ σ79 := tw_F_tr hFτ hGσ79 (fun c j q => (show (c = 88 ∧ (j = 9 ∨ j = 10 ∨ j = 13 ∨ j = 14 ∨ j = 15 ∨ j = 16 ∨ j = 17 ∨ j = 18)) ∨ (93 ≤ c ∧ c < 98) from by replace q : (c = 88 ∧ (j = 13 ∨ j = 14 ∨ j = 15 ∨ j = 16 ∨ j = 17 ∨ j = 18)) := q; exact (Or.inl ⟨q.1, (q.2.elim (fun z => (Or.inr (Or.inr (Or.inl z)))) (fun z => (z.elim (fun z => (Or.inr (Or.inr (Or.inr (Or.inl z))))) (fun z => (z.elim (fun z => (Or.inr (Or.inr (Or.inr (Or.inr (Or.inl z)))))) (fun z => (z.elim (fun z => (Or.inr (Or.inr (Or.inr (Or.inr (Or.inr (Or.inl z))))))) (fun z => (z.elim (fun z => (Or.inr (Or.inr (Or.inr (Or.inr (Or.inr (Or.inr (Or.inl z)))))))) (fun z => (Or.inr (Or.inr (Or.inr (Or.inr (Or.inr (Or.inr (Or.inr z)))))))))))))))))⟩)))
        refine j_st (st' := []) rfl ?_
        have lx := lineM_end (σ := σ) (w := τ) hq1 i3 i2 (by (have q := q80_3); rw [fz, c5] at q; exact q)
        exact j_vret (pc := 204) ⟨rfl, rfl⟩ dX12_readLine_204 rfl ⟨rfl, hIσ79, hFσ79, (by first | exact DQ_F D3 (fun j => hGσ79 93 j (show ¬ ((93 = 88 ∧ (j = 13 ∨ j = 14 ∨ j = 15 ∨ j = 16 ∨ j = 17 ∨ j = 18))) from fun h => absurd h.1 (by decide))) (fun j => hGσ79 94 j (show ¬ ((94 = 88 ∧ (j = 13 ∨ j = 14 ∨ j = 15 ∨ j = 16 ∨ j = 17 ∨ j = 18))) from fun h => absurd h.1 (by decide))) (by omega) | exact Or.inl (by omega)), (by clear q80_0 q80_2 q80_3; omega), by omega, lx⟩
      · refine j_aload_n (pc := 182) dX12_readLine_182 rfl rfl ?_
        refine j_aload_n (pc := 183) dX12_readLine_183 rfl rfl ?_
        refine j_getI (pc := 184) fl_X12_115 dX12_readLine_184 (a_88 hM) rfl ?_
        have f82 : (-2147483648 : Int) ≤ τ 88 15 ∧ τ 88 15 ≤ 2147483647 := hIτ 88 15
        refine j_iconst (pc := 187) dX12_readLine_187 ?_
        refine j_icmpR_ne (pc := 188) (tgt := 195) ⟨by omega, by omega⟩ ⟨by omega, by omega⟩ dX12_readLine_188 rfl (fun h83 => ?_) (fun h83 => ?_)
        · refine j_iconst (pc := 195) dX12_readLine_195 ?_
          refine j_iconst (pc := 196) dX12_readLine_196 ?_
          refine j_callV (pc := 197) (As := [vI 0, vI 2]) (st := []) (c_X12_needs hM 0 (by (first | decide | exact ⟨by omega, by omega⟩)) 2 (by (first | decide | exact ⟨by omega, by omega⟩)) τ hIτ) mv_X12_129 rfl rfl rfl (a_88 hM) dX12_readLine_197 ⟨Nat.le_of_ble_eq_true rfl, Nat.le_of_ble_eq_true rfl⟩ ⟨Nat.le_refl _, Nat.le_refl _⟩ rfl (Nat.le_of_ble_eq_true rfl) rfl (fun z84 σ85 hz84 => ?_)
          obtain ⟨rfl, hIσ85, hGσ85, q86_0, q86_1, q86_2⟩ := hz84
          replace q86_0 : (¬ (0 : Int) = 0 ∧ σ85 88 17 = τ 88 17) ∨ ((0 : Int) = 0 ∧ τ 88 17 = 0 ∧ σ85 88 17 = (2 : Int)) ∨ ((0 : Int) = 0 ∧ ¬ τ 88 17 = 0 ∧ σ85 88 17 = τ 88 17) := q86_0
          replace q86_1 : (¬ (0 : Int) = 0 ∧ σ85 88 17 = τ 88 17 ∧ σ85 88 18 = τ 88 18) ∨ ((0 : Int) = 0 ∧ τ 88 17 = 0 ∧ σ85 88 17 = (2 : Int) ∧ σ85 88 18 = τ 88 14) ∨ ((0 : Int) = 0 ∧ ¬ τ 88 17 = 0 ∧ σ85 88 17 = τ 88 17 ∧ σ85 88 18 = τ 88 18) := q86_1
          replace q86_2 : aM σ85 = need (decide (¬ (0 : Int) = 0)) (2 : Int) (aM τ) := q86_2
          have hFσ85 : tw_F (fun c j => (c = 88 ∧ (j = 9 ∨ j = 10 ∨ j = 13 ∨ j = 14 ∨ j = 15 ∨ j = 16 ∨ j = 17 ∨ j = 18)) ∨ (93 ≤ c ∧ c < 98)) σ σ85 := tw_F_tr hFτ hGσ85 (fun c j q => (show (c = 88 ∧ (j = 9 ∨ j = 10 ∨ j = 13 ∨ j = 14 ∨ j = 15 ∨ j = 16 ∨ j = 17 ∨ j = 18)) ∨ (93 ≤ c ∧ c < 98) from by replace q : (c = 88 ∧ (j = 17 ∨ j = 18)) := q; exact (Or.inl ⟨q.1, (q.2.elim (fun z => (Or.inr (Or.inr (Or.inr (Or.inr (Or.inr (Or.inr (Or.inl z)))))))) (fun z => (Or.inr (Or.inr (Or.inr (Or.inr (Or.inr (Or.inr (Or.inr z)))))))))⟩)))
          refine j_st (st' := []) rfl ?_
          have D3 : DQ σ85 := by first | exact i0 | exact DQ_F i0 (fun j => hGσ85 93 j (show ¬ ((93 = 88 ∧ (j = 17 ∨ j = 18))) from fun h => absurd h.1 (by decide))) (fun j => hGσ85 94 j (show ¬ ((94 = 88 ∧ (j = 17 ∨ j = 18))) from fun h => absurd h.1 (by decide))) (by omega)
          have c5 : aM σ85 = need (decide ((aM τ) 2 = 3)) 2 (aM τ) := (q86_2).trans (need_cg (fun h4 => by rw [aM_4] at h4; rw [aM_2 h4]; clear q86_0 q86_1 q86_2; clear i0; first | exact (decide_eq_true (by omega)).trans (decide_eq_true (by omega)).symm | exact (decide_eq_false (by omega)).trans (decide_eq_false (by omega)).symm))
          have fz : fM σ85 = fM σ := fM_F (hFσ85 88 12 (show ¬ ((88 = 88 ∧ (12 = 9 ∨ 12 = 10 ∨ 12 = 13 ∨ 12 = 14 ∨ 12 = 15 ∨ 12 = 16 ∨ 12 = 17 ∨ 12 = 18)) ∨ (93 ≤ 88 ∧ 88 < 98)) from by decide)) (fun j => hFσ85 98 j (show ¬ ((98 = 88 ∧ (j = 9 ∨ j = 10 ∨ j = 13 ∨ j = 14 ∨ j = 15 ∨ j = 16 ∨ j = 17 ∨ j = 18)) ∨ (93 ≤ 98 ∧ 98 < 98)) from fun h => h.elim (fun h => absurd h.1 (by decide)) (fun h => absurd h (by decide))))
          refine j_aload_n (pc := 200) dX12_readLine_200 rfl rfl ?_
          refine j_callV (pc := 201) (As := []) (st := []) (c_X12_next hM σ85 hIσ85) mv_X12_137 rfl rfl rfl (a_88 hM) dX12_readLine_201 ⟨Nat.le_of_ble_eq_true rfl, Nat.le_of_ble_eq_true rfl⟩ ⟨Nat.le_refl _, Nat.le_refl _⟩ rfl (Nat.le_of_ble_eq_true rfl) rfl (fun z88 σ89 hz88 => ?_)
          obtain ⟨rfl, hIσ89, hGσ89, q90_0, q90_1, q90_2, q90_3⟩ := hz88
          replace q90_0 : ¬ σ89 88 17 = 0 ∨ σ85 88 17 = 0 := q90_0
          replace q90_1 : σ85 88 13 ≤ σ89 88 13 := q90_1
          have y92 : σ85 88 13 = τ 88 13 := (hGσ85 88 13 (show ¬ ((88 = 88 ∧ (13 = 17 ∨ 13 = 18))) from by decide))
          have f93 : (0 : Int) ≤ τ 88 13 ∧ τ 88 13 ≤ 400 := hIτ 88 13
          replace q90_2 : ¬ σ89 88 17 = 0 ∨ σ89 88 15 = 0 ∨ σ85 88 13 < σ89 88 13 := q90_2
          have y94 : σ85 88 13 = τ 88 13 := (hGσ85 88 13 (show ¬ ((88 = 88 ∧ (13 = 17 ∨ 13 = 18))) from by decide))
          replace q90_3 : aM σ89 = tok (fM σ85) (aM σ85) := q90_3
          have hFσ89 : tw_F (fun c j => (c = 88 ∧ (j = 9 ∨ j = 10 ∨ j = 13 ∨ j = 14 ∨ j = 15 ∨ j = 16 ∨ j = 17 ∨ j = 18)) ∨ (93 ≤ c ∧ c < 98)) σ σ89 := tw_F_tr hFσ85 hGσ89 (fun c j q => (show (c = 88 ∧ (j = 9 ∨ j = 10 ∨ j = 13 ∨ j = 14 ∨ j = 15 ∨ j = 16 ∨ j = 17 ∨ j = 18)) ∨ (93 ≤ c ∧ c < 98) from by replace q : (c = 88 ∧ (j = 13 ∨ j = 14 ∨ j = 15 ∨ j = 16 ∨ j = 17 ∨ j = 18)) := q; exact (Or.inl ⟨q.1, (q.2.elim (fun z => (Or.inr (Or.inr (Or.inl z)))) (fun z => (z.elim (fun z => (Or.inr (Or.inr (Or.inr (Or.inl z))))) (fun z => (z.elim (fun z => (Or.inr (Or.inr (Or.inr (Or.inr (Or.inl z)))))) (fun z => (z.elim (fun z => (Or.inr (Or.inr (Or.inr (Or.inr (Or.inr (Or.inl z))))))) (fun z => (z.elim (fun z => (Or.inr (Or.inr (Or.inr (Or.inr (Or.inr (Or.inr (Or.inl z)))))))) (fun z => (Or.inr (Or.inr (Or.inr (Or.inr (Or.inr (Or.inr (Or.inr z)))))))))))))))))⟩)))
          refine j_st (st' := []) rfl ?_
          have lx := lineM_end (σ := σ) (w := τ) hq1 i3 i2 (by (have q := q90_3); rw [fz, c5] at q; exact q)
          exact j_vret (pc := 204) ⟨rfl, rfl⟩ dX12_readLine_204 rfl ⟨rfl, hIσ89, hFσ89, (by first | exact DQ_F D3 (fun j => hGσ89 93 j (show ¬ ((93 = 88 ∧ (j = 13 ∨ j = 14 ∨ j = 15 ∨ j = 16 ∨ j = 17 ∨ j = 18))) from fun h => absurd h.1 (by decide))) (fun j => hGσ89 94 j (show ¬ ((94 = 88 ∧ (j = 13 ∨ j = 14 ∨ j = 15 ∨ j = 16 ∨ j = 17 ∨ j = 18))) from fun h => absurd h.1 (by decide))) (by omega) | exact Or.inl (by omega)), (by clear q86_0 q86_1 q86_2 q90_0 q90_2 q90_3; omega), by omega, lx⟩
        · refine j_iconst (pc := 191) dX12_readLine_191 ?_
          refine j_goto (pc := 192) (tgt := 196) dX12_readLine_192 rfl ?_
          refine j_iconst (pc := 196) dX12_readLine_196 ?_
          refine j_callV (pc := 197) (As := [vI 1, vI 2]) (st := []) (c_X12_needs hM 1 (by (first | decide | exact ⟨by omega, by omega⟩)) 2 (by (first | decide | exact ⟨by omega, by omega⟩)) τ hIτ) mv_X12_129 rfl rfl rfl (a_88 hM) dX12_readLine_197 ⟨Nat.le_of_ble_eq_true rfl, Nat.le_of_ble_eq_true rfl⟩ ⟨Nat.le_refl _, Nat.le_refl _⟩ rfl (Nat.le_of_ble_eq_true rfl) rfl (fun z95 σ96 hz95 => ?_)
          obtain ⟨rfl, hIσ96, hGσ96, q97_0, q97_1, q97_2⟩ := hz95
          replace q97_0 : (¬ (1 : Int) = 0 ∧ σ96 88 17 = τ 88 17) ∨ ((1 : Int) = 0 ∧ τ 88 17 = 0 ∧ σ96 88 17 = (2 : Int)) ∨ ((1 : Int) = 0 ∧ ¬ τ 88 17 = 0 ∧ σ96 88 17 = τ 88 17) := q97_0
          replace q97_1 : (¬ (1 : Int) = 0 ∧ σ96 88 17 = τ 88 17 ∧ σ96 88 18 = τ 88 18) ∨ ((1 : Int) = 0 ∧ τ 88 17 = 0 ∧ σ96 88 17 = (2 : Int) ∧ σ96 88 18 = τ 88 14) ∨ ((1 : Int) = 0 ∧ ¬ τ 88 17 = 0 ∧ σ96 88 17 = τ 88 17 ∧ σ96 88 18 = τ 88 18) := q97_1
          replace q97_2 : aM σ96 = need (decide (¬ (1 : Int) = 0)) (2 : Int) (aM τ) := q97_2
          have hFσ96 : tw_F (fun c j => (c = 88 ∧ (j = 9 ∨ j = 10 ∨ j = 13 ∨ j = 14 ∨ j = 15 ∨ j = 16 ∨ j = 17 ∨ j = 18)) ∨ (93 ≤ c ∧ c < 98)) σ σ96 := tw_F_tr hFτ hGσ96 (fun c j q => (show (c = 88 ∧ (j = 9 ∨ j = 10 ∨ j = 13 ∨ j = 14 ∨ j = 15 ∨ j = 16 ∨ j = 17 ∨ j = 18)) ∨ (93 ≤ c ∧ c < 98) from by replace q : (c = 88 ∧ (j = 17 ∨ j = 18)) := q; exact (Or.inl ⟨q.1, (q.2.elim (fun z => (Or.inr (Or.inr (Or.inr (Or.inr (Or.inr (Or.inr (Or.inl z)))))))) (fun z => (Or.inr (Or.inr (Or.inr (Or.inr (Or.inr (Or.inr (Or.inr z)))))))))⟩)))
          refine j_st (st' := []) rfl ?_
          have D3 : DQ σ96 := by first | exact i0 | exact DQ_F i0 (fun j => hGσ96 93 j (show ¬ ((93 = 88 ∧ (j = 17 ∨ j = 18))) from fun h => absurd h.1 (by decide))) (fun j => hGσ96 94 j (show ¬ ((94 = 88 ∧ (j = 17 ∨ j = 18))) from fun h => absurd h.1 (by decide))) (by omega)
          have c5 : aM σ96 = need (decide ((aM τ) 2 = 3)) 2 (aM τ) := (q97_2).trans (need_cg (fun h4 => by rw [aM_4] at h4; rw [aM_2 h4]; clear q97_0 q97_1 q97_2; clear i0; first | exact (decide_eq_true (by omega)).trans (decide_eq_true (by omega)).symm | exact (decide_eq_false (by omega)).trans (decide_eq_false (by omega)).symm))
          have fz : fM σ96 = fM σ := fM_F (hFσ96 88 12 (show ¬ ((88 = 88 ∧ (12 = 9 ∨ 12 = 10 ∨ 12 = 13 ∨ 12 = 14 ∨ 12 = 15 ∨ 12 = 16 ∨ 12 = 17 ∨ 12 = 18)) ∨ (93 ≤ 88 ∧ 88 < 98)) from by decide)) (fun j => hFσ96 98 j (show ¬ ((98 = 88 ∧ (j = 9 ∨ j = 10 ∨ j = 13 ∨ j = 14 ∨ j = 15 ∨ j = 16 ∨ j = 17 ∨ j = 18)) ∨ (93 ≤ 98 ∧ 98 < 98)) from fun h => h.elim (fun h => absurd h.1 (by decide)) (fun h => absurd h (by decide))))
          refine j_aload_n (pc := 200) dX12_readLine_200 rfl rfl ?_
          refine j_callV (pc := 201) (As := []) (st := []) (c_X12_next hM σ96 hIσ96) mv_X12_137 rfl rfl rfl (a_88 hM) dX12_readLine_201 ⟨Nat.le_of_ble_eq_true rfl, Nat.le_of_ble_eq_true rfl⟩ ⟨Nat.le_refl _, Nat.le_refl _⟩ rfl (Nat.le_of_ble_eq_true rfl) rfl (fun z99 σ100 hz99 => ?_)
          obtain ⟨rfl, hIσ100, hGσ100, q101_0, q101_1, q101_2, q101_3⟩ := hz99
          replace q101_0 : ¬ σ100 88 17 = 0 ∨ σ96 88 17 = 0 := q101_0
          replace q101_1 : σ96 88 13 ≤ σ100 88 13 := q101_1
          have y103 : σ96 88 13 = τ 88 13 := (hGσ96 88 13 (show ¬ ((88 = 88 ∧ (13 = 17 ∨ 13 = 18))) from by decide))
          have f104 : (0 : Int) ≤ τ 88 13 ∧ τ 88 13 ≤ 400 := hIτ 88 13
          replace q101_2 : ¬ σ100 88 17 = 0 ∨ σ100 88 15 = 0 ∨ σ96 88 13 < σ100 88 13 := q101_2
          have y105 : σ96 88 13 = τ 88 13 := (hGσ96 88 13 (show ¬ ((88 = 88 ∧ (13 = 17 ∨ 13 = 18))) from by decide))
          replace q101_3 : aM σ100 = tok (fM σ96) (aM σ96) := q101_3
          have hFσ100 : tw_F (fun c j => (c = 88 ∧ (j = 9 ∨ j = 10 ∨ j = 13 ∨ j = 14 ∨ j = 15 ∨ j = 16 ∨ j = 17 ∨ j = 18)) ∨ (93 ≤ c ∧ c < 98)) σ σ100 := tw_F_tr hFσ96 hGσ100 (fun c j q => (show (c = 88 ∧ (j = 9 ∨ j = 10 ∨ j = 13 ∨ j = 14 ∨ j = 15 ∨ j = 16 ∨ j = 17 ∨ j = 18)) ∨ (93 ≤ c ∧ c < 98) from by replace q : (c = 88 ∧ (j = 13 ∨ j = 14 ∨ j = 15 ∨ j = 16 ∨ j = 17 ∨ j = 18)) := q; exact (Or.inl ⟨q.1, (q.2.elim (fun z => (Or.inr (Or.inr (Or.inl z)))) (fun z => (z.elim (fun z => (Or.inr (Or.inr (Or.inr (Or.inl z))))) (fun z => (z.elim (fun z => (Or.inr (Or.inr (Or.inr (Or.inr (Or.inl z)))))) (fun z => (z.elim (fun z => (Or.inr (Or.inr (Or.inr (Or.inr (Or.inr (Or.inl z))))))) (fun z => (z.elim (fun z => (Or.inr (Or.inr (Or.inr (Or.inr (Or.inr (Or.inr (Or.inl z)))))))) (fun z => (Or.inr (Or.inr (Or.inr (Or.inr (Or.inr (Or.inr (Or.inr z)))))))))))))))))⟩)))
          refine j_st (st' := []) rfl ?_
          have lx := lineM_end (σ := σ) (w := τ) hq1 i3 i2 (by (have q := q101_3); rw [fz, c5] at q; exact q)
          exact j_vret (pc := 204) ⟨rfl, rfl⟩ dX12_readLine_204 rfl ⟨rfl, hIσ100, hFσ100, (by first | exact DQ_F D3 (fun j => hGσ100 93 j (show ¬ ((93 = 88 ∧ (j = 13 ∨ j = 14 ∨ j = 15 ∨ j = 16 ∨ j = 17 ∨ j = 18))) from fun h => absurd h.1 (by decide))) (fun j => hGσ100 94 j (show ¬ ((94 = 88 ∧ (j = 13 ∨ j = 14 ∨ j = 15 ∨ j = 16 ∨ j = 17 ∨ j = 18))) from fun h => absurd h.1 (by decide))) (by omega) | exact Or.inl (by omega)), (by clear q97_0 q97_1 q97_2 q101_0 q101_2 q101_3; omega), by omega, lx⟩
set_option maxHeartbeats 4000000 in
set_option maxRecDepth 100000 in
theorem c_X12_readLine {G : tw_G} (hM : tw_isM G) (σ : tw_M) (hI : tw_I σ) (hq0 : DQ σ) (hq1 : σ 88 17 = 0) (hq2 : FB (fM σ)) : tw_C G yX12_readLine cX12_readLine 2 none 4 [vR 88] σ (q_X12_readLine σ) := by
  refine tw_met [(0, vR 88)] (by decide +kernel) rfl (Nat.le_of_ble_eq_true rfl) ?_
  refine j_aload_n (pc := 0) dX12_readLine_0 rfl rfl ?_
  refine j_getI (pc := 1) fl_X12_115 dX12_readLine_1 (a_88 hM) rfl ?_
  have f106 : (-2147483648 : Int) ≤ σ 88 15 ∧ σ 88 15 ≤ 2147483647 := hI 88 15
  refine j_iconst (pc := 4) dX12_readLine_4 ?_
  refine j_icmpR_ne (pc := 5) (tgt := 15) ⟨by omega, by omega⟩ ⟨by omega, by omega⟩ dX12_readLine_5 rfl (fun h107 => ?_) (fun h107 => ?_)
  · have ls : mLS σ = -1 := by unfold mLS lnm; exact if_pos (by omega)
    refine j_bipush (pc := 15) dX12_readLine_15 rfl ?_
    refine j_istore_n (pc := 17) (i := 1) (ls' := [(0, vR 88), (1, vI (-4))]) [1, 0] dX12_readLine_17 rfl (Nat.le_of_ble_eq_true rfl) rfl rfl ?_
    refine j_aload_n (pc := 18) dX12_readLine_18 rfl rfl ?_
    refine j_iload_n (pc := 19) dX12_readLine_19 rfl rfl ?_
    refine j_i2l (pc := 20) dX12_readLine_20 ?_
    rw [w32_eq (a := -4) (by omega) (by omega)]
    refine j_lconst (pc := 21) (z := 0) dX12_readLine_21 rfl ?_
    refine j_ldc2 (pc := 22) (z := 8) dX12_readLine_22 (tw_inc tm_6 (i := 172) rfl rfl) ?_
    refine j_callS (pc := 25) (As := [vL (-4), vL 0, vL 8]) (st := [vR 88]) (c_X12_in (-4) (by (first | decide | exact ⟨by omega, by omega⟩)) 0 (by (first | decide | exact ⟨by omega, by omega⟩)) 8 (by (first | decide | exact ⟨by omega, by omega⟩)) σ hI) ms_X12_82 rfl dX12_readLine_25 ⟨Nat.le_of_ble_eq_true rfl, Nat.le_of_ble_eq_true rfl⟩ ⟨Nat.le_refl _, Nat.le_refl _⟩ rfl (Nat.le_of_ble_eq_true rfl) rfl (fun z108 σ109 hz108 => ?_)
    obtain ⟨r111, rfl, hr111, rfl, q110_0⟩ := hz108
    replace q110_0 : (r111 = 1 ∧ (0 : Int) ≤ (-4 : Int) ∧ (-4 : Int) ≤ (8 : Int)) ∨ (r111 = 0 ∧ ¬ ((0 : Int) ≤ (-4 : Int) ∧ (-4 : Int) ≤ (8 : Int))) := q110_0
    refine j_st (st' := [vI r111, vR 88]) rfl ?_
    refine j_ifR_ne (pc := 28) (tgt := 43) ⟨by omega, by omega⟩ dX12_readLine_28 rfl (fun h112 => ?_) (fun h112 => ?_)
    · refine j_iconst (pc := 43) dX12_readLine_43 ?_
      refine j_goto (pc := 44) (tgt := 48) dX12_readLine_44 rfl ?_
      have gd : decide (¬ (1 : Int) = 0) = decide (0 ≤ mLS σ) := (decide_eq_true (by decide)).trans (decide_eq_true (by skip; omega)).symm
      refine j_iconst (pc := 48) dX12_readLine_48 ?_
      refine j_callV (pc := 49) (As := [vI 1, vI 2]) (st := []) (c_X12_needs hM 1 (by (first | decide | exact ⟨by omega, by omega⟩)) 2 (by (first | decide | exact ⟨by omega, by omega⟩)) σ hI) mv_X12_129 rfl rfl rfl (a_88 hM) dX12_readLine_49 ⟨Nat.le_of_ble_eq_true rfl, Nat.le_of_ble_eq_true rfl⟩ ⟨Nat.le_refl _, Nat.le_refl _⟩ rfl (Nat.le_of_ble_eq_true rfl) rfl (fun z113 σ114 hz113 => ?_)
      obtain ⟨rfl, hIσ114, hGσ114, q115_0, q115_1, q115_2⟩ := hz113
      replace q115_0 : (¬ (1 : Int) = 0 ∧ σ114 88 17 = σ 88 17) ∨ ((1 : Int) = 0 ∧ σ 88 17 = 0 ∧ σ114 88 17 = (2 : Int)) ∨ ((1 : Int) = 0 ∧ ¬ σ 88 17 = 0 ∧ σ114 88 17 = σ 88 17) := q115_0
      replace q115_1 : (¬ (1 : Int) = 0 ∧ σ114 88 17 = σ 88 17 ∧ σ114 88 18 = σ 88 18) ∨ ((1 : Int) = 0 ∧ σ 88 17 = 0 ∧ σ114 88 17 = (2 : Int) ∧ σ114 88 18 = σ 88 14) ∨ ((1 : Int) = 0 ∧ ¬ σ 88 17 = 0 ∧ σ114 88 17 = σ 88 17 ∧ σ114 88 18 = σ 88 18) := q115_1
      replace q115_2 : aM σ114 = need (decide (¬ (1 : Int) = 0)) (2 : Int) (aM σ) := q115_2
      have hFσ114 : tw_F (fun c j => (c = 88 ∧ (j = 9 ∨ j = 10 ∨ j = 13 ∨ j = 14 ∨ j = 15 ∨ j = 16 ∨ j = 17 ∨ j = 18)) ∨ (93 ≤ c ∧ c < 98)) σ σ114 := tw_F_tr (tw_F_rf) hGσ114 (fun c j q => (show (c = 88 ∧ (j = 9 ∨ j = 10 ∨ j = 13 ∨ j = 14 ∨ j = 15 ∨ j = 16 ∨ j = 17 ∨ j = 18)) ∨ (93 ≤ c ∧ c < 98) from by replace q : (c = 88 ∧ (j = 17 ∨ j = 18)) := q; exact (Or.inl ⟨q.1, (q.2.elim (fun z => (Or.inr (Or.inr (Or.inr (Or.inr (Or.inr (Or.inr (Or.inl z)))))))) (fun z => (Or.inr (Or.inr (Or.inr (Or.inr (Or.inr (Or.inr (Or.inr z)))))))))⟩)))
      refine j_st (st' := []) rfl ?_
      refine j_ls (ls' := [(0, vR 88), (1, vI (-4))]) [0, 1] rfl ?_
      have y117 : σ114 88 13 = σ 88 13 := (hGσ114 88 13 (show ¬ ((88 = 88 ∧ (13 = 17 ∨ 13 = 18))) from by decide))
      have f118 : (0 : Int) ≤ σ 88 13 ∧ σ 88 13 ≤ 400 := hI 88 13
      exact (l_X12_readLine hM σ hI hq0 hq1 hq2 ((4) + 1)).1 (-4) (by (first | decide | exact ⟨by omega, by omega⟩)) σ114 hIσ114 hFσ114 (show DQ σ114 from DQ_F hq0 (fun j => (hGσ114 93 j (show ¬ ((93 = 88 ∧ (j = 17 ∨ j = 18))) from fun h => absurd h.1 (by decide)))) (fun j => (hGσ114 94 j (show ¬ ((94 = 88 ∧ (j = 17 ∨ j = 18))) from fun h => absurd h.1 (by decide)))) (by omega)) (show ¬ σ114 88 17 = 0 ∨ (0 ≤ (-4 : Int) ∧ (-4 : Int) ≤ 8) ∨ (-4 : Int) = 10 ∨ (-4 : Int) = 11 from (by clear q115_1 q115_2; omega)) (show σ 88 13 ≤ σ114 88 13 from (by clear q110_0 q115_0 q115_1 q115_2; omega)) (show (mLS σ = -1 ∧ ¬ σ114 88 17 = 0) ∨ (mLS σ = (-4 : Int) ∧ 0 ≤ (-4 : Int) ∧ (-4 : Int) ≤ 8 ∧ ¬ (-4 : Int) = 6) ∨ (mLS σ = 9 ∧ (-4 : Int) = 10) ∨ (mLS σ = 10 ∧ (-4 : Int) = 11) from (by clear q115_1 q115_2; omega)) (show aM σ114 = lS1 σ from (by unfold lS1; exact (q115_2).trans (need_cg (fun _ => gd)))) (Nat.lt_succ_self _)
    · refine j_iload_n (pc := 31) dX12_readLine_31 rfl rfl ?_
      refine j_bipush (pc := 32) dX12_readLine_32 rfl ?_
      refine j_icmpR_eq (pc := 34) (tgt := 43) ⟨by omega, by omega⟩ ⟨by omega, by omega⟩ dX12_readLine_34 rfl (fun h119 => by exfalso; omega) (fun h119 => ?_)
      refine j_iload_n (pc := 37) dX12_readLine_37 rfl rfl ?_
      refine j_bipush (pc := 38) dX12_readLine_38 rfl ?_
      refine j_icmpR_ne (pc := 40) (tgt := 47) ⟨by omega, by omega⟩ ⟨by omega, by omega⟩ dX12_readLine_40 rfl (fun h120 => ?_) (fun h120 => by exfalso; omega)
      refine j_iconst (pc := 47) dX12_readLine_47 ?_
      have gd : decide (¬ (0 : Int) = 0) = decide (0 ≤ mLS σ) := (decide_eq_false (by decide)).trans (decide_eq_false (by skip; omega)).symm
      refine j_iconst (pc := 48) dX12_readLine_48 ?_
      refine j_callV (pc := 49) (As := [vI 0, vI 2]) (st := []) (c_X12_needs hM 0 (by (first | decide | exact ⟨by omega, by omega⟩)) 2 (by (first | decide | exact ⟨by omega, by omega⟩)) σ hI) mv_X12_129 rfl rfl rfl (a_88 hM) dX12_readLine_49 ⟨Nat.le_of_ble_eq_true rfl, Nat.le_of_ble_eq_true rfl⟩ ⟨Nat.le_refl _, Nat.le_refl _⟩ rfl (Nat.le_of_ble_eq_true rfl) rfl (fun z121 σ122 hz121 => ?_)
      obtain ⟨rfl, hIσ122, hGσ122, q123_0, q123_1, q123_2⟩ := hz121
      replace q123_0 : (¬ (0 : Int) = 0 ∧ σ122 88 17 = σ 88 17) ∨ ((0 : Int) = 0 ∧ σ 88 17 = 0 ∧ σ122 88 17 = (2 : Int)) ∨ ((0 : Int) = 0 ∧ ¬ σ 88 17 = 0 ∧ σ122 88 17 = σ 88 17) := q123_0
      replace q123_1 : (¬ (0 : Int) = 0 ∧ σ122 88 17 = σ 88 17 ∧ σ122 88 18 = σ 88 18) ∨ ((0 : Int) = 0 ∧ σ 88 17 = 0 ∧ σ122 88 17 = (2 : Int) ∧ σ122 88 18 = σ 88 14) ∨ ((0 : Int) = 0 ∧ ¬ σ 88 17 = 0 ∧ σ122 88 17 = σ 88 17 ∧ σ122 88 18 = σ 88 18) := q123_1
      replace q123_2 : aM σ122 = need (decide (¬ (0 : Int) = 0)) (2 : Int) (aM σ) := q123_2
      have hFσ122 : tw_F (fun c j => (c = 88 ∧ (j = 9 ∨ j = 10 ∨ j = 13 ∨ j = 14 ∨ j = 15 ∨ j = 16 ∨ j = 17 ∨ j = 18)) ∨ (93 ≤ c ∧ c < 98)) σ σ122 := tw_F_tr (tw_F_rf) hGσ122 (fun c j q => (show (c = 88 ∧ (j = 9 ∨ j = 10 ∨ j = 13 ∨ j = 14 ∨ j = 15 ∨ j = 16 ∨ j = 17 ∨ j = 18)) ∨ (93 ≤ c ∧ c < 98) from by replace q : (c = 88 ∧ (j = 17 ∨ j = 18)) := q; exact (Or.inl ⟨q.1, (q.2.elim (fun z => (Or.inr (Or.inr (Or.inr (Or.inr (Or.inr (Or.inr (Or.inl z)))))))) (fun z => (Or.inr (Or.inr (Or.inr (Or.inr (Or.inr (Or.inr (Or.inr z)))))))))⟩)))
      refine j_st (st' := []) rfl ?_
      refine j_ls (ls' := [(0, vR 88), (1, vI (-4))]) [0, 1] rfl ?_
      have y125 : σ122 88 13 = σ 88 13 := (hGσ122 88 13 (show ¬ ((88 = 88 ∧ (13 = 17 ∨ 13 = 18))) from by decide))
      have f126 : (0 : Int) ≤ σ 88 13 ∧ σ 88 13 ≤ 400 := hI 88 13
      exact (l_X12_readLine hM σ hI hq0 hq1 hq2 ((4) + 1)).1 (-4) (by (first | decide | exact ⟨by omega, by omega⟩)) σ122 hIσ122 hFσ122 (show DQ σ122 from DQ_F hq0 (fun j => (hGσ122 93 j (show ¬ ((93 = 88 ∧ (j = 17 ∨ j = 18))) from fun h => absurd h.1 (by decide)))) (fun j => (hGσ122 94 j (show ¬ ((94 = 88 ∧ (j = 17 ∨ j = 18))) from fun h => absurd h.1 (by decide)))) (by omega)) (show ¬ σ122 88 17 = 0 ∨ (0 ≤ (-4 : Int) ∧ (-4 : Int) ≤ 8) ∨ (-4 : Int) = 10 ∨ (-4 : Int) = 11 from (by clear q123_1 q123_2; omega)) (show σ 88 13 ≤ σ122 88 13 from (by clear q110_0 q123_0 q123_1 q123_2; omega)) (show (mLS σ = -1 ∧ ¬ σ122 88 17 = 0) ∨ (mLS σ = (-4 : Int) ∧ 0 ≤ (-4 : Int) ∧ (-4 : Int) ≤ 8 ∧ ¬ (-4 : Int) = 6) ∨ (mLS σ = 9 ∧ (-4 : Int) = 10) ∨ (mLS σ = 10 ∧ (-4 : Int) = 11) from (by clear q123_1 q123_2; omega)) (show aM σ122 = lS1 σ from (by unfold lS1; exact (q123_2).trans (need_cg (fun _ => gd)))) (Nat.lt_succ_self _)
  · refine j_aload_n (pc := 8) dX12_readLine_8 rfl rfl ?_
    refine j_callV (pc := 9) (As := []) (st := []) (c_X12_nameNow hM σ hI) mv_X12_144 rfl rfl rfl (a_88 hM) dX12_readLine_9 ⟨Nat.le_of_ble_eq_true rfl, Nat.le_of_ble_eq_true rfl⟩ ⟨Nat.le_refl _, Nat.le_refl _⟩ rfl (Nat.le_of_ble_eq_true rfl) rfl (fun z127 σ128 hz127 => ?_)
    obtain ⟨r130, rfl, hr130, rfl, q129_0⟩ := hz127
    replace q129_0 : (lnm (fM σ) 1 (σ 88 14) (σ 88 13) = -1 ∧ (r130 = -4 ∨ 20 ≤ r130)) ∨ (lnm (fM σ) 1 (σ 88 14) (σ 88 13) = 9 ∧ r130 = 10) ∨ (lnm (fM σ) 1 (σ 88 14) (σ 88 13) = 10 ∧ r130 = 11) ∨ (0 ≤ lnm (fM σ) 1 (σ 88 14) (σ 88 13) ∧ lnm (fM σ) 1 (σ 88 14) (σ 88 13) ≤ 8 ∧ ¬ lnm (fM σ) 1 (σ 88 14) (σ 88 13) = 6 ∧ r130 = lnm (fM σ) 1 (σ 88 14) (σ 88 13)) := q129_0
    refine j_st (st' := [vI r130]) rfl ?_
    have ls : mLS σ = lnm (fM σ) 1 (σ 88 14) (σ 88 13) := by unfold mLS; rw [show σ 88 15 = 1 from by omega]
    refine j_goto (pc := 12) (tgt := 17) dX12_readLine_12 rfl ?_
    refine j_istore_n (pc := 17) (i := 1) (ls' := [(0, vR 88), (1, vI r130)]) [1, 0] dX12_readLine_17 rfl (Nat.le_of_ble_eq_true rfl) rfl rfl ?_
    refine j_aload_n (pc := 18) dX12_readLine_18 rfl rfl ?_
    refine j_iload_n (pc := 19) dX12_readLine_19 rfl rfl ?_
    refine j_i2l (pc := 20) dX12_readLine_20 ?_
    rw [w32_eq (a := r130) (by omega) (by omega)]
    refine j_lconst (pc := 21) (z := 0) dX12_readLine_21 rfl ?_
    refine j_ldc2 (pc := 22) (z := 8) dX12_readLine_22 (tw_inc tm_6 (i := 172) rfl rfl) ?_
    refine j_callS (pc := 25) (As := [vL r130, vL 0, vL 8]) (st := [vR 88]) (c_X12_in r130 ⟨by omega, by omega⟩ 0 (by (first | decide | exact ⟨by omega, by omega⟩)) 8 (by (first | decide | exact ⟨by omega, by omega⟩)) σ hI) ms_X12_82 rfl dX12_readLine_25 ⟨Nat.le_of_ble_eq_true rfl, Nat.le_of_ble_eq_true rfl⟩ ⟨Nat.le_refl _, Nat.le_refl _⟩ rfl (Nat.le_of_ble_eq_true rfl) rfl (fun z131 σ132 hz131 => ?_)
    obtain ⟨r134, rfl, hr134, rfl, q133_0⟩ := hz131
    replace q133_0 : (r134 = 1 ∧ (0 : Int) ≤ r130 ∧ r130 ≤ (8 : Int)) ∨ (r134 = 0 ∧ ¬ ((0 : Int) ≤ r130 ∧ r130 ≤ (8 : Int))) := q133_0
    refine j_st (st' := [vI r134, vR 88]) rfl ?_
    refine j_ifR_ne (pc := 28) (tgt := 43) ⟨by omega, by omega⟩ dX12_readLine_28 rfl (fun h135 => ?_) (fun h135 => ?_)
    · refine j_iconst (pc := 43) dX12_readLine_43 ?_
      refine j_goto (pc := 44) (tgt := 48) dX12_readLine_44 rfl ?_
      have gd : decide (¬ (1 : Int) = 0) = decide (0 ≤ mLS σ) := (decide_eq_true (by decide)).trans (decide_eq_true (by skip; omega)).symm
      refine j_iconst (pc := 48) dX12_readLine_48 ?_
      refine j_callV (pc := 49) (As := [vI 1, vI 2]) (st := []) (c_X12_needs hM 1 (by (first | decide | exact ⟨by omega, by omega⟩)) 2 (by (first | decide | exact ⟨by omega, by omega⟩)) σ hI) mv_X12_129 rfl rfl rfl (a_88 hM) dX12_readLine_49 ⟨Nat.le_of_ble_eq_true rfl, Nat.le_of_ble_eq_true rfl⟩ ⟨Nat.le_refl _, Nat.le_refl _⟩ rfl (Nat.le_of_ble_eq_true rfl) rfl (fun z136 σ137 hz136 => ?_)
      obtain ⟨rfl, hIσ137, hGσ137, q138_0, q138_1, q138_2⟩ := hz136
      replace q138_0 : (¬ (1 : Int) = 0 ∧ σ137 88 17 = σ 88 17) ∨ ((1 : Int) = 0 ∧ σ 88 17 = 0 ∧ σ137 88 17 = (2 : Int)) ∨ ((1 : Int) = 0 ∧ ¬ σ 88 17 = 0 ∧ σ137 88 17 = σ 88 17) := q138_0
      replace q138_1 : (¬ (1 : Int) = 0 ∧ σ137 88 17 = σ 88 17 ∧ σ137 88 18 = σ 88 18) ∨ ((1 : Int) = 0 ∧ σ 88 17 = 0 ∧ σ137 88 17 = (2 : Int) ∧ σ137 88 18 = σ 88 14) ∨ ((1 : Int) = 0 ∧ ¬ σ 88 17 = 0 ∧ σ137 88 17 = σ 88 17 ∧ σ137 88 18 = σ 88 18) := q138_1
      replace q138_2 : aM σ137 = need (decide (¬ (1 : Int) = 0)) (2 : Int) (aM σ) := q138_2
      have hFσ137 : tw_F (fun c j => (c = 88 ∧ (j = 9 ∨ j = 10 ∨ j = 13 ∨ j = 14 ∨ j = 15 ∨ j = 16 ∨ j = 17 ∨ j = 18)) ∨ (93 ≤ c ∧ c < 98)) σ σ137 := tw_F_tr (tw_F_rf) hGσ137 (fun c j q => (show (c = 88 ∧ (j = 9 ∨ j = 10 ∨ j = 13 ∨ j = 14 ∨ j = 15 ∨ j = 16 ∨ j = 17 ∨ j = 18)) ∨ (93 ≤ c ∧ c < 98) from by replace q : (c = 88 ∧ (j = 17 ∨ j = 18)) := q; exact (Or.inl ⟨q.1, (q.2.elim (fun z => (Or.inr (Or.inr (Or.inr (Or.inr (Or.inr (Or.inr (Or.inl z)))))))) (fun z => (Or.inr (Or.inr (Or.inr (Or.inr (Or.inr (Or.inr (Or.inr z)))))))))⟩)))
      refine j_st (st' := []) rfl ?_
      refine j_ls (ls' := [(0, vR 88), (1, vI r130)]) [0, 1] rfl ?_
      have y140 : σ137 88 13 = σ 88 13 := (hGσ137 88 13 (show ¬ ((88 = 88 ∧ (13 = 17 ∨ 13 = 18))) from by decide))
      have f141 : (0 : Int) ≤ σ 88 13 ∧ σ 88 13 ≤ 400 := hI 88 13
      exact (l_X12_readLine hM σ hI hq0 hq1 hq2 ((4) + 1)).1 r130 ⟨by omega, by omega⟩ σ137 hIσ137 hFσ137 (show DQ σ137 from DQ_F hq0 (fun j => (hGσ137 93 j (show ¬ ((93 = 88 ∧ (j = 17 ∨ j = 18))) from fun h => absurd h.1 (by decide)))) (fun j => (hGσ137 94 j (show ¬ ((94 = 88 ∧ (j = 17 ∨ j = 18))) from fun h => absurd h.1 (by decide)))) (by omega)) (show ¬ σ137 88 17 = 0 ∨ (0 ≤ r130 ∧ r130 ≤ 8) ∨ r130 = 10 ∨ r130 = 11 from (by clear q138_1 q138_2; omega)) (show σ 88 13 ≤ σ137 88 13 from (by clear q129_0 q133_0 q138_0 q138_1 q138_2; omega)) (show (mLS σ = -1 ∧ ¬ σ137 88 17 = 0) ∨ (mLS σ = r130 ∧ 0 ≤ r130 ∧ r130 ≤ 8 ∧ ¬ r130 = 6) ∨ (mLS σ = 9 ∧ r130 = 10) ∨ (mLS σ = 10 ∧ r130 = 11) from (by clear q138_1 q138_2; omega)) (show aM σ137 = lS1 σ from (by unfold lS1; exact (q138_2).trans (need_cg (fun _ => gd)))) (Nat.lt_succ_self _)
    · refine j_iload_n (pc := 31) dX12_readLine_31 rfl rfl ?_
      refine j_bipush (pc := 32) dX12_readLine_32 rfl ?_
      refine j_icmpR_eq (pc := 34) (tgt := 43) ⟨by omega, by omega⟩ ⟨by omega, by omega⟩ dX12_readLine_34 rfl (fun h142 => ?_) (fun h142 => ?_)
      · refine j_iconst (pc := 43) dX12_readLine_43 ?_
        refine j_goto (pc := 44) (tgt := 48) dX12_readLine_44 rfl ?_
        have gd : decide (¬ (1 : Int) = 0) = decide (0 ≤ mLS σ) := (decide_eq_true (by decide)).trans (decide_eq_true (by skip; omega)).symm
        refine j_iconst (pc := 48) dX12_readLine_48 ?_
        refine j_callV (pc := 49) (As := [vI 1, vI 2]) (st := []) (c_X12_needs hM 1 (by (first | decide | exact ⟨by omega, by omega⟩)) 2 (by (first | decide | exact ⟨by omega, by omega⟩)) σ hI) mv_X12_129 rfl rfl rfl (a_88 hM) dX12_readLine_49 ⟨Nat.le_of_ble_eq_true rfl, Nat.le_of_ble_eq_true rfl⟩ ⟨Nat.le_refl _, Nat.le_refl _⟩ rfl (Nat.le_of_ble_eq_true rfl) rfl (fun z143 σ144 hz143 => ?_)
        obtain ⟨rfl, hIσ144, hGσ144, q145_0, q145_1, q145_2⟩ := hz143
        replace q145_0 : (¬ (1 : Int) = 0 ∧ σ144 88 17 = σ 88 17) ∨ ((1 : Int) = 0 ∧ σ 88 17 = 0 ∧ σ144 88 17 = (2 : Int)) ∨ ((1 : Int) = 0 ∧ ¬ σ 88 17 = 0 ∧ σ144 88 17 = σ 88 17) := q145_0
        replace q145_1 : (¬ (1 : Int) = 0 ∧ σ144 88 17 = σ 88 17 ∧ σ144 88 18 = σ 88 18) ∨ ((1 : Int) = 0 ∧ σ 88 17 = 0 ∧ σ144 88 17 = (2 : Int) ∧ σ144 88 18 = σ 88 14) ∨ ((1 : Int) = 0 ∧ ¬ σ 88 17 = 0 ∧ σ144 88 17 = σ 88 17 ∧ σ144 88 18 = σ 88 18) := q145_1
        replace q145_2 : aM σ144 = need (decide (¬ (1 : Int) = 0)) (2 : Int) (aM σ) := q145_2
        have hFσ144 : tw_F (fun c j => (c = 88 ∧ (j = 9 ∨ j = 10 ∨ j = 13 ∨ j = 14 ∨ j = 15 ∨ j = 16 ∨ j = 17 ∨ j = 18)) ∨ (93 ≤ c ∧ c < 98)) σ σ144 := tw_F_tr (tw_F_rf) hGσ144 (fun c j q => (show (c = 88 ∧ (j = 9 ∨ j = 10 ∨ j = 13 ∨ j = 14 ∨ j = 15 ∨ j = 16 ∨ j = 17 ∨ j = 18)) ∨ (93 ≤ c ∧ c < 98) from by replace q : (c = 88 ∧ (j = 17 ∨ j = 18)) := q; exact (Or.inl ⟨q.1, (q.2.elim (fun z => (Or.inr (Or.inr (Or.inr (Or.inr (Or.inr (Or.inr (Or.inl z)))))))) (fun z => (Or.inr (Or.inr (Or.inr (Or.inr (Or.inr (Or.inr (Or.inr z)))))))))⟩)))
        refine j_st (st' := []) rfl ?_
        refine j_ls (ls' := [(0, vR 88), (1, vI r130)]) [0, 1] rfl ?_
        have y147 : σ144 88 13 = σ 88 13 := (hGσ144 88 13 (show ¬ ((88 = 88 ∧ (13 = 17 ∨ 13 = 18))) from by decide))
        have f148 : (0 : Int) ≤ σ 88 13 ∧ σ 88 13 ≤ 400 := hI 88 13
        exact (l_X12_readLine hM σ hI hq0 hq1 hq2 ((4) + 1)).1 r130 ⟨by omega, by omega⟩ σ144 hIσ144 hFσ144 (show DQ σ144 from DQ_F hq0 (fun j => (hGσ144 93 j (show ¬ ((93 = 88 ∧ (j = 17 ∨ j = 18))) from fun h => absurd h.1 (by decide)))) (fun j => (hGσ144 94 j (show ¬ ((94 = 88 ∧ (j = 17 ∨ j = 18))) from fun h => absurd h.1 (by decide)))) (by omega)) (show ¬ σ144 88 17 = 0 ∨ (0 ≤ r130 ∧ r130 ≤ 8) ∨ r130 = 10 ∨ r130 = 11 from (by clear q145_1 q145_2; omega)) (show σ 88 13 ≤ σ144 88 13 from (by clear q129_0 q133_0 q145_0 q145_1 q145_2; omega)) (show (mLS σ = -1 ∧ ¬ σ144 88 17 = 0) ∨ (mLS σ = r130 ∧ 0 ≤ r130 ∧ r130 ≤ 8 ∧ ¬ r130 = 6) ∨ (mLS σ = 9 ∧ r130 = 10) ∨ (mLS σ = 10 ∧ r130 = 11) from (by clear q145_1 q145_2; omega)) (show aM σ144 = lS1 σ from (by unfold lS1; exact (q145_2).trans (need_cg (fun _ => gd)))) (Nat.lt_succ_self _)
      · refine j_iload_n (pc := 37) dX12_readLine_37 rfl rfl ?_
        refine j_bipush (pc := 38) dX12_readLine_38 rfl ?_
        refine j_icmpR_ne (pc := 40) (tgt := 47) ⟨by omega, by omega⟩ ⟨by omega, by omega⟩ dX12_readLine_40 rfl (fun h149 => ?_) (fun h149 => ?_)
        · refine j_iconst (pc := 47) dX12_readLine_47 ?_
          have gd : decide (¬ (0 : Int) = 0) = decide (0 ≤ mLS σ) := (decide_eq_false (by decide)).trans (decide_eq_false (by skip; omega)).symm
          refine j_iconst (pc := 48) dX12_readLine_48 ?_
          refine j_callV (pc := 49) (As := [vI 0, vI 2]) (st := []) (c_X12_needs hM 0 (by (first | decide | exact ⟨by omega, by omega⟩)) 2 (by (first | decide | exact ⟨by omega, by omega⟩)) σ hI) mv_X12_129 rfl rfl rfl (a_88 hM) dX12_readLine_49 ⟨Nat.le_of_ble_eq_true rfl, Nat.le_of_ble_eq_true rfl⟩ ⟨Nat.le_refl _, Nat.le_refl _⟩ rfl (Nat.le_of_ble_eq_true rfl) rfl (fun z150 σ151 hz150 => ?_)
          obtain ⟨rfl, hIσ151, hGσ151, q152_0, q152_1, q152_2⟩ := hz150
          replace q152_0 : (¬ (0 : Int) = 0 ∧ σ151 88 17 = σ 88 17) ∨ ((0 : Int) = 0 ∧ σ 88 17 = 0 ∧ σ151 88 17 = (2 : Int)) ∨ ((0 : Int) = 0 ∧ ¬ σ 88 17 = 0 ∧ σ151 88 17 = σ 88 17) := q152_0
          replace q152_1 : (¬ (0 : Int) = 0 ∧ σ151 88 17 = σ 88 17 ∧ σ151 88 18 = σ 88 18) ∨ ((0 : Int) = 0 ∧ σ 88 17 = 0 ∧ σ151 88 17 = (2 : Int) ∧ σ151 88 18 = σ 88 14) ∨ ((0 : Int) = 0 ∧ ¬ σ 88 17 = 0 ∧ σ151 88 17 = σ 88 17 ∧ σ151 88 18 = σ 88 18) := q152_1
          replace q152_2 : aM σ151 = need (decide (¬ (0 : Int) = 0)) (2 : Int) (aM σ) := q152_2
          have hFσ151 : tw_F (fun c j => (c = 88 ∧ (j = 9 ∨ j = 10 ∨ j = 13 ∨ j = 14 ∨ j = 15 ∨ j = 16 ∨ j = 17 ∨ j = 18)) ∨ (93 ≤ c ∧ c < 98)) σ σ151 := tw_F_tr (tw_F_rf) hGσ151 (fun c j q => (show (c = 88 ∧ (j = 9 ∨ j = 10 ∨ j = 13 ∨ j = 14 ∨ j = 15 ∨ j = 16 ∨ j = 17 ∨ j = 18)) ∨ (93 ≤ c ∧ c < 98) from by replace q : (c = 88 ∧ (j = 17 ∨ j = 18)) := q; exact (Or.inl ⟨q.1, (q.2.elim (fun z => (Or.inr (Or.inr (Or.inr (Or.inr (Or.inr (Or.inr (Or.inl z)))))))) (fun z => (Or.inr (Or.inr (Or.inr (Or.inr (Or.inr (Or.inr (Or.inr z)))))))))⟩)))
          refine j_st (st' := []) rfl ?_
          refine j_ls (ls' := [(0, vR 88), (1, vI r130)]) [0, 1] rfl ?_
          have y154 : σ151 88 13 = σ 88 13 := (hGσ151 88 13 (show ¬ ((88 = 88 ∧ (13 = 17 ∨ 13 = 18))) from by decide))
          have f155 : (0 : Int) ≤ σ 88 13 ∧ σ 88 13 ≤ 400 := hI 88 13
          exact (l_X12_readLine hM σ hI hq0 hq1 hq2 ((4) + 1)).1 r130 ⟨by omega, by omega⟩ σ151 hIσ151 hFσ151 (show DQ σ151 from DQ_F hq0 (fun j => (hGσ151 93 j (show ¬ ((93 = 88 ∧ (j = 17 ∨ j = 18))) from fun h => absurd h.1 (by decide)))) (fun j => (hGσ151 94 j (show ¬ ((94 = 88 ∧ (j = 17 ∨ j = 18))) from fun h => absurd h.1 (by decide)))) (by omega)) (show ¬ σ151 88 17 = 0 ∨ (0 ≤ r130 ∧ r130 ≤ 8) ∨ r130 = 10 ∨ r130 = 11 from (by clear q152_1 q152_2; omega)) (show σ 88 13 ≤ σ151 88 13 from (by clear q129_0 q133_0 q152_0 q152_1 q152_2; omega)) (show (mLS σ = -1 ∧ ¬ σ151 88 17 = 0) ∨ (mLS σ = r130 ∧ 0 ≤ r130 ∧ r130 ≤ 8 ∧ ¬ r130 = 6) ∨ (mLS σ = 9 ∧ r130 = 10) ∨ (mLS σ = 10 ∧ r130 = 11) from (by clear q152_1 q152_2; omega)) (show aM σ151 = lS1 σ from (by unfold lS1; exact (q152_2).trans (need_cg (fun _ => gd)))) (Nat.lt_succ_self _)
        · refine j_iconst (pc := 43) dX12_readLine_43 ?_
          refine j_goto (pc := 44) (tgt := 48) dX12_readLine_44 rfl ?_
          have gd : decide (¬ (1 : Int) = 0) = decide (0 ≤ mLS σ) := (decide_eq_true (by decide)).trans (decide_eq_true (by skip; omega)).symm
          refine j_iconst (pc := 48) dX12_readLine_48 ?_
          refine j_callV (pc := 49) (As := [vI 1, vI 2]) (st := []) (c_X12_needs hM 1 (by (first | decide | exact ⟨by omega, by omega⟩)) 2 (by (first | decide | exact ⟨by omega, by omega⟩)) σ hI) mv_X12_129 rfl rfl rfl (a_88 hM) dX12_readLine_49 ⟨Nat.le_of_ble_eq_true rfl, Nat.le_of_ble_eq_true rfl⟩ ⟨Nat.le_refl _, Nat.le_refl _⟩ rfl (Nat.le_of_ble_eq_true rfl) rfl (fun z156 σ157 hz156 => ?_)
          obtain ⟨rfl, hIσ157, hGσ157, q158_0, q158_1, q158_2⟩ := hz156
          replace q158_0 : (¬ (1 : Int) = 0 ∧ σ157 88 17 = σ 88 17) ∨ ((1 : Int) = 0 ∧ σ 88 17 = 0 ∧ σ157 88 17 = (2 : Int)) ∨ ((1 : Int) = 0 ∧ ¬ σ 88 17 = 0 ∧ σ157 88 17 = σ 88 17) := q158_0
          replace q158_1 : (¬ (1 : Int) = 0 ∧ σ157 88 17 = σ 88 17 ∧ σ157 88 18 = σ 88 18) ∨ ((1 : Int) = 0 ∧ σ 88 17 = 0 ∧ σ157 88 17 = (2 : Int) ∧ σ157 88 18 = σ 88 14) ∨ ((1 : Int) = 0 ∧ ¬ σ 88 17 = 0 ∧ σ157 88 17 = σ 88 17 ∧ σ157 88 18 = σ 88 18) := q158_1
          replace q158_2 : aM σ157 = need (decide (¬ (1 : Int) = 0)) (2 : Int) (aM σ) := q158_2
          have hFσ157 : tw_F (fun c j => (c = 88 ∧ (j = 9 ∨ j = 10 ∨ j = 13 ∨ j = 14 ∨ j = 15 ∨ j = 16 ∨ j = 17 ∨ j = 18)) ∨ (93 ≤ c ∧ c < 98)) σ σ157 := tw_F_tr (tw_F_rf) hGσ157 (fun c j q => (show (c = 88 ∧ (j = 9 ∨ j = 10 ∨ j = 13 ∨ j = 14 ∨ j = 15 ∨ j = 16 ∨ j = 17 ∨ j = 18)) ∨ (93 ≤ c ∧ c < 98) from by replace q : (c = 88 ∧ (j = 17 ∨ j = 18)) := q; exact (Or.inl ⟨q.1, (q.2.elim (fun z => (Or.inr (Or.inr (Or.inr (Or.inr (Or.inr (Or.inr (Or.inl z)))))))) (fun z => (Or.inr (Or.inr (Or.inr (Or.inr (Or.inr (Or.inr (Or.inr z)))))))))⟩)))
          refine j_st (st' := []) rfl ?_
          refine j_ls (ls' := [(0, vR 88), (1, vI r130)]) [0, 1] rfl ?_
          have y160 : σ157 88 13 = σ 88 13 := (hGσ157 88 13 (show ¬ ((88 = 88 ∧ (13 = 17 ∨ 13 = 18))) from by decide))
          have f161 : (0 : Int) ≤ σ 88 13 ∧ σ 88 13 ≤ 400 := hI 88 13
          exact (l_X12_readLine hM σ hI hq0 hq1 hq2 ((4) + 1)).1 r130 ⟨by omega, by omega⟩ σ157 hIσ157 hFσ157 (show DQ σ157 from DQ_F hq0 (fun j => (hGσ157 93 j (show ¬ ((93 = 88 ∧ (j = 17 ∨ j = 18))) from fun h => absurd h.1 (by decide)))) (fun j => (hGσ157 94 j (show ¬ ((94 = 88 ∧ (j = 17 ∨ j = 18))) from fun h => absurd h.1 (by decide)))) (by omega)) (show ¬ σ157 88 17 = 0 ∨ (0 ≤ r130 ∧ r130 ≤ 8) ∨ r130 = 10 ∨ r130 = 11 from (by clear q158_1 q158_2; omega)) (show σ 88 13 ≤ σ157 88 13 from (by clear q129_0 q133_0 q158_0 q158_1 q158_2; omega)) (show (mLS σ = -1 ∧ ¬ σ157 88 17 = 0) ∨ (mLS σ = r130 ∧ 0 ≤ r130 ∧ r130 ≤ 8 ∧ ¬ r130 = 6) ∨ (mLS σ = 9 ∧ r130 = 10) ∨ (mLS σ = 10 ∧ r130 = 11) from (by clear q158_1 q158_2; omega)) (show aM σ157 = lS1 σ from (by unfold lS1; exact (q158_2).trans (need_cg (fun _ => gd)))) (Nat.lt_succ_self _)
