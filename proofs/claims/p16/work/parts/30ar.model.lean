/-! 30ar.model -/
theorem dX12_findBolts_0 : decode cX12_findBolts 0 = .ok (.aload_n 0, 1) := by decide +kernel
theorem dX12_findBolts_1 : decode cX12_findBolts 1 = .ok (.getfield 17, 3) := by decide +kernel
theorem dX12_findBolts_4 : decode cX12_findBolts 4 = .ok (.iconst 0, 1) := by decide +kernel
theorem dX12_findBolts_5 : decode cX12_findBolts 5 = .ok (.iaload, 1) := by decide +kernel
theorem dX12_findBolts_6 : decode cX12_findBolts 6 = .ok (.istore_n 1, 1) := by decide +kernel
theorem dX12_findBolts_7 : decode cX12_findBolts 7 = .ok (.aload_n 0, 1) := by decide +kernel
theorem dX12_findBolts_8 : decode cX12_findBolts 8 = .ok (.iload_n 1, 1) := by decide +kernel
theorem dX12_findBolts_9 : decode cX12_findBolts 9 = .ok (.aload_n 0, 1) := by decide +kernel
theorem dX12_findBolts_10 : decode cX12_findBolts 10 = .ok (.getfield 17, 3) := by decide +kernel
theorem dX12_findBolts_13 : decode cX12_findBolts 13 = .ok (.bipush 8, 2) := by decide +kernel
theorem dX12_findBolts_15 : decode cX12_findBolts 15 = .ok (.iaload, 1) := by decide +kernel
theorem dX12_findBolts_16 : decode cX12_findBolts 16 = .ok (.if_icmp .gt 7, 3) := by decide +kernel
theorem dX12_findBolts_19 : decode cX12_findBolts 19 = .ok (.iconst 0, 1) := by decide +kernel
theorem dX12_findBolts_20 : decode cX12_findBolts 20 = .ok (.goto 5, 3) := by decide +kernel
theorem dX12_findBolts_23 : decode cX12_findBolts 23 = .ok (.bipush (-4), 2) := by decide +kernel
theorem dX12_findBolts_25 : decode cX12_findBolts 25 = .ok (.putfield 363, 3) := by decide +kernel
theorem dX12_findBolts_28 : decode cX12_findBolts 28 = .ok (.aload_n 0, 1) := by decide +kernel
theorem dX12_findBolts_29 : decode cX12_findBolts 29 = .ok (.getfield 363, 3) := by decide +kernel
theorem dX12_findBolts_32 : decode cX12_findBolts 32 = .ok (.ifCond .ne 4, 3) := by decide +kernel
theorem dX12_findBolts_35 : decode cX12_findBolts 35 = .ok (.return_, 1) := by decide +kernel
theorem dX12_findBolts_36 : decode cX12_findBolts 36 = .ok (.aload_n 0, 1) := by decide +kernel
theorem dX12_findBolts_37 : decode cX12_findBolts 37 = .ok (.invokevirtual 366, 3) := by decide +kernel
theorem dX12_findBolts_40 : decode cX12_findBolts 40 = .ok (.iconst 0, 1) := by decide +kernel
theorem dX12_findBolts_41 : decode cX12_findBolts 41 = .ok (.istore_n 2, 1) := by decide +kernel
theorem dX12_findBolts_42 : decode cX12_findBolts 42 = .ok (.iload_n 1, 1) := by decide +kernel
theorem dX12_findBolts_43 : decode cX12_findBolts 43 = .ok (.istore_n 3, 1) := by decide +kernel
theorem dX12_findBolts_44 : decode cX12_findBolts 44 = .ok (.iload_n 3, 1) := by decide +kernel
theorem dX12_findBolts_45 : decode cX12_findBolts 45 = .ok (.ifCond .le 83, 3) := by decide +kernel
theorem dX12_findBolts_48 : decode cX12_findBolts 48 = .ok (.aload_n 0, 1) := by decide +kernel
theorem dX12_findBolts_49 : decode cX12_findBolts 49 = .ok (.iload_n 3, 1) := by decide +kernel
theorem dX12_findBolts_50 : decode cX12_findBolts 50 = .ok (.invokevirtual 369, 3) := by decide +kernel
theorem dX12_findBolts_53 : decode cX12_findBolts 53 = .ok (.ifCond .eq 31, 3) := by decide +kernel
theorem dX12_findBolts_56 : decode cX12_findBolts 56 = .ok (.aload_n 0, 1) := by decide +kernel
theorem dX12_findBolts_57 : decode cX12_findBolts 57 = .ok (.getfield 363, 3) := by decide +kernel
theorem dX12_findBolts_60 : decode cX12_findBolts 60 = .ok (.bipush (-4), 2) := by decide +kernel
theorem dX12_findBolts_62 : decode cX12_findBolts 62 = .ok (.if_icmp .eq 18, 3) := by decide +kernel
theorem dX12_findBolts_65 : decode cX12_findBolts 65 = .ok (.aload_n 0, 1) := by decide +kernel
theorem dX12_findBolts_66 : decode cX12_findBolts 66 = .ok (.getfield 50, 3) := by decide +kernel
theorem dX12_findBolts_69 : decode cX12_findBolts 69 = .ok (.iload_n 3, 1) := by decide +kernel
theorem dX12_findBolts_70 : decode cX12_findBolts 70 = .ok (.iaload, 1) := by decide +kernel
theorem dX12_findBolts_71 : decode cX12_findBolts 71 = .ok (.iconst 1, 1) := by decide +kernel
theorem dX12_findBolts_72 : decode cX12_findBolts 72 = .ok (.iadd, 1) := by decide +kernel
theorem dX12_findBolts_73 : decode cX12_findBolts 73 = .ok (.aload_n 0, 1) := by decide +kernel
theorem dX12_findBolts_74 : decode cX12_findBolts 74 = .ok (.getfield 363, 3) := by decide +kernel
theorem dX12_findBolts_77 : decode cX12_findBolts 77 = .ok (.if_icmp .gt 7, 3) := by decide +kernel
theorem dX12_findBolts_80 : decode cX12_findBolts 80 = .ok (.iconst 1, 1) := by decide +kernel
theorem dX12_findBolts_81 : decode cX12_findBolts 81 = .ok (.goto 4, 3) := by decide +kernel
theorem dX12_findBolts_84 : decode cX12_findBolts 84 = .ok (.iconst 0, 1) := by decide +kernel
theorem dX12_findBolts_85 : decode cX12_findBolts 85 = .ok (.istore 4, 2) := by decide +kernel
theorem dX12_findBolts_87 : decode cX12_findBolts 87 = .ok (.aload_n 0, 1) := by decide +kernel
theorem dX12_findBolts_88 : decode cX12_findBolts 88 = .ok (.iload 4, 2) := by decide +kernel
theorem dX12_findBolts_90 : decode cX12_findBolts 90 = .ok (.ifCond .eq 14, 3) := by decide +kernel
theorem dX12_findBolts_93 : decode cX12_findBolts 93 = .ok (.aload_n 0, 1) := by decide +kernel
theorem dX12_findBolts_94 : decode cX12_findBolts 94 = .ok (.getfield 50, 3) := by decide +kernel
theorem dX12_findBolts_97 : decode cX12_findBolts 97 = .ok (.iload_n 3, 1) := by decide +kernel
theorem dX12_findBolts_98 : decode cX12_findBolts 98 = .ok (.iaload, 1) := by decide +kernel
theorem dX12_findBolts_99 : decode cX12_findBolts 99 = .ok (.iconst 1, 1) := by decide +kernel
theorem dX12_findBolts_100 : decode cX12_findBolts 100 = .ok (.iadd, 1) := by decide +kernel
theorem dX12_findBolts_101 : decode cX12_findBolts 101 = .ok (.goto 7, 3) := by decide +kernel
theorem dX12_findBolts_104 : decode cX12_findBolts 104 = .ok (.aload_n 0, 1) := by decide +kernel
theorem dX12_findBolts_105 : decode cX12_findBolts 105 = .ok (.getfield 363, 3) := by decide +kernel
theorem dX12_findBolts_108 : decode cX12_findBolts 108 = .ok (.putfield 363, 3) := by decide +kernel
theorem dX12_findBolts_111 : decode cX12_findBolts 111 = .ok (.iload 4, 2) := by decide +kernel
theorem dX12_findBolts_113 : decode cX12_findBolts 113 = .ok (.ifCond .eq 7, 3) := by decide +kernel
theorem dX12_findBolts_116 : decode cX12_findBolts 116 = .ok (.iload_n 3, 1) := by decide +kernel
theorem dX12_findBolts_117 : decode cX12_findBolts 117 = .ok (.goto 4, 3) := by decide +kernel
theorem dX12_findBolts_120 : decode cX12_findBolts 120 = .ok (.iload_n 2, 1) := by decide +kernel
theorem dX12_findBolts_121 : decode cX12_findBolts 121 = .ok (.istore_n 2, 1) := by decide +kernel
theorem dX12_findBolts_122 : decode cX12_findBolts 122 = .ok (.iinc 3 (-1), 3) := by decide +kernel
theorem dX12_findBolts_125 : decode cX12_findBolts 125 = .ok (.goto (-81), 3) := by decide +kernel
theorem dX12_findBolts_128 : decode cX12_findBolts 128 = .ok (.iload_n 2, 1) := by decide +kernel
theorem dX12_findBolts_129 : decode cX12_findBolts 129 = .ok (.istore_n 3, 1) := by decide +kernel
theorem dX12_findBolts_130 : decode cX12_findBolts 130 = .ok (.iconst 0, 1) := by decide +kernel
theorem dX12_findBolts_131 : decode cX12_findBolts 131 = .ok (.istore 4, 2) := by decide +kernel
theorem dX12_findBolts_133 : decode cX12_findBolts 133 = .ok (.iload 4, 2) := by decide +kernel
theorem dX12_findBolts_135 : decode cX12_findBolts 135 = .ok (.aload_n 0, 1) := by decide +kernel
theorem dX12_findBolts_136 : decode cX12_findBolts 136 = .ok (.getfield 363, 3) := by decide +kernel
theorem dX12_findBolts_139 : decode cX12_findBolts 139 = .ok (.if_icmp .ge 98, 3) := by decide +kernel
theorem dX12_findBolts_142 : decode cX12_findBolts 142 = .ok (.aload_n 0, 1) := by decide +kernel
theorem dX12_findBolts_143 : decode cX12_findBolts 143 = .ok (.getfield 53, 3) := by decide +kernel
theorem dX12_findBolts_146 : decode cX12_findBolts 146 = .ok (.iload 4, 2) := by decide +kernel
theorem dX12_findBolts_148 : decode cX12_findBolts 148 = .ok (.iload_n 3, 1) := by decide +kernel
theorem dX12_findBolts_149 : decode cX12_findBolts 149 = .ok (.iastore, 1) := by decide +kernel
theorem dX12_findBolts_150 : decode cX12_findBolts 150 = .ok (.iload_n 3, 1) := by decide +kernel
theorem dX12_findBolts_151 : decode cX12_findBolts 151 = .ok (.iconst 1, 1) := by decide +kernel
theorem dX12_findBolts_152 : decode cX12_findBolts 152 = .ok (.iadd, 1) := by decide +kernel
theorem dX12_findBolts_153 : decode cX12_findBolts 153 = .ok (.istore 5, 2) := by decide +kernel
theorem dX12_findBolts_155 : decode cX12_findBolts 155 = .ok (.iload 4, 2) := by decide +kernel
theorem dX12_findBolts_157 : decode cX12_findBolts 157 = .ok (.iconst 1, 1) := by decide +kernel
theorem dX12_findBolts_158 : decode cX12_findBolts 158 = .ok (.iadd, 1) := by decide +kernel
theorem dX12_findBolts_159 : decode cX12_findBolts 159 = .ok (.aload_n 0, 1) := by decide +kernel
theorem dX12_findBolts_160 : decode cX12_findBolts 160 = .ok (.getfield 363, 3) := by decide +kernel
theorem dX12_findBolts_163 : decode cX12_findBolts 163 = .ok (.if_icmp .ge 65, 3) := by decide +kernel
theorem dX12_findBolts_166 : decode cX12_findBolts 166 = .ok (.aload_n 0, 1) := by decide +kernel
theorem dX12_findBolts_167 : decode cX12_findBolts 167 = .ok (.getfield 50, 3) := by decide +kernel
theorem dX12_findBolts_170 : decode cX12_findBolts 170 = .ok (.iload 5, 2) := by decide +kernel
theorem dX12_findBolts_172 : decode cX12_findBolts 172 = .ok (.iaload, 1) := by decide +kernel
theorem dX12_findBolts_173 : decode cX12_findBolts 173 = .ok (.bipush (-4), 2) := by decide +kernel
theorem dX12_findBolts_175 : decode cX12_findBolts 175 = .ok (.if_icmp .eq 47, 3) := by decide +kernel
theorem dX12_findBolts_178 : decode cX12_findBolts 178 = .ok (.aload_n 0, 1) := by decide +kernel
theorem dX12_findBolts_179 : decode cX12_findBolts 179 = .ok (.getfield 50, 3) := by decide +kernel
theorem dX12_findBolts_182 : decode cX12_findBolts 182 = .ok (.iload 5, 2) := by decide +kernel
theorem dX12_findBolts_184 : decode cX12_findBolts 184 = .ok (.iaload, 1) := by decide +kernel
theorem dX12_findBolts_185 : decode cX12_findBolts 185 = .ok (.iconst 1, 1) := by decide +kernel
theorem dX12_findBolts_186 : decode cX12_findBolts 186 = .ok (.iadd, 1) := by decide +kernel
theorem dX12_findBolts_187 : decode cX12_findBolts 187 = .ok (.aload_n 0, 1) := by decide +kernel
theorem dX12_findBolts_188 : decode cX12_findBolts 188 = .ok (.getfield 50, 3) := by decide +kernel
theorem dX12_findBolts_191 : decode cX12_findBolts 191 = .ok (.iload_n 3, 1) := by decide +kernel
theorem dX12_findBolts_192 : decode cX12_findBolts 192 = .ok (.iaload, 1) := by decide +kernel
theorem dX12_findBolts_193 : decode cX12_findBolts 193 = .ok (.if_icmp .ne 29, 3) := by decide +kernel
theorem dX12_findBolts_196 : decode cX12_findBolts 196 = .ok (.aload_n 0, 1) := by decide +kernel
theorem dX12_findBolts_197 : decode cX12_findBolts 197 = .ok (.iload_n 3, 1) := by decide +kernel
theorem dX12_findBolts_198 : decode cX12_findBolts 198 = .ok (.iconst 1, 1) := by decide +kernel
theorem dX12_findBolts_199 : decode cX12_findBolts 199 = .ok (.iadd, 1) := by decide +kernel
theorem dX12_findBolts_200 : decode cX12_findBolts 200 = .ok (.iload 5, 2) := by decide +kernel
theorem dX12_findBolts_202 : decode cX12_findBolts 202 = .ok (.iconst 1, 1) := by decide +kernel
theorem dX12_findBolts_203 : decode cX12_findBolts 203 = .ok (.isub, 1) := by decide +kernel
theorem dX12_findBolts_204 : decode cX12_findBolts 204 = .ok (.iload_n 3, 1) := by decide +kernel
theorem dX12_findBolts_205 : decode cX12_findBolts 205 = .ok (.invokevirtual 359, 3) := by decide +kernel
theorem dX12_findBolts_208 : decode cX12_findBolts 208 = .ok (.ifCond .eq 14, 3) := by decide +kernel
theorem dX12_findBolts_211 : decode cX12_findBolts 211 = .ok (.aload_n 0, 1) := by decide +kernel
theorem dX12_findBolts_212 : decode cX12_findBolts 212 = .ok (.iload 5, 2) := by decide +kernel
theorem dX12_findBolts_214 : decode cX12_findBolts 214 = .ok (.iload 5, 2) := by decide +kernel
theorem dX12_findBolts_216 : decode cX12_findBolts 216 = .ok (.invokevirtual 356, 3) := by decide +kernel
theorem dX12_findBolts_219 : decode cX12_findBolts 219 = .ok (.ifCond .ne 9, 3) := by decide +kernel
theorem dX12_findBolts_222 : decode cX12_findBolts 222 = .ok (.iinc 5 1, 3) := by decide +kernel
theorem dX12_findBolts_225 : decode cX12_findBolts 225 = .ok (.goto (-70), 3) := by decide +kernel
theorem dX12_findBolts_228 : decode cX12_findBolts 228 = .ok (.iload 5, 2) := by decide +kernel
theorem dX12_findBolts_230 : decode cX12_findBolts 230 = .ok (.istore_n 3, 1) := by decide +kernel
theorem dX12_findBolts_231 : decode cX12_findBolts 231 = .ok (.iinc 4 1, 3) := by decide +kernel
theorem dX12_findBolts_234 : decode cX12_findBolts 234 = .ok (.goto (-101), 3) := by decide +kernel
theorem dX12_findBolts_237 : decode cX12_findBolts 237 = .ok (.return_, 1) := by decide +kernel
abbrev q_X12_findBolts  (σ : tw_M) : Option tw_V → tw_M → Prop := fun z τ => z = none ∧ tw_I τ ∧ tw_F (fun c j => (c = 88 ∧ (j = 19 ∨ j = 23 ∨ j = 34)) ∨ (102 ≤ c ∧ c < 104)) σ τ ∧ True
set_option maxHeartbeats 4000000 in
set_option maxRecDepth 100000 in
theorem l_X12_findBolts {G : tw_G} (hM : tw_isM G) (σ : tw_M) (hI : tw_I σ) : ∀ N_ : Nat, (∀ (f : Int) (hf : 0 ≤ f ∧ f ≤ 40) (b : Int) (hb : 0 ≤ b ∧ b ≤ 40) (τ : tw_M) (hIτ : tw_I τ) (hFτ : tw_F (fun c j => (c = 88 ∧ (j = 19 ∨ j = 23 ∨ j = 34)) ∨ (102 ≤ c ∧ c < 104)) σ τ) (i0 : ∀ j : Int, 1 ≤ j → j ≤ σ 91 0 → TOK (σ 91 0) (okB σ) (τ 102) j) (i1 : b ≤ σ 91 0) (i2 : (f = 0 ∧ τ 88 34 = -4) ∨ (1 ≤ f ∧ f ≤ σ 91 0 ∧ ¬ τ 102 f.toNat = -4 ∧ τ 88 34 = τ 102 f.toNat + 1)) (hm : (100000 + b).toNat < N_), tw_J G (tw_mt RX12 cX12_findBolts 6 none 5) (tw_E G (q_X12_findBolts σ)) 44 [(0, vR 88), (2, vI f), (3, vI b)] [] τ) ∧ (∀ (a : Int) (ha : 0 ≤ a ∧ a ≤ 41) (i : Int) (hi : 0 ≤ i ∧ i ≤ 40) (τ : tw_M) (hIτ : tw_I τ) (hFτ : tw_F (fun c j => (c = 88 ∧ (j = 19 ∨ j = 23 ∨ j = 34)) ∨ (102 ≤ c ∧ c < 104)) σ τ) (i0 : ∀ j : Int, 1 ≤ j → j ≤ σ 91 0 → TOK (σ 91 0) (okB σ) (τ 102) j) (i1 : τ 88 34 = -4 ∨ i = τ 88 34 ∨ (i < τ 88 34 ∧ 1 ≤ a ∧ a ≤ σ 91 0 ∧ τ 102 a.toNat = τ 88 34 - 1 - i)) (hm : (100 * (41 - i) + 50).toNat < N_), tw_J G (tw_mt RX12 cX12_findBolts 6 none 5) (tw_E G (q_X12_findBolts σ)) 133 [(0, vR 88), (3, vI a), (4, vI i)] [] τ) ∧ (∀ (a : Int) (ha : 1 ≤ a ∧ a ≤ 40) (i : Int) (hi : 0 ≤ i ∧ i ≤ 39) (c : Int) (hc : 1 ≤ c ∧ c ≤ 41) (τ : tw_M) (hIτ : tw_I τ) (hFτ : tw_F (fun c j => (c = 88 ∧ (j = 19 ∨ j = 23 ∨ j = 34)) ∨ (102 ≤ c ∧ c < 104)) σ τ) (i0 : ∀ j : Int, 1 ≤ j → j ≤ σ 91 0 → TOK (σ 91 0) (okB σ) (τ 102) j) (i1 : i < τ 88 34 ∧ a ≤ σ 91 0 ∧ τ 102 a.toNat = τ 88 34 - 1 - i) (i2 : a < c) (i3 : i + 1 = τ 88 34 ∨ TW (σ 91 0) (okB σ) (τ 102) a c) (hm : (100 * (41 - i) + 41 - c).toNat < N_), tw_J G (tw_mt RX12 cX12_findBolts 6 none 5) (tw_E G (q_X12_findBolts σ)) 155 [(0, vR 88), (3, vI a), (4, vI i), (5, vI c)] [] τ) := by
  intro N_
  induction N_ with
  | zero => exact ⟨fun f hf b hb τ hIτ hFτ i0 i1 i2 hm => absurd hm (Nat.not_lt_zero _), fun a ha i hi τ hIτ hFτ i0 i1 hm => absurd hm (Nat.not_lt_zero _), fun a ha i hi c hc τ hIτ hFτ i0 i1 i2 i3 hm => absurd hm (Nat.not_lt_zero _)⟩
  | succ N_ ih =>
    refine ⟨?_, ?_, ?_⟩
    · intro f hf b hb τ hIτ hFτ i0 i1 i2 hm
      have ft : (1 : Int) ≤ σ 91 0 ∧ σ 91 0 ≤ 40 := hI 91 0
      have f91 := hFτ 91 0 (show ¬ ((91 = 88 ∧ (0 = 19 ∨ 0 = 23 ∨ 0 = 34)) ∨ (102 ≤ 91 ∧ 91 < 104)) from by decide)
      refine j_iload_n (pc := 44) dX12_findBolts_44 rfl rfl ?_
      refine j_ifR_le (pc := 45) (tgt := 128) ⟨by omega, by omega⟩ dX12_findBolts_45 rfl (fun h1 => ?_) (fun h1 => ?_)
      · have b9 : f = 0 ∨ 0 ≤ τ 102 f.toNat := by
          rcases i2 with ⟨q, _⟩ | ⟨q1, q2, q3, q4⟩
          · exact Or.inl q
          · exact Or.inr (TOK_in (i0 f (by omega) (by omega)) (by omega) q3).1
        refine j_iload_n (pc := 128) dX12_findBolts_128 rfl rfl ?_
        refine j_istore_n (pc := 129) (i := 3) (ls' := [(0, vR 88), (3, vI f)]) [1, 0] dX12_findBolts_129 rfl (Nat.le_of_ble_eq_true rfl) rfl rfl ?_
        refine j_iconst (pc := 130) dX12_findBolts_130 ?_
        refine j_istore (pc := 131) (i := 4) (ls' := [(0, vR 88), (3, vI f), (4, vI 0)]) [1, 2, 0] dX12_findBolts_131 (Nat.le_of_ble_eq_true rfl) rfl rfl ?_
        refine j_ls (ls' := [(0, vR 88), (3, vI f), (4, vI 0)]) [0, 1, 2] rfl ?_
        exact ih.2.1 f ⟨by omega, by omega⟩ 0 (by (first | decide | exact ⟨by omega, by omega⟩)) τ hIτ hFτ (show ∀ j : Int, 1 ≤ j → j ≤ σ 91 0 → TOK (σ 91 0) (okB σ) (τ 102) j from (fun j h1 h2 => TOK_F (fun x => rfl) (i0 j h1 h2))) (show τ 88 34 = -4 ∨ (0 : Int) = τ 88 34 ∨ ((0 : Int) < τ 88 34 ∧ 1 ≤ f ∧ f ≤ σ 91 0 ∧ τ 102 f.toNat = τ 88 34 - 1 - (0 : Int)) from by omega) (show (100 * (41 - (0 : Int)) + 50).toNat < N_ from by omega)
      · refine j_aload_n (pc := 48) dX12_findBolts_48 rfl rfl ?_
        refine j_iload_n (pc := 49) dX12_findBolts_49 rfl rfl ?_
        refine j_callV (pc := 50) (As := [vI b]) (st := []) (c_X12_canBegin hM b ⟨by omega, by omega⟩ τ hIτ) mv_X12_369 rfl rfl rfl (a_88 hM) dX12_findBolts_50 ⟨Nat.le_of_ble_eq_true rfl, Nat.le_of_ble_eq_true rfl⟩ ⟨Nat.le_refl _, Nat.le_refl _⟩ rfl (Nat.le_of_ble_eq_true rfl) rfl (fun z2 σ3 hz2 => ?_)
        obtain ⟨r5, rfl, hr5, hIσ3, hGσ3, q4_0⟩ := hz2
        replace q4_0 : r5 = 0 ∨ ¬ τ 102 b.toNat = -4 := q4_0
        have hFσ3 : tw_F (fun c j => (c = 88 ∧ (j = 19 ∨ j = 23 ∨ j = 34)) ∨ (102 ≤ c ∧ c < 104)) σ σ3 := tw_F_tr hFτ hGσ3 (fun c j q => (show (c = 88 ∧ (j = 19 ∨ j = 23 ∨ j = 34)) ∨ (102 ≤ c ∧ c < 104) from by replace q : (c = 88 ∧ (j = 19 ∨ j = 23)) := q; exact (Or.inl ⟨q.1, (q.2.elim (fun z => (Or.inl z)) (fun z => (Or.inr (Or.inl z))))⟩)))
        refine j_st (st' := [vI r5]) rfl ?_
        refine j_ifR_eq (pc := 53) (tgt := 84) ⟨by omega, by omega⟩ dX12_findBolts_53 rfl (fun h6 => ?_) (fun h6 => ?_)
        · refine j_iconst (pc := 84) dX12_findBolts_84 ?_
          refine j_istore (pc := 85) (i := 4) (ls' := [(0, vR 88), (2, vI f), (3, vI b), (4, vI 0)]) [1, 2, 3, 0] dX12_findBolts_85 (Nat.le_of_ble_eq_true rfl) rfl rfl ?_
          refine j_aload_n (pc := 87) dX12_findBolts_87 rfl rfl ?_
          refine j_iload (pc := 88) dX12_findBolts_88 rfl ?_
          refine j_ifR_eq (pc := 90) (tgt := 104) ⟨by omega, by omega⟩ dX12_findBolts_90 rfl (fun h7 => ?_) (fun h7 => by exfalso; omega)
          refine j_aload_n (pc := 104) dX12_findBolts_104 rfl rfl ?_
          refine j_getI (pc := 105) fl_X12_363 dX12_findBolts_105 (a_88 hM) rfl ?_
          refine j_topV (show σ3 88 34 = τ 88 34 from (hGσ3 88 34 (show ¬ ((88 = 88 ∧ (34 = 19 ∨ 34 = 23))) from by decide))) ?_
          have f8 : (-4 : Int) ≤ τ 88 34 ∧ τ 88 34 ≤ 40 := hIτ 88 34
          refine j_putI (pc := 108) fl_X12_363 fp_X12_34 dX12_findBolts_108 (a_88 hM) rfl (j_nm (fun σ9 (eσ9 : σ9 = tw_up σ3 88 34 (τ 88 34)) => ?_))
          have hIσ9 : tw_I σ9 := tw_I_up hIσ3 eσ9 (show (-4 : Int) ≤ τ 88 34 ∧ τ 88 34 ≤ 40 from ⟨by omega, by omega⟩)
          have hFσ9 : tw_F (fun c j => (c = 88 ∧ (j = 19 ∨ j = 23 ∨ j = 34)) ∨ (102 ≤ c ∧ c < 104)) σ σ9 := tw_F_up hFσ3 eσ9 (show (88 = 88 ∧ (34 = 19 ∨ 34 = 23 ∨ 34 = 34)) ∨ (102 ≤ 88 ∧ 88 < 104) from (Or.inl ⟨rfl, (Or.inr (Or.inr rfl))⟩))
          refine j_iload (pc := 111) dX12_findBolts_111 rfl ?_
          refine j_ifR_eq (pc := 113) (tgt := 120) ⟨by omega, by omega⟩ dX12_findBolts_113 rfl (fun h10 => ?_) (fun h10 => by exfalso; omega)
          refine j_iload_n (pc := 120) dX12_findBolts_120 rfl rfl ?_
          refine j_istore_n (pc := 121) (i := 2) (ls' := [(0, vR 88), (2, vI f), (3, vI b)]) [1, 0, 2] dX12_findBolts_121 rfl (Nat.le_of_ble_eq_true rfl) rfl rfl ?_
          refine j_iinc (pc := 122) (i := 3) (n := -1) (ls' := [(0, vR 88), (2, vI f), (3, vI (b + (-1)))]) [1, 2, 0] dX12_findBolts_122 rfl (Nat.le_of_ble_eq_true rfl) rfl rfl ?_
          refine j_goto (pc := 125) (tgt := 44) dX12_findBolts_125 rfl ?_
          refine j_ls (ls' := [(0, vR 88), (2, vI f), (3, vI (b + (-1)))]) [0, 1, 2] rfl ?_
          have y11 : σ9 88 34 = τ 88 34 := (tw_eq1 eσ9)
          have y12 : σ9 102 (f.toNat) = τ 102 (f.toNat) := ((tw_ne1 eσ9 (by (first | decide | omega)))).trans (hGσ3 102 (f.toNat) (show ¬ ((102 = 88 ∧ (f.toNat = 19 ∨ f.toNat = 23))) from fun h => absurd h.1 (by decide)))
          exact ih.1 f ⟨by omega, by omega⟩ (b + (-1)) ⟨by omega, by omega⟩ σ9 hIσ9 hFσ9 (show ∀ j : Int, 1 ≤ j → j ≤ σ 91 0 → TOK (σ 91 0) (okB σ) (σ9 102) j from (fun j h1 h2 => TOK_F (fun x => ((tw_ne1 eσ9 (by (first | decide | omega)))).trans (hGσ3 102 x (show ¬ ((102 = 88 ∧ (x = 19 ∨ x = 23))) from fun h => absurd h.1 (by decide)))) (i0 j h1 h2))) (show (b + (-1)) ≤ σ 91 0 from by omega) (show (f = 0 ∧ σ9 88 34 = -4) ∨ (1 ≤ f ∧ f ≤ σ 91 0 ∧ ¬ σ9 102 f.toNat = -4 ∧ σ9 88 34 = σ9 102 f.toNat + 1) from by omega) (show (100000 + (b + (-1))).toNat < N_ from by omega)
        · refine j_aload_n (pc := 56) dX12_findBolts_56 rfl rfl ?_
          refine j_getI (pc := 57) fl_X12_363 dX12_findBolts_57 (a_88 hM) rfl ?_
          refine j_topV (show σ3 88 34 = τ 88 34 from (hGσ3 88 34 (show ¬ ((88 = 88 ∧ (34 = 19 ∨ 34 = 23))) from by decide))) ?_
          have f13 : (-4 : Int) ≤ τ 88 34 ∧ τ 88 34 ≤ 40 := hIτ 88 34
          refine j_bipush (pc := 60) dX12_findBolts_60 rfl ?_
          refine j_icmpR_eq (pc := 62) (tgt := 80) ⟨by omega, by omega⟩ ⟨by omega, by omega⟩ dX12_findBolts_62 rfl (fun h14 => ?_) (fun h14 => ?_)
          · refine j_iconst (pc := 80) dX12_findBolts_80 ?_
            refine j_goto (pc := 81) (tgt := 85) dX12_findBolts_81 rfl ?_
            refine j_istore (pc := 85) (i := 4) (ls' := [(0, vR 88), (2, vI f), (3, vI b), (4, vI 1)]) [1, 2, 3, 0] dX12_findBolts_85 (Nat.le_of_ble_eq_true rfl) rfl rfl ?_
            refine j_aload_n (pc := 87) dX12_findBolts_87 rfl rfl ?_
            refine j_iload (pc := 88) dX12_findBolts_88 rfl ?_
            refine j_ifR_eq (pc := 90) (tgt := 104) ⟨by omega, by omega⟩ dX12_findBolts_90 rfl (fun h15 => by exfalso; omega) (fun h15 => ?_)
            refine j_aload_n (pc := 93) dX12_findBolts_93 rfl rfl ?_
            refine j_getR (pc := 94) (r := 102) fl_X12_50 dX12_findBolts_94 (a_88 hM) rfl ?_
            refine j_iload_n (pc := 97) dX12_findBolts_97 rfl rfl ?_
            refine j_iald (pc := 98) dX12_findBolts_98 (a_102 hM) (by omega) (by omega) (by decide) ?_
            refine j_topV (show σ3 102 (b.toNat) = τ 102 (b.toNat) from (hGσ3 102 (b.toNat) (show ¬ ((102 = 88 ∧ (b.toNat = 19 ∨ b.toNat = 23))) from fun h => absurd h.1 (by decide)))) ?_
            have f16 : (-2147483648 : Int) ≤ τ 102 (b.toNat) ∧ τ 102 (b.toNat) ≤ 2147483647 := hIτ 102 (b.toNat)
            have g17 : (0 : Int) ≤ τ 102 (b.toNat) ∧ τ 102 (b.toNat) ≤ 39 := (by have q := TOK_in (i0 b (by omega) (by omega)) (by omega) (by omega); omega)
            refine j_iconst (pc := 99) dX12_findBolts_99 ?_
            refine j_iadd (pc := 100) dX12_findBolts_100 ?_
            refine j_goto (pc := 101) (tgt := 108) dX12_findBolts_101 rfl ?_
            refine j_putI (pc := 108) fl_X12_363 fp_X12_34 dX12_findBolts_108 (a_88 hM) rfl (j_nm (fun σ18 (eσ18 : σ18 = tw_up σ3 88 34 ((τ 102 (b.toNat)) + 1)) => ?_))
            have hIσ18 : tw_I σ18 := tw_I_up hIσ3 eσ18 (show (-4 : Int) ≤ (τ 102 (b.toNat)) + 1 ∧ (τ 102 (b.toNat)) + 1 ≤ 40 from ⟨by omega, by omega⟩)
            have hFσ18 : tw_F (fun c j => (c = 88 ∧ (j = 19 ∨ j = 23 ∨ j = 34)) ∨ (102 ≤ c ∧ c < 104)) σ σ18 := tw_F_up hFσ3 eσ18 (show (88 = 88 ∧ (34 = 19 ∨ 34 = 23 ∨ 34 = 34)) ∨ (102 ≤ 88 ∧ 88 < 104) from (Or.inl ⟨rfl, (Or.inr (Or.inr rfl))⟩))
            refine j_iload (pc := 111) dX12_findBolts_111 rfl ?_
            refine j_ifR_eq (pc := 113) (tgt := 120) ⟨by omega, by omega⟩ dX12_findBolts_113 rfl (fun h19 => by exfalso; omega) (fun h19 => ?_)
            refine j_iload_n (pc := 116) dX12_findBolts_116 rfl rfl ?_
            refine j_goto (pc := 117) (tgt := 121) dX12_findBolts_117 rfl ?_
            refine j_istore_n (pc := 121) (i := 2) (ls' := [(0, vR 88), (2, vI b), (3, vI b)]) [1, 0, 2] dX12_findBolts_121 rfl (Nat.le_of_ble_eq_true rfl) rfl rfl ?_
            refine j_iinc (pc := 122) (i := 3) (n := -1) (ls' := [(0, vR 88), (2, vI b), (3, vI (b + (-1)))]) [1, 2, 0] dX12_findBolts_122 rfl (Nat.le_of_ble_eq_true rfl) rfl rfl ?_
            refine j_goto (pc := 125) (tgt := 44) dX12_findBolts_125 rfl ?_
            refine j_ls (ls' := [(0, vR 88), (2, vI b), (3, vI (b + (-1)))]) [0, 1, 2] rfl ?_
            have y20 : σ18 88 34 = (τ 102 (b.toNat)) + 1 := (tw_eq1 eσ18)
            have y21 : σ18 102 (b.toNat) = τ 102 (b.toNat) := ((tw_ne1 eσ18 (by (first | decide | omega)))).trans (hGσ3 102 (b.toNat) (show ¬ ((102 = 88 ∧ (b.toNat = 19 ∨ b.toNat = 23))) from fun h => absurd h.1 (by decide)))
            exact ih.1 b ⟨by omega, by omega⟩ (b + (-1)) ⟨by omega, by omega⟩ σ18 hIσ18 hFσ18 (show ∀ j : Int, 1 ≤ j → j ≤ σ 91 0 → TOK (σ 91 0) (okB σ) (σ18 102) j from (fun j h1 h2 => TOK_F (fun x => ((tw_ne1 eσ18 (by (first | decide | omega)))).trans (hGσ3 102 x (show ¬ ((102 = 88 ∧ (x = 19 ∨ x = 23))) from fun h => absurd h.1 (by decide)))) (i0 j h1 h2))) (show (b + (-1)) ≤ σ 91 0 from by omega) (show (b = 0 ∧ σ18 88 34 = -4) ∨ (1 ≤ b ∧ b ≤ σ 91 0 ∧ ¬ σ18 102 b.toNat = -4 ∧ σ18 88 34 = σ18 102 b.toNat + 1) from by omega) (show (100000 + (b + (-1))).toNat < N_ from by omega)
          · refine j_aload_n (pc := 65) dX12_findBolts_65 rfl rfl ?_
            refine j_getR (pc := 66) (r := 102) fl_X12_50 dX12_findBolts_66 (a_88 hM) rfl ?_
            refine j_iload_n (pc := 69) dX12_findBolts_69 rfl rfl ?_
            refine j_iald (pc := 70) dX12_findBolts_70 (a_102 hM) (by omega) (by omega) (by decide) ?_
            refine j_topV (show σ3 102 (b.toNat) = τ 102 (b.toNat) from (hGσ3 102 (b.toNat) (show ¬ ((102 = 88 ∧ (b.toNat = 19 ∨ b.toNat = 23))) from fun h => absurd h.1 (by decide)))) ?_
            have f22 : (-2147483648 : Int) ≤ τ 102 (b.toNat) ∧ τ 102 (b.toNat) ≤ 2147483647 := hIτ 102 (b.toNat)
            have g23 : (0 : Int) ≤ τ 102 (b.toNat) ∧ τ 102 (b.toNat) ≤ 39 := (by have q := TOK_in (i0 b (by omega) (by omega)) (by omega) (by omega); omega)
            refine j_iconst (pc := 71) dX12_findBolts_71 ?_
            refine j_iadd (pc := 72) dX12_findBolts_72 ?_
            refine j_aload_n (pc := 73) dX12_findBolts_73 rfl rfl ?_
            refine j_getI (pc := 74) fl_X12_363 dX12_findBolts_74 (a_88 hM) rfl ?_
            refine j_topV (show σ3 88 34 = τ 88 34 from (hGσ3 88 34 (show ¬ ((88 = 88 ∧ (34 = 19 ∨ 34 = 23))) from by decide))) ?_
            refine j_icmpR_gt (pc := 77) (tgt := 84) ⟨by omega, by omega⟩ ⟨by omega, by omega⟩ dX12_findBolts_77 rfl (fun h24 => ?_) (fun h24 => ?_)
            · refine j_iconst (pc := 84) dX12_findBolts_84 ?_
              refine j_istore (pc := 85) (i := 4) (ls' := [(0, vR 88), (2, vI f), (3, vI b), (4, vI 0)]) [1, 2, 3, 0] dX12_findBolts_85 (Nat.le_of_ble_eq_true rfl) rfl rfl ?_
              refine j_aload_n (pc := 87) dX12_findBolts_87 rfl rfl ?_
              refine j_iload (pc := 88) dX12_findBolts_88 rfl ?_
              refine j_ifR_eq (pc := 90) (tgt := 104) ⟨by omega, by omega⟩ dX12_findBolts_90 rfl (fun h25 => ?_) (fun h25 => by exfalso; omega)
              refine j_aload_n (pc := 104) dX12_findBolts_104 rfl rfl ?_
              refine j_getI (pc := 105) fl_X12_363 dX12_findBolts_105 (a_88 hM) rfl ?_
              refine j_topV (show σ3 88 34 = τ 88 34 from (hGσ3 88 34 (show ¬ ((88 = 88 ∧ (34 = 19 ∨ 34 = 23))) from by decide))) ?_
              refine j_putI (pc := 108) fl_X12_363 fp_X12_34 dX12_findBolts_108 (a_88 hM) rfl (j_nm (fun σ26 (eσ26 : σ26 = tw_up σ3 88 34 (τ 88 34)) => ?_))
              have hIσ26 : tw_I σ26 := tw_I_up hIσ3 eσ26 (show (-4 : Int) ≤ τ 88 34 ∧ τ 88 34 ≤ 40 from ⟨by omega, by omega⟩)
              have hFσ26 : tw_F (fun c j => (c = 88 ∧ (j = 19 ∨ j = 23 ∨ j = 34)) ∨ (102 ≤ c ∧ c < 104)) σ σ26 := tw_F_up hFσ3 eσ26 (show (88 = 88 ∧ (34 = 19 ∨ 34 = 23 ∨ 34 = 34)) ∨ (102 ≤ 88 ∧ 88 < 104) from (Or.inl ⟨rfl, (Or.inr (Or.inr rfl))⟩))
              refine j_iload (pc := 111) dX12_findBolts_111 rfl ?_
              refine j_ifR_eq (pc := 113) (tgt := 120) ⟨by omega, by omega⟩ dX12_findBolts_113 rfl (fun h27 => ?_) (fun h27 => by exfalso; omega)
              refine j_iload_n (pc := 120) dX12_findBolts_120 rfl rfl ?_
              refine j_istore_n (pc := 121) (i := 2) (ls' := [(0, vR 88), (2, vI f), (3, vI b)]) [1, 0, 2] dX12_findBolts_121 rfl (Nat.le_of_ble_eq_true rfl) rfl rfl ?_
              refine j_iinc (pc := 122) (i := 3) (n := -1) (ls' := [(0, vR 88), (2, vI f), (3, vI (b + (-1)))]) [1, 2, 0] dX12_findBolts_122 rfl (Nat.le_of_ble_eq_true rfl) rfl rfl ?_
              refine j_goto (pc := 125) (tgt := 44) dX12_findBolts_125 rfl ?_
              refine j_ls (ls' := [(0, vR 88), (2, vI f), (3, vI (b + (-1)))]) [0, 1, 2] rfl ?_
              have y28 : σ26 88 34 = τ 88 34 := (tw_eq1 eσ26)
              have y29 : σ26 102 (f.toNat) = τ 102 (f.toNat) := ((tw_ne1 eσ26 (by (first | decide | omega)))).trans (hGσ3 102 (f.toNat) (show ¬ ((102 = 88 ∧ (f.toNat = 19 ∨ f.toNat = 23))) from fun h => absurd h.1 (by decide)))
              exact ih.1 f ⟨by omega, by omega⟩ (b + (-1)) ⟨by omega, by omega⟩ σ26 hIσ26 hFσ26 (show ∀ j : Int, 1 ≤ j → j ≤ σ 91 0 → TOK (σ 91 0) (okB σ) (σ26 102) j from (fun j h1 h2 => TOK_F (fun x => ((tw_ne1 eσ26 (by (first | decide | omega)))).trans (hGσ3 102 x (show ¬ ((102 = 88 ∧ (x = 19 ∨ x = 23))) from fun h => absurd h.1 (by decide)))) (i0 j h1 h2))) (show (b + (-1)) ≤ σ 91 0 from by omega) (show (f = 0 ∧ σ26 88 34 = -4) ∨ (1 ≤ f ∧ f ≤ σ 91 0 ∧ ¬ σ26 102 f.toNat = -4 ∧ σ26 88 34 = σ26 102 f.toNat + 1) from by omega) (show (100000 + (b + (-1))).toNat < N_ from by omega)
            · refine j_iconst (pc := 80) dX12_findBolts_80 ?_
              refine j_goto (pc := 81) (tgt := 85) dX12_findBolts_81 rfl ?_
              refine j_istore (pc := 85) (i := 4) (ls' := [(0, vR 88), (2, vI f), (3, vI b), (4, vI 1)]) [1, 2, 3, 0] dX12_findBolts_85 (Nat.le_of_ble_eq_true rfl) rfl rfl ?_
              refine j_aload_n (pc := 87) dX12_findBolts_87 rfl rfl ?_
              refine j_iload (pc := 88) dX12_findBolts_88 rfl ?_
              refine j_ifR_eq (pc := 90) (tgt := 104) ⟨by omega, by omega⟩ dX12_findBolts_90 rfl (fun h30 => by exfalso; omega) (fun h30 => ?_)
              refine j_aload_n (pc := 93) dX12_findBolts_93 rfl rfl ?_
              refine j_getR (pc := 94) (r := 102) fl_X12_50 dX12_findBolts_94 (a_88 hM) rfl ?_
              refine j_iload_n (pc := 97) dX12_findBolts_97 rfl rfl ?_
              refine j_iald (pc := 98) dX12_findBolts_98 (a_102 hM) (by omega) (by omega) (by decide) ?_
              refine j_topV (show σ3 102 (b.toNat) = τ 102 (b.toNat) from (hGσ3 102 (b.toNat) (show ¬ ((102 = 88 ∧ (b.toNat = 19 ∨ b.toNat = 23))) from fun h => absurd h.1 (by decide)))) ?_
              have g31 : (0 : Int) ≤ τ 102 (b.toNat) ∧ τ 102 (b.toNat) ≤ 39 := (by have q := TOK_in (i0 b (by omega) (by omega)) (by omega) (by omega); omega)
              refine j_iconst (pc := 99) dX12_findBolts_99 ?_
              refine j_iadd (pc := 100) dX12_findBolts_100 ?_
              refine j_goto (pc := 101) (tgt := 108) dX12_findBolts_101 rfl ?_
              refine j_putI (pc := 108) fl_X12_363 fp_X12_34 dX12_findBolts_108 (a_88 hM) rfl (j_nm (fun σ32 (eσ32 : σ32 = tw_up σ3 88 34 ((τ 102 (b.toNat)) + 1)) => ?_))
              have hIσ32 : tw_I σ32 := tw_I_up hIσ3 eσ32 (show (-4 : Int) ≤ (τ 102 (b.toNat)) + 1 ∧ (τ 102 (b.toNat)) + 1 ≤ 40 from ⟨by omega, by omega⟩)
              have hFσ32 : tw_F (fun c j => (c = 88 ∧ (j = 19 ∨ j = 23 ∨ j = 34)) ∨ (102 ≤ c ∧ c < 104)) σ σ32 := tw_F_up hFσ3 eσ32 (show (88 = 88 ∧ (34 = 19 ∨ 34 = 23 ∨ 34 = 34)) ∨ (102 ≤ 88 ∧ 88 < 104) from (Or.inl ⟨rfl, (Or.inr (Or.inr rfl))⟩))
              refine j_iload (pc := 111) dX12_findBolts_111 rfl ?_
              refine j_ifR_eq (pc := 113) (tgt := 120) ⟨by omega, by omega⟩ dX12_findBolts_113 rfl (fun h33 => by exfalso; omega) (fun h33 => ?_)
              refine j_iload_n (pc := 116) dX12_findBolts_116 rfl rfl ?_
              refine j_goto (pc := 117) (tgt := 121) dX12_findBolts_117 rfl ?_
              refine j_istore_n (pc := 121) (i := 2) (ls' := [(0, vR 88), (2, vI b), (3, vI b)]) [1, 0, 2] dX12_findBolts_121 rfl (Nat.le_of_ble_eq_true rfl) rfl rfl ?_
              refine j_iinc (pc := 122) (i := 3) (n := -1) (ls' := [(0, vR 88), (2, vI b), (3, vI (b + (-1)))]) [1, 2, 0] dX12_findBolts_122 rfl (Nat.le_of_ble_eq_true rfl) rfl rfl ?_
              refine j_goto (pc := 125) (tgt := 44) dX12_findBolts_125 rfl ?_
              refine j_ls (ls' := [(0, vR 88), (2, vI b), (3, vI (b + (-1)))]) [0, 1, 2] rfl ?_
              have y34 : σ32 88 34 = (τ 102 (b.toNat)) + 1 := (tw_eq1 eσ32)
              have y35 : σ32 102 (b.toNat) = τ 102 (b.toNat) := ((tw_ne1 eσ32 (by (first | decide | omega)))).trans (hGσ3 102 (b.toNat) (show ¬ ((102 = 88 ∧ (b.toNat = 19 ∨ b.toNat = 23))) from fun h => absurd h.1 (by decide)))
              exact ih.1 b ⟨by omega, by omega⟩ (b + (-1)) ⟨by omega, by omega⟩ σ32 hIσ32 hFσ32 (show ∀ j : Int, 1 ≤ j → j ≤ σ 91 0 → TOK (σ 91 0) (okB σ) (σ32 102) j from (fun j h1 h2 => TOK_F (fun x => ((tw_ne1 eσ32 (by (first | decide | omega)))).trans (hGσ3 102 x (show ¬ ((102 = 88 ∧ (x = 19 ∨ x = 23))) from fun h => absurd h.1 (by decide)))) (i0 j h1 h2))) (show (b + (-1)) ≤ σ 91 0 from by omega) (show (b = 0 ∧ σ32 88 34 = -4) ∨ (1 ≤ b ∧ b ≤ σ 91 0 ∧ ¬ σ32 102 b.toNat = -4 ∧ σ32 88 34 = σ32 102 b.toNat + 1) from by omega) (show (100000 + (b + (-1))).toNat < N_ from by omega)
    · intro a ha i hi τ hIτ hFτ i0 i1 hm
      have ft : (1 : Int) ≤ σ 91 0 ∧ σ 91 0 ≤ 40 := hI 91 0
      have f91 := hFτ 91 0 (show ¬ ((91 = 88 ∧ (0 = 19 ∨ 0 = 23 ∨ 0 = 34)) ∨ (102 ≤ 91 ∧ 91 < 104)) from by decide)
      refine j_iload (pc := 133) dX12_findBolts_133 rfl ?_
      refine j_aload_n (pc := 135) dX12_findBolts_135 rfl rfl ?_
      refine j_getI (pc := 136) fl_X12_363 dX12_findBolts_136 (a_88 hM) rfl ?_
      have f36 : (-4 : Int) ≤ τ 88 34 ∧ τ 88 34 ≤ 40 := hIτ 88 34
      refine j_icmpR_ge (pc := 139) (tgt := 237) ⟨by omega, by omega⟩ ⟨by omega, by omega⟩ dX12_findBolts_139 rfl (fun h37 => ?_) (fun h37 => ?_)
      · exact j_vret (pc := 237) ⟨rfl, rfl⟩ dX12_findBolts_237 rfl ⟨rfl, hIτ, hFτ, trivial⟩
      · refine j_aload_n (pc := 142) dX12_findBolts_142 rfl rfl ?_
        refine j_getR (pc := 143) (r := 103) fl_X12_53 dX12_findBolts_143 (a_88 hM) rfl ?_
        refine j_iload (pc := 146) dX12_findBolts_146 rfl ?_
        refine j_iload_n (pc := 148) dX12_findBolts_148 rfl rfl ?_
        refine j_iast (pc := 149) dX12_findBolts_149 (a_103 hM) (by omega) (by omega) (by decide) (j_nm (fun σ38 (eσ38 : σ38 = tw_up τ 103 (i.toNat) a) => ?_))
        have hIσ38 : tw_I σ38 := tw_I_up hIτ eσ38 (show (0 : Int) ≤ a ∧ a ≤ 40 from ⟨by omega, by omega⟩)
        have hFσ38 : tw_F (fun c j => (c = 88 ∧ (j = 19 ∨ j = 23 ∨ j = 34)) ∨ (102 ≤ c ∧ c < 104)) σ σ38 := tw_F_up hFτ eσ38 (show (103 = 88 ∧ (i.toNat = 19 ∨ i.toNat = 23 ∨ i.toNat = 34)) ∨ (102 ≤ 103 ∧ 103 < 104) from (Or.inr (by decide)))
        refine j_iload_n (pc := 150) dX12_findBolts_150 rfl rfl ?_
        refine j_iconst (pc := 151) dX12_findBolts_151 ?_
        refine j_iadd (pc := 152) dX12_findBolts_152 ?_
        refine j_istore (pc := 153) (i := 5) (ls' := [(0, vR 88), (3, vI a), (4, vI i), (5, vI (a + 1))]) [1, 2, 3, 0] dX12_findBolts_153 (Nat.le_of_ble_eq_true rfl) rfl rfl ?_
        refine j_ls (ls' := [(0, vR 88), (3, vI a), (4, vI i), (5, vI (a + 1))]) [0, 1, 2, 3] rfl ?_
        have y39 : σ38 88 34 = τ 88 34 := (tw_ne1 eσ38 (by (first | decide | omega)))
        have y40 : σ38 102 (a.toNat) = τ 102 (a.toNat) := (tw_ne1 eσ38 (by (first | decide | omega)))
        have y41 : σ38 88 34 = τ 88 34 := (tw_ne1 eσ38 (by (first | decide | omega)))
        exact ih.2.2 a ⟨by omega, by omega⟩ i ⟨by omega, by omega⟩ (a + 1) ⟨by omega, by omega⟩ σ38 hIσ38 hFσ38 (show ∀ j : Int, 1 ≤ j → j ≤ σ 91 0 → TOK (σ 91 0) (okB σ) (σ38 102) j from (fun j h1 h2 => TOK_F (fun x => (tw_ne1 eσ38 (by (first | decide | omega)))) (i0 j h1 h2))) (show i < σ38 88 34 ∧ a ≤ σ 91 0 ∧ σ38 102 a.toNat = σ38 88 34 - 1 - i from by omega) (show a < (a + 1) from by omega) (show i + 1 = σ38 88 34 ∨ TW (σ 91 0) (okB σ) (σ38 102) a (a + 1) from (by first | exact Or.inr (TW_F (fun x => (tw_ne1 eσ38 (by (first | decide | omega)))) (TW_s tw9 n9)) | (by_cases q9 : i + 1 = σ38 88 34; (exact Or.inl q9); (exact Or.inr (TW_F (fun x => (tw_ne1 eσ38 (by (first | decide | omega)))) (TW_0 (i0 a (by omega) (by omega)) (by omega))))))) (show (100 * (41 - i) + 41 - (a + 1)).toNat < N_ from by omega)
    · intro a ha i hi c hc τ hIτ hFτ i0 i1 i2 i3 hm
      have ft : (1 : Int) ≤ σ 91 0 ∧ σ 91 0 ≤ 40 := hI 91 0
      have f91 := hFτ 91 0 (show ¬ ((91 = 88 ∧ (0 = 19 ∨ 0 = 23 ∨ 0 = 34)) ∨ (102 ≤ 91 ∧ 91 < 104)) from by decide)
      have a9 : ∀ x y z, mAC τ x y z ↔ mAC σ x y z := fun x y z => mAC_congr (fun j => hFτ 92 j (show ¬ ((92 = 88 ∧ (j = 19 ∨ j = 23 ∨ j = 34)) ∨ (102 ≤ 92 ∧ 92 < 104)) from fun h => h.elim (fun h => absurd h.1 (by decide)) (fun h => absurd h (by decide)))) (hFτ 91 4 (show ¬ ((91 = 88 ∧ (4 = 19 ∨ 4 = 23 ∨ 4 = 34)) ∨ (102 ≤ 91 ∧ 91 < 104)) from by decide))
      refine j_iload (pc := 155) dX12_findBolts_155 rfl ?_
      refine j_iconst (pc := 157) dX12_findBolts_157 ?_
      refine j_iadd (pc := 158) dX12_findBolts_158 ?_
      refine j_aload_n (pc := 159) dX12_findBolts_159 rfl rfl ?_
      refine j_getI (pc := 160) fl_X12_363 dX12_findBolts_160 (a_88 hM) rfl ?_
      have f42 : (-4 : Int) ≤ τ 88 34 ∧ τ 88 34 ≤ 40 := hIτ 88 34
      refine j_icmpR_ge (pc := 163) (tgt := 228) ⟨by omega, by omega⟩ ⟨by omega, by omega⟩ dX12_findBolts_163 rfl (fun h43 => ?_) (fun h43 => ?_)
      · refine j_iload (pc := 228) dX12_findBolts_228 rfl ?_
        refine j_istore_n (pc := 230) (i := 3) (ls' := [(0, vR 88), (3, vI c), (4, vI i)]) [1, 0, 2] dX12_findBolts_230 rfl (Nat.le_of_ble_eq_true rfl) rfl rfl ?_
        refine j_iinc (pc := 231) (i := 4) (n := 1) (ls' := [(0, vR 88), (3, vI c), (4, vI (i + 1))]) [1, 2, 0] dX12_findBolts_231 rfl (Nat.le_of_ble_eq_true rfl) rfl rfl ?_
        refine j_goto (pc := 234) (tgt := 133) dX12_findBolts_234 rfl ?_
        refine j_ls (ls' := [(0, vR 88), (3, vI c), (4, vI (i + 1))]) [0, 1, 2] rfl ?_
        exact ih.2.1 c ⟨by omega, by omega⟩ (i + 1) ⟨by omega, by omega⟩ τ hIτ hFτ (show ∀ j : Int, 1 ≤ j → j ≤ σ 91 0 → TOK (σ 91 0) (okB σ) (τ 102) j from (fun j h1 h2 => TOK_F (fun x => rfl) (i0 j h1 h2))) (show τ 88 34 = -4 ∨ (i + 1) = τ 88 34 ∨ ((i + 1) < τ 88 34 ∧ 1 ≤ c ∧ c ≤ σ 91 0 ∧ τ 102 c.toNat = τ 88 34 - 1 - (i + 1)) from by omega) (show (100 * (41 - (i + 1)) + 50).toNat < N_ from by omega)
      · have tw9 : TW (σ 91 0) (okB σ) (τ 102) a c := by
          rcases i3 with q | q
          · exfalso; omega
          · exact q
        have w9 := TW_le tw9
        refine j_aload_n (pc := 166) dX12_findBolts_166 rfl rfl ?_
        refine j_getR (pc := 167) (r := 102) fl_X12_50 dX12_findBolts_167 (a_88 hM) rfl ?_
        refine j_iload (pc := 170) dX12_findBolts_170 rfl ?_
        refine j_iald (pc := 172) dX12_findBolts_172 (a_102 hM) (by omega) (by omega) (by decide) ?_
        have f44 : (-2147483648 : Int) ≤ τ 102 (c.toNat) ∧ τ 102 (c.toNat) ≤ 2147483647 := hIτ 102 (c.toNat)
        refine j_bipush (pc := 173) dX12_findBolts_173 rfl ?_
        refine j_icmpR_eq (pc := 175) (tgt := 222) ⟨by omega, by omega⟩ ⟨by omega, by omega⟩ dX12_findBolts_175 rfl (fun h45 => ?_) (fun h45 => ?_)
        · have n9 : ¬ (okB σ a c ∧ ¬ τ 102 c.toNat = -4 ∧ τ 102 c.toNat + 1 = τ 102 a.toNat) := by
            rintro ⟨⟨x1, x2⟩, a2, a3⟩
            first
            | omega
            | exact (b01 __0).2 (by omega) ((a9 _ _ _).mpr x1)
            | exact (b01 __0).2 (by omega) ((c8 c c).mpr x2)
          refine j_iinc (pc := 222) (i := 5) (n := 1) (ls' := [(0, vR 88), (3, vI a), (4, vI i), (5, vI (c + 1))]) [1, 2, 3, 0] dX12_findBolts_222 rfl (Nat.le_of_ble_eq_true rfl) rfl rfl ?_
          refine j_goto (pc := 225) (tgt := 155) dX12_findBolts_225 rfl ?_
          refine j_ls (ls' := [(0, vR 88), (3, vI a), (4, vI i), (5, vI (c + 1))]) [0, 1, 2, 3] rfl ?_
          exact ih.2.2 a ⟨by omega, by omega⟩ i ⟨by omega, by omega⟩ (c + 1) ⟨by omega, by omega⟩ τ hIτ hFτ (show ∀ j : Int, 1 ≤ j → j ≤ σ 91 0 → TOK (σ 91 0) (okB σ) (τ 102) j from (fun j h1 h2 => TOK_F (fun x => rfl) (i0 j h1 h2))) (show i < τ 88 34 ∧ a ≤ σ 91 0 ∧ τ 102 a.toNat = τ 88 34 - 1 - i from by omega) (show a < (c + 1) from by omega) (show i + 1 = τ 88 34 ∨ TW (σ 91 0) (okB σ) (τ 102) a (c + 1) from (by first | exact Or.inr (TW_F (fun x => rfl) (TW_s tw9 n9)) | (by_cases q9 : i + 1 = τ 88 34; (exact Or.inl q9); (exact Or.inr (TW_F (fun x => rfl) (TW_0 (i0 a (by omega) (by omega)) (by omega))))))) (show (100 * (41 - i) + 41 - (c + 1)).toNat < N_ from by omega)
        · refine j_aload_n (pc := 178) dX12_findBolts_178 rfl rfl ?_
          refine j_getR (pc := 179) (r := 102) fl_X12_50 dX12_findBolts_179 (a_88 hM) rfl ?_
          refine j_iload (pc := 182) dX12_findBolts_182 rfl ?_
          refine j_iald (pc := 184) dX12_findBolts_184 (a_102 hM) (by omega) (by omega) (by decide) ?_
          have g46 : (0 : Int) ≤ τ 102 (c.toNat) ∧ τ 102 (c.toNat) ≤ 39 := (by have q := TOK_in (i0 c (by omega) (by omega)) (by omega) (by omega); omega)
          refine j_iconst (pc := 185) dX12_findBolts_185 ?_
          refine j_iadd (pc := 186) dX12_findBolts_186 ?_
          refine j_aload_n (pc := 187) dX12_findBolts_187 rfl rfl ?_
          refine j_getR (pc := 188) (r := 102) fl_X12_50 dX12_findBolts_188 (a_88 hM) rfl ?_
          refine j_iload_n (pc := 191) dX12_findBolts_191 rfl rfl ?_
          refine j_iald (pc := 192) dX12_findBolts_192 (a_102 hM) (by omega) (by omega) (by decide) ?_
          have f47 : (-2147483648 : Int) ≤ τ 102 (a.toNat) ∧ τ 102 (a.toNat) ≤ 2147483647 := hIτ 102 (a.toNat)
          refine j_icmpR_ne (pc := 193) (tgt := 222) ⟨by omega, by omega⟩ ⟨by omega, by omega⟩ dX12_findBolts_193 rfl (fun h48 => ?_) (fun h48 => ?_)
          · have n9 : ¬ (okB σ a c ∧ ¬ τ 102 c.toNat = -4 ∧ τ 102 c.toNat + 1 = τ 102 a.toNat) := by
              rintro ⟨⟨x1, x2⟩, a2, a3⟩
              first
              | omega
              | exact (b01 __0).2 (by omega) ((a9 _ _ _).mpr x1)
              | exact (b01 __0).2 (by omega) ((c8 c c).mpr x2)
            refine j_iinc (pc := 222) (i := 5) (n := 1) (ls' := [(0, vR 88), (3, vI a), (4, vI i), (5, vI (c + 1))]) [1, 2, 3, 0] dX12_findBolts_222 rfl (Nat.le_of_ble_eq_true rfl) rfl rfl ?_
            refine j_goto (pc := 225) (tgt := 155) dX12_findBolts_225 rfl ?_
            refine j_ls (ls' := [(0, vR 88), (3, vI a), (4, vI i), (5, vI (c + 1))]) [0, 1, 2, 3] rfl ?_
            exact ih.2.2 a ⟨by omega, by omega⟩ i ⟨by omega, by omega⟩ (c + 1) ⟨by omega, by omega⟩ τ hIτ hFτ (show ∀ j : Int, 1 ≤ j → j ≤ σ 91 0 → TOK (σ 91 0) (okB σ) (τ 102) j from (fun j h1 h2 => TOK_F (fun x => rfl) (i0 j h1 h2))) (show i < τ 88 34 ∧ a ≤ σ 91 0 ∧ τ 102 a.toNat = τ 88 34 - 1 - i from by omega) (show a < (c + 1) from by omega) (show i + 1 = τ 88 34 ∨ TW (σ 91 0) (okB σ) (τ 102) a (c + 1) from (by first | exact Or.inr (TW_F (fun x => rfl) (TW_s tw9 n9)) | (by_cases q9 : i + 1 = τ 88 34; (exact Or.inl q9); (exact Or.inr (TW_F (fun x => rfl) (TW_0 (i0 a (by omega) (by omega)) (by omega))))))) (show (100 * (41 - i) + 41 - (c + 1)).toNat < N_ from by omega)
          · refine j_aload_n (pc := 196) dX12_findBolts_196 rfl rfl ?_
            refine j_iload_n (pc := 197) dX12_findBolts_197 rfl rfl ?_
            refine j_iconst (pc := 198) dX12_findBolts_198 ?_
            refine j_iadd (pc := 199) dX12_findBolts_199 ?_
            refine j_iload (pc := 200) dX12_findBolts_200 rfl ?_
            refine j_iconst (pc := 202) dX12_findBolts_202 ?_
            refine j_isub (pc := 203) dX12_findBolts_203 ?_
            refine j_iload_n (pc := 204) dX12_findBolts_204 rfl rfl ?_
            refine j_callV (pc := 205) (As := [vI (a + 1), vI (c - 1), vI a]) (st := []) (c_X12_areClear hM (a + 1) ⟨by omega, by omega⟩ (c - 1) ⟨by omega, by omega⟩ a ⟨by omega, by omega⟩ τ hIτ) mv_X12_359 rfl rfl rfl (a_88 hM) dX12_findBolts_205 ⟨Nat.le_of_ble_eq_true rfl, Nat.le_of_ble_eq_true rfl⟩ ⟨Nat.le_refl _, Nat.le_refl _⟩ rfl (Nat.le_of_ble_eq_true rfl) rfl (fun z49 σ50 hz49 => ?_)
            obtain ⟨r52, rfl, hr52, hIσ50, hGσ50, q51_0⟩ := hz49
            replace q51_0 : (r52 = 1 ∧ mAC τ (a + 1) (c - 1) a) ∨ (r52 = 0 ∧ ¬ mAC τ (a + 1) (c - 1) a) := q51_0
            have hFσ50 : tw_F (fun c j => (c = 88 ∧ (j = 19 ∨ j = 23 ∨ j = 34)) ∨ (102 ≤ c ∧ c < 104)) σ σ50 := tw_F_tr hFτ hGσ50 (fun c j q => (show (c = 88 ∧ (j = 19 ∨ j = 23 ∨ j = 34)) ∨ (102 ≤ c ∧ c < 104) from by replace q : (c = 88 ∧ (j = 19 ∨ j = 23)) := q; exact (Or.inl ⟨q.1, (q.2.elim (fun z => (Or.inl z)) (fun z => (Or.inr (Or.inl z))))⟩)))
            refine j_st (st' := [vI r52]) rfl ?_
            refine j_ifR_eq (pc := 208) (tgt := 222) ⟨by omega, by omega⟩ dX12_findBolts_208 rfl (fun h53 => ?_) (fun h53 => ?_)
            · have n9 : ¬ (okB σ a c ∧ ¬ τ 102 c.toNat = -4 ∧ τ 102 c.toNat + 1 = τ 102 a.toNat) := by
                rintro ⟨⟨x1, x2⟩, a2, a3⟩
                first
                | omega
                | exact (b01 q51_0).2 (by omega) ((a9 _ _ _).mpr x1)
                | exact (b01 q51_0).2 (by omega) ((c8 c c).mpr x2)
              refine j_iinc (pc := 222) (i := 5) (n := 1) (ls' := [(0, vR 88), (3, vI a), (4, vI i), (5, vI (c + 1))]) [1, 2, 3, 0] dX12_findBolts_222 rfl (Nat.le_of_ble_eq_true rfl) rfl rfl ?_
              refine j_goto (pc := 225) (tgt := 155) dX12_findBolts_225 rfl ?_
              refine j_ls (ls' := [(0, vR 88), (3, vI a), (4, vI i), (5, vI (c + 1))]) [0, 1, 2, 3] rfl ?_
              have y54 : σ50 88 34 = τ 88 34 := (hGσ50 88 34 (show ¬ ((88 = 88 ∧ (34 = 19 ∨ 34 = 23))) from by decide))
              have y55 : σ50 102 (a.toNat) = τ 102 (a.toNat) := (hGσ50 102 (a.toNat) (show ¬ ((102 = 88 ∧ (a.toNat = 19 ∨ a.toNat = 23))) from fun h => absurd h.1 (by decide)))
              have y56 : σ50 88 34 = τ 88 34 := (hGσ50 88 34 (show ¬ ((88 = 88 ∧ (34 = 19 ∨ 34 = 23))) from by decide))
              exact ih.2.2 a ⟨by omega, by omega⟩ i ⟨by omega, by omega⟩ (c + 1) ⟨by omega, by omega⟩ σ50 hIσ50 hFσ50 (show ∀ j : Int, 1 ≤ j → j ≤ σ 91 0 → TOK (σ 91 0) (okB σ) (σ50 102) j from (fun j h1 h2 => TOK_F (fun x => (hGσ50 102 x (show ¬ ((102 = 88 ∧ (x = 19 ∨ x = 23))) from fun h => absurd h.1 (by decide)))) (i0 j h1 h2))) (show i < σ50 88 34 ∧ a ≤ σ 91 0 ∧ σ50 102 a.toNat = σ50 88 34 - 1 - i from by omega) (show a < (c + 1) from by omega) (show i + 1 = σ50 88 34 ∨ TW (σ 91 0) (okB σ) (σ50 102) a (c + 1) from (by first | exact Or.inr (TW_F (fun x => (hGσ50 102 x (show ¬ ((102 = 88 ∧ (x = 19 ∨ x = 23))) from fun h => absurd h.1 (by decide)))) (TW_s tw9 n9)) | (by_cases q9 : i + 1 = σ50 88 34; (exact Or.inl q9); (exact Or.inr (TW_F (fun x => (hGσ50 102 x (show ¬ ((102 = 88 ∧ (x = 19 ∨ x = 23))) from fun h => absurd h.1 (by decide)))) (TW_0 (i0 a (by omega) (by omega)) (by omega))))))) (show (100 * (41 - i) + 41 - (c + 1)).toNat < N_ from by omega)
            · have c8 : ∀ x y, mIC σ50 x y ↔ mIC σ x y := fun x y => mIC_congr (fun j => hFσ50 92 j (show ¬ ((92 = 88 ∧ (j = 19 ∨ j = 23 ∨ j = 34)) ∨ (102 ≤ 92 ∧ 92 < 104)) from fun h => h.elim (fun h => absurd h.1 (by decide)) (fun h => absurd h (by decide)))) (hFσ50 91 4 (show ¬ ((91 = 88 ∧ (4 = 19 ∨ 4 = 23 ∨ 4 = 34)) ∨ (102 ≤ 91 ∧ 91 < 104)) from by decide))
              refine j_aload_n (pc := 211) dX12_findBolts_211 rfl rfl ?_
              refine j_iload (pc := 212) dX12_findBolts_212 rfl ?_
              refine j_iload (pc := 214) dX12_findBolts_214 rfl ?_
              refine j_callV (pc := 216) (As := [vI c, vI c]) (st := []) (c_X12_isClear hM c ⟨by omega, by omega⟩ c ⟨by omega, by omega⟩ σ50 hIσ50) mv_X12_356 rfl rfl rfl (a_88 hM) dX12_findBolts_216 ⟨Nat.le_of_ble_eq_true rfl, Nat.le_of_ble_eq_true rfl⟩ ⟨Nat.le_refl _, Nat.le_refl _⟩ rfl (Nat.le_of_ble_eq_true rfl) rfl (fun z57 σ58 hz57 => ?_)
              obtain ⟨r60, rfl, hr60, hIσ58, hGσ58, q59_0⟩ := hz57
              replace q59_0 : (r60 = 1 ∧ mIC σ50 c c) ∨ (r60 = 0 ∧ ¬ mIC σ50 c c) := q59_0
              have hFσ58 : tw_F (fun c j => (c = 88 ∧ (j = 19 ∨ j = 23 ∨ j = 34)) ∨ (102 ≤ c ∧ c < 104)) σ σ58 := tw_F_tr hFσ50 hGσ58 (fun c j q => (show (c = 88 ∧ (j = 19 ∨ j = 23 ∨ j = 34)) ∨ (102 ≤ c ∧ c < 104) from by replace q : (c = 88 ∧ (j = 19 ∨ j = 23)) := q; exact (Or.inl ⟨q.1, (q.2.elim (fun z => (Or.inl z)) (fun z => (Or.inr (Or.inl z))))⟩)))
              refine j_st (st' := [vI r60]) rfl ?_
              refine j_ifR_ne (pc := 219) (tgt := 228) ⟨by omega, by omega⟩ dX12_findBolts_219 rfl (fun h61 => ?_) (fun h61 => ?_)
              · refine j_iload (pc := 228) dX12_findBolts_228 rfl ?_
                refine j_istore_n (pc := 230) (i := 3) (ls' := [(0, vR 88), (3, vI c), (4, vI i)]) [1, 0, 2] dX12_findBolts_230 rfl (Nat.le_of_ble_eq_true rfl) rfl rfl ?_
                refine j_iinc (pc := 231) (i := 4) (n := 1) (ls' := [(0, vR 88), (3, vI c), (4, vI (i + 1))]) [1, 2, 0] dX12_findBolts_231 rfl (Nat.le_of_ble_eq_true rfl) rfl rfl ?_
                refine j_goto (pc := 234) (tgt := 133) dX12_findBolts_234 rfl ?_
                refine j_ls (ls' := [(0, vR 88), (3, vI c), (4, vI (i + 1))]) [0, 1, 2] rfl ?_
                have y62 : σ58 88 34 = τ 88 34 := ((hGσ58 88 34 (show ¬ ((88 = 88 ∧ (34 = 19 ∨ 34 = 23))) from by decide))).trans (hGσ50 88 34 (show ¬ ((88 = 88 ∧ (34 = 19 ∨ 34 = 23))) from by decide))
                have y63 : σ58 102 (c.toNat) = τ 102 (c.toNat) := ((hGσ58 102 (c.toNat) (show ¬ ((102 = 88 ∧ (c.toNat = 19 ∨ c.toNat = 23))) from fun h => absurd h.1 (by decide)))).trans (hGσ50 102 (c.toNat) (show ¬ ((102 = 88 ∧ (c.toNat = 19 ∨ c.toNat = 23))) from fun h => absurd h.1 (by decide)))
                exact ih.2.1 c ⟨by omega, by omega⟩ (i + 1) ⟨by omega, by omega⟩ σ58 hIσ58 hFσ58 (show ∀ j : Int, 1 ≤ j → j ≤ σ 91 0 → TOK (σ 91 0) (okB σ) (σ58 102) j from (fun j h1 h2 => TOK_F (fun x => ((hGσ58 102 x (show ¬ ((102 = 88 ∧ (x = 19 ∨ x = 23))) from fun h => absurd h.1 (by decide)))).trans (hGσ50 102 x (show ¬ ((102 = 88 ∧ (x = 19 ∨ x = 23))) from fun h => absurd h.1 (by decide)))) (i0 j h1 h2))) (show σ58 88 34 = -4 ∨ (i + 1) = σ58 88 34 ∨ ((i + 1) < σ58 88 34 ∧ 1 ≤ c ∧ c ≤ σ 91 0 ∧ σ58 102 c.toNat = σ58 88 34 - 1 - (i + 1)) from by omega) (show (100 * (41 - (i + 1)) + 50).toNat < N_ from by omega)
              · have n9 : ¬ (okB σ a c ∧ ¬ τ 102 c.toNat = -4 ∧ τ 102 c.toNat + 1 = τ 102 a.toNat) := by
                  rintro ⟨⟨x1, x2⟩, a2, a3⟩
                  first
                  | omega
                  | exact (b01 q59_0).2 (by omega) ((a9 _ _ _).mpr x1)
                  | exact (b01 q59_0).2 (by omega) ((c8 c c).mpr x2)
                refine j_iinc (pc := 222) (i := 5) (n := 1) (ls' := [(0, vR 88), (3, vI a), (4, vI i), (5, vI (c + 1))]) [1, 2, 3, 0] dX12_findBolts_222 rfl (Nat.le_of_ble_eq_true rfl) rfl rfl ?_
                refine j_goto (pc := 225) (tgt := 155) dX12_findBolts_225 rfl ?_
                refine j_ls (ls' := [(0, vR 88), (3, vI a), (4, vI i), (5, vI (c + 1))]) [0, 1, 2, 3] rfl ?_
                have y64 : σ58 88 34 = τ 88 34 := ((hGσ58 88 34 (show ¬ ((88 = 88 ∧ (34 = 19 ∨ 34 = 23))) from by decide))).trans (hGσ50 88 34 (show ¬ ((88 = 88 ∧ (34 = 19 ∨ 34 = 23))) from by decide))
                have y65 : σ58 102 (a.toNat) = τ 102 (a.toNat) := ((hGσ58 102 (a.toNat) (show ¬ ((102 = 88 ∧ (a.toNat = 19 ∨ a.toNat = 23))) from fun h => absurd h.1 (by decide)))).trans (hGσ50 102 (a.toNat) (show ¬ ((102 = 88 ∧ (a.toNat = 19 ∨ a.toNat = 23))) from fun h => absurd h.1 (by decide)))
                have y66 : σ58 88 34 = τ 88 34 := ((hGσ58 88 34 (show ¬ ((88 = 88 ∧ (34 = 19 ∨ 34 = 23))) from by decide))).trans (hGσ50 88 34 (show ¬ ((88 = 88 ∧ (34 = 19 ∨ 34 = 23))) from by decide))
                exact ih.2.2 a ⟨by omega, by omega⟩ i ⟨by omega, by omega⟩ (c + 1) ⟨by omega, by omega⟩ σ58 hIσ58 hFσ58 (show ∀ j : Int, 1 ≤ j → j ≤ σ 91 0 → TOK (σ 91 0) (okB σ) (σ58 102) j from (fun j h1 h2 => TOK_F (fun x => ((hGσ58 102 x (show ¬ ((102 = 88 ∧ (x = 19 ∨ x = 23))) from fun h => absurd h.1 (by decide)))).trans (hGσ50 102 x (show ¬ ((102 = 88 ∧ (x = 19 ∨ x = 23))) from fun h => absurd h.1 (by decide)))) (i0 j h1 h2))) (show i < σ58 88 34 ∧ a ≤ σ 91 0 ∧ σ58 102 a.toNat = σ58 88 34 - 1 - i from by omega) (show a < (c + 1) from by omega) (show i + 1 = σ58 88 34 ∨ TW (σ 91 0) (okB σ) (σ58 102) a (c + 1) from (by first | exact Or.inr (TW_F (fun x => ((hGσ58 102 x (show ¬ ((102 = 88 ∧ (x = 19 ∨ x = 23))) from fun h => absurd h.1 (by decide)))).trans (hGσ50 102 x (show ¬ ((102 = 88 ∧ (x = 19 ∨ x = 23))) from fun h => absurd h.1 (by decide)))) (TW_s tw9 n9)) | (by_cases q9 : i + 1 = σ58 88 34; (exact Or.inl q9); (exact Or.inr (TW_F (fun x => ((hGσ58 102 x (show ¬ ((102 = 88 ∧ (x = 19 ∨ x = 23))) from fun h => absurd h.1 (by decide)))).trans (hGσ50 102 x (show ¬ ((102 = 88 ∧ (x = 19 ∨ x = 23))) from fun h => absurd h.1 (by decide)))) (TW_0 (i0 a (by omega) (by omega)) (by omega))))))) (show (100 * (41 - i) + 41 - (c + 1)).toNat < N_ from by omega)
set_option maxHeartbeats 4000000 in
set_option maxRecDepth 100000 in
theorem c_X12_findBolts {G : tw_G} (hM : tw_isM G) (σ : tw_M) (hI : tw_I σ) : tw_C G yX12_findBolts cX12_findBolts 6 none 5 [vR 88] σ (q_X12_findBolts σ) := by
  refine tw_met [(0, vR 88)] (by decide +kernel) rfl (Nat.le_of_ble_eq_true rfl) ?_
  have ft : (1 : Int) ≤ σ 91 0 ∧ σ 91 0 ≤ 40 := hI 91 0
  refine j_aload_n (pc := 0) dX12_findBolts_0 rfl rfl ?_
  refine j_getR (pc := 1) (r := 91) fl_X12_17 dX12_findBolts_1 (a_88 hM) rfl ?_
  refine j_iconst (pc := 4) dX12_findBolts_4 ?_
  refine j_iald (pc := 5) dX12_findBolts_5 (a_91 hM) (by omega) (by omega) (by decide) ?_
  refine j_topV (show σ 91 (Int.toNat 0) = σ 91 0 from rfl) ?_
  have f67 : (1 : Int) ≤ σ 91 0 ∧ σ 91 0 ≤ 40 := hI 91 0
  refine j_istore_n (pc := 6) (i := 1) (ls' := [(0, vR 88), (1, vI (σ 91 0))]) [1, 0] dX12_findBolts_6 rfl (Nat.le_of_ble_eq_true rfl) rfl rfl ?_
  refine j_aload_n (pc := 7) dX12_findBolts_7 rfl rfl ?_
  refine j_iload_n (pc := 8) dX12_findBolts_8 rfl rfl ?_
  refine j_aload_n (pc := 9) dX12_findBolts_9 rfl rfl ?_
  refine j_getR (pc := 10) (r := 91) fl_X12_17 dX12_findBolts_10 (a_88 hM) rfl ?_
  refine j_bipush (pc := 13) dX12_findBolts_13 rfl ?_
  refine j_iald (pc := 15) dX12_findBolts_15 (a_91 hM) (by omega) (by omega) (by decide) ?_
  refine j_topV (show σ 91 (Int.toNat 8) = σ 91 8 from rfl) ?_
  have f68 : (0 : Int) ≤ σ 91 8 ∧ σ 91 8 ≤ 9 := hI 91 8
  refine j_icmpR_gt (pc := 16) (tgt := 23) ⟨by omega, by omega⟩ ⟨by omega, by omega⟩ dX12_findBolts_16 rfl (fun h69 => ?_) (fun h69 => ?_)
  · refine j_bipush (pc := 23) dX12_findBolts_23 rfl ?_
    refine j_putI (pc := 25) fl_X12_363 fp_X12_34 dX12_findBolts_25 (a_88 hM) rfl (j_nm (fun σ70 (eσ70 : σ70 = tw_up σ 88 34 (-4)) => ?_))
    have hIσ70 : tw_I σ70 := tw_I_up hI eσ70 (show (-4 : Int) ≤ -4 ∧ -4 ≤ 40 from by decide)
    have hFσ70 : tw_F (fun c j => (c = 88 ∧ (j = 19 ∨ j = 23 ∨ j = 34)) ∨ (102 ≤ c ∧ c < 104)) σ σ70 := tw_F_up (tw_F_rf) eσ70 (show (88 = 88 ∧ (34 = 19 ∨ 34 = 23 ∨ 34 = 34)) ∨ (102 ≤ 88 ∧ 88 < 104) from (Or.inl ⟨rfl, (Or.inr (Or.inr rfl))⟩))
    refine j_aload_n (pc := 28) dX12_findBolts_28 rfl rfl ?_
    refine j_getI (pc := 29) fl_X12_363 dX12_findBolts_29 (a_88 hM) rfl ?_
    refine j_topV (show σ70 88 34 = -4 from (tw_eq1 eσ70)) ?_
    refine j_ifR_ne (pc := 32) (tgt := 36) ⟨by omega, by omega⟩ dX12_findBolts_32 rfl (fun h71 => ?_) (fun h71 => by exfalso; omega)
    refine j_aload_n (pc := 36) dX12_findBolts_36 rfl rfl ?_
    refine j_callV (pc := 37) (As := []) (st := []) (c_X12_findMore hM σ70 hIσ70) mv_X12_366 rfl rfl rfl (a_88 hM) dX12_findBolts_37 ⟨Nat.le_of_ble_eq_true rfl, Nat.le_of_ble_eq_true rfl⟩ ⟨Nat.le_refl _, Nat.le_refl _⟩ rfl (Nat.le_of_ble_eq_true rfl) rfl (fun z72 σ73 hz72 => ?_)
    obtain ⟨rfl, hIσ73, hGσ73, q74_0⟩ := hz72
    replace q74_0 : ∀ j : Int, 1 ≤ j → j ≤ σ70 91 0 → TOK (σ70 91 0) (okB σ70) (σ73 102) j := q74_0
    have y76 : σ70 91 0 = σ 91 0 := (tw_ne1 eσ70 (by (first | decide | omega)))
    have hFσ73 : tw_F (fun c j => (c = 88 ∧ (j = 19 ∨ j = 23 ∨ j = 34)) ∨ (102 ≤ c ∧ c < 104)) σ σ73 := tw_F_tr hFσ70 hGσ73 (fun c j q => (show (c = 88 ∧ (j = 19 ∨ j = 23 ∨ j = 34)) ∨ (102 ≤ c ∧ c < 104) from by replace q : (c = 88 ∧ (j = 19 ∨ j = 23)) ∨ c = 102 := q; exact (q.elim (fun q => (Or.inl ⟨q.1, (q.2.elim (fun z => (Or.inl z)) (fun z => (Or.inr (Or.inl z))))⟩)) (fun q => (Or.inr (by rw [show c = 102 from q]; decide))))))
    refine j_st (st' := []) rfl ?_
    have t9 : ∀ j : Int, 1 ≤ j → j ≤ σ 91 0 → TOK (σ 91 0) (okB σ) (σ73 102) j := fun j h1 h2 => TOKB_c (fun x => tw_ne1 eσ70 (by (first | decide | omega))) (tw_ne1 eσ70 (by (first | decide | omega))) (tw_ne1 eσ70 (by (first | decide | omega))) (q74_0 j h1) h2
    refine j_iconst (pc := 40) dX12_findBolts_40 ?_
    refine j_istore_n (pc := 41) (i := 2) (ls' := [(0, vR 88), (1, vI (σ 91 0)), (2, vI 0)]) [1, 2, 0] dX12_findBolts_41 rfl (Nat.le_of_ble_eq_true rfl) rfl rfl ?_
    refine j_iload_n (pc := 42) dX12_findBolts_42 rfl rfl ?_
    refine j_istore_n (pc := 43) (i := 3) (ls' := [(0, vR 88), (2, vI 0), (3, vI (σ 91 0))]) [1, 3, 0] dX12_findBolts_43 rfl (Nat.le_of_ble_eq_true rfl) rfl rfl ?_
    refine j_ls (ls' := [(0, vR 88), (2, vI 0), (3, vI (σ 91 0))]) [0, 1, 2] rfl ?_
    have y77 : σ73 88 34 = -4 := ((hGσ73 88 34 (show ¬ ((88 = 88 ∧ (34 = 19 ∨ 34 = 23)) ∨ 88 = 102) from by decide))).trans (tw_eq1 eσ70)
    exact (l_X12_findBolts hM σ hI (((100000 + (σ 91 0)).toNat) + 1)).1 0 (by (first | decide | exact ⟨by omega, by omega⟩)) (σ 91 0) ⟨by omega, by omega⟩ σ73 hIσ73 hFσ73 (show ∀ j : Int, 1 ≤ j → j ≤ σ 91 0 → TOK (σ 91 0) (okB σ) (σ73 102) j from t9) (show (σ 91 0) ≤ σ 91 0 from by omega) (show ((0 : Int) = 0 ∧ σ73 88 34 = -4) ∨ (1 ≤ (0 : Int) ∧ (0 : Int) ≤ σ 91 0 ∧ ¬ σ73 102 (0 : Int).toNat = -4 ∧ σ73 88 34 = σ73 102 (0 : Int).toNat + 1) from by omega) (Nat.lt_succ_self _)
  · refine j_iconst (pc := 19) dX12_findBolts_19 ?_
    refine j_goto (pc := 20) (tgt := 25) dX12_findBolts_20 rfl ?_
    refine j_putI (pc := 25) fl_X12_363 fp_X12_34 dX12_findBolts_25 (a_88 hM) rfl (j_nm (fun σ78 (eσ78 : σ78 = tw_up σ 88 34 0) => ?_))
    have hIσ78 : tw_I σ78 := tw_I_up hI eσ78 (show (-4 : Int) ≤ 0 ∧ 0 ≤ 40 from by decide)
    have hFσ78 : tw_F (fun c j => (c = 88 ∧ (j = 19 ∨ j = 23 ∨ j = 34)) ∨ (102 ≤ c ∧ c < 104)) σ σ78 := tw_F_up (tw_F_rf) eσ78 (show (88 = 88 ∧ (34 = 19 ∨ 34 = 23 ∨ 34 = 34)) ∨ (102 ≤ 88 ∧ 88 < 104) from (Or.inl ⟨rfl, (Or.inr (Or.inr rfl))⟩))
    refine j_aload_n (pc := 28) dX12_findBolts_28 rfl rfl ?_
    refine j_getI (pc := 29) fl_X12_363 dX12_findBolts_29 (a_88 hM) rfl ?_
    refine j_topV (show σ78 88 34 = 0 from (tw_eq1 eσ78)) ?_
    refine j_ifR_ne (pc := 32) (tgt := 36) ⟨by omega, by omega⟩ dX12_findBolts_32 rfl (fun h79 => by exfalso; omega) (fun h79 => ?_)
    exact j_vret (pc := 35) ⟨rfl, rfl⟩ dX12_findBolts_35 rfl ⟨rfl, hIσ78, hFσ78, trivial⟩
