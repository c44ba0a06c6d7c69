/-! 29ak.model -/
theorem dX12_findPitches_0 : decode cX12_findPitches 0 = .ok (.aload_n 0, 1) := by decide +kernel
theorem dX12_findPitches_1 : decode cX12_findPitches 1 = .ok (.getfield 17, 3) := by decide +kernel
theorem dX12_findPitches_4 : decode cX12_findPitches 4 = .ok (.iconst 0, 1) := by decide +kernel
theorem dX12_findPitches_5 : decode cX12_findPitches 5 = .ok (.iaload, 1) := by decide +kernel
theorem dX12_findPitches_6 : decode cX12_findPitches 6 = .ok (.istore_n 1, 1) := by decide +kernel
theorem dX12_findPitches_7 : decode cX12_findPitches 7 = .ok (.iload_n 1, 1) := by decide +kernel
theorem dX12_findPitches_8 : decode cX12_findPitches 8 = .ok (.istore_n 2, 1) := by decide +kernel
theorem dX12_findPitches_9 : decode cX12_findPitches 9 = .ok (.iload_n 2, 1) := by decide +kernel
theorem dX12_findPitches_10 : decode cX12_findPitches 10 = .ok (.ifCond .lt 140, 3) := by decide +kernel
theorem dX12_findPitches_13 : decode cX12_findPitches 13 = .ok (.aload_n 0, 1) := by decide +kernel
theorem dX12_findPitches_14 : decode cX12_findPitches 14 = .ok (.getfield 41, 3) := by decide +kernel
theorem dX12_findPitches_17 : decode cX12_findPitches 17 = .ok (.iload_n 2, 1) := by decide +kernel
theorem dX12_findPitches_18 : decode cX12_findPitches 18 = .ok (.iload_n 2, 1) := by decide +kernel
theorem dX12_findPitches_19 : decode cX12_findPitches 19 = .ok (.iload_n 1, 1) := by decide +kernel
theorem dX12_findPitches_20 : decode cX12_findPitches 20 = .ok (.if_icmp .ne 7, 3) := by decide +kernel
theorem dX12_findPitches_23 : decode cX12_findPitches 23 = .ok (.iconst 0, 1) := by decide +kernel
theorem dX12_findPitches_24 : decode cX12_findPitches 24 = .ok (.goto 5, 3) := by decide +kernel
theorem dX12_findPitches_27 : decode cX12_findPitches 27 = .ok (.bipush (-4), 2) := by decide +kernel
theorem dX12_findPitches_29 : decode cX12_findPitches 29 = .ok (.iastore, 1) := by decide +kernel
theorem dX12_findPitches_30 : decode cX12_findPitches 30 = .ok (.iload_n 2, 1) := by decide +kernel
theorem dX12_findPitches_31 : decode cX12_findPitches 31 = .ok (.iconst 1, 1) := by decide +kernel
theorem dX12_findPitches_32 : decode cX12_findPitches 32 = .ok (.iadd, 1) := by decide +kernel
theorem dX12_findPitches_33 : decode cX12_findPitches 33 = .ok (.istore_n 3, 1) := by decide +kernel
theorem dX12_findPitches_34 : decode cX12_findPitches 34 = .ok (.iload_n 3, 1) := by decide +kernel
theorem dX12_findPitches_35 : decode cX12_findPitches 35 = .ok (.iload_n 1, 1) := by decide +kernel
theorem dX12_findPitches_36 : decode cX12_findPitches 36 = .ok (.if_icmp .gt 108, 3) := by decide +kernel
theorem dX12_findPitches_39 : decode cX12_findPitches 39 = .ok (.iload_n 3, 1) := by decide +kernel
theorem dX12_findPitches_40 : decode cX12_findPitches 40 = .ok (.iload_n 2, 1) := by decide +kernel
theorem dX12_findPitches_41 : decode cX12_findPitches 41 = .ok (.isub, 1) := by decide +kernel
theorem dX12_findPitches_42 : decode cX12_findPitches 42 = .ok (.aload_n 0, 1) := by decide +kernel
theorem dX12_findPitches_43 : decode cX12_findPitches 43 = .ok (.getfield 17, 3) := by decide +kernel
theorem dX12_findPitches_46 : decode cX12_findPitches 46 = .ok (.iconst 3, 1) := by decide +kernel
theorem dX12_findPitches_47 : decode cX12_findPitches 47 = .ok (.iaload, 1) := by decide +kernel
theorem dX12_findPitches_48 : decode cX12_findPitches 48 = .ok (.if_icmp .gt 96, 3) := by decide +kernel
theorem dX12_findPitches_51 : decode cX12_findPitches 51 = .ok (.iload_n 2, 1) := by decide +kernel
theorem dX12_findPitches_52 : decode cX12_findPitches 52 = .ok (.iload_n 1, 1) := by decide +kernel
theorem dX12_findPitches_53 : decode cX12_findPitches 53 = .ok (.if_icmp .ge 91, 3) := by decide +kernel
theorem dX12_findPitches_56 : decode cX12_findPitches 56 = .ok (.aload_n 0, 1) := by decide +kernel
theorem dX12_findPitches_57 : decode cX12_findPitches 57 = .ok (.iload_n 3, 1) := by decide +kernel
theorem dX12_findPitches_58 : decode cX12_findPitches 58 = .ok (.invokevirtual 323, 3) := by decide +kernel
theorem dX12_findPitches_61 : decode cX12_findPitches 61 = .ok (.ifCond .eq 18, 3) := by decide +kernel
theorem dX12_findPitches_64 : decode cX12_findPitches 64 = .ok (.aload_n 0, 1) := by decide +kernel
theorem dX12_findPitches_65 : decode cX12_findPitches 65 = .ok (.getfield 41, 3) := by decide +kernel
theorem dX12_findPitches_68 : decode cX12_findPitches 68 = .ok (.iload_n 3, 1) := by decide +kernel
theorem dX12_findPitches_69 : decode cX12_findPitches 69 = .ok (.iaload, 1) := by decide +kernel
theorem dX12_findPitches_70 : decode cX12_findPitches 70 = .ok (.bipush (-4), 2) := by decide +kernel
theorem dX12_findPitches_72 : decode cX12_findPitches 72 = .ok (.if_icmp .eq 7, 3) := by decide +kernel
theorem dX12_findPitches_75 : decode cX12_findPitches 75 = .ok (.iconst 1, 1) := by decide +kernel
theorem dX12_findPitches_76 : decode cX12_findPitches 76 = .ok (.goto 4, 3) := by decide +kernel
theorem dX12_findPitches_79 : decode cX12_findPitches 79 = .ok (.iconst 0, 1) := by decide +kernel
theorem dX12_findPitches_80 : decode cX12_findPitches 80 = .ok (.istore 4, 2) := by decide +kernel
theorem dX12_findPitches_82 : decode cX12_findPitches 82 = .ok (.aload_n 0, 1) := by decide +kernel
theorem dX12_findPitches_83 : decode cX12_findPitches 83 = .ok (.getfield 41, 3) := by decide +kernel
theorem dX12_findPitches_86 : decode cX12_findPitches 86 = .ok (.iload_n 2, 1) := by decide +kernel
theorem dX12_findPitches_87 : decode cX12_findPitches 87 = .ok (.iload 4, 2) := by decide +kernel
theorem dX12_findPitches_89 : decode cX12_findPitches 89 = .ok (.ifCond .eq 42, 3) := by decide +kernel
theorem dX12_findPitches_92 : decode cX12_findPitches 92 = .ok (.aload_n 0, 1) := by decide +kernel
theorem dX12_findPitches_93 : decode cX12_findPitches 93 = .ok (.getfield 41, 3) := by decide +kernel
theorem dX12_findPitches_96 : decode cX12_findPitches 96 = .ok (.iload_n 2, 1) := by decide +kernel
theorem dX12_findPitches_97 : decode cX12_findPitches 97 = .ok (.iaload, 1) := by decide +kernel
theorem dX12_findPitches_98 : decode cX12_findPitches 98 = .ok (.bipush (-4), 2) := by decide +kernel
theorem dX12_findPitches_100 : decode cX12_findPitches 100 = .ok (.if_icmp .eq 20, 3) := by decide +kernel
theorem dX12_findPitches_103 : decode cX12_findPitches 103 = .ok (.aload_n 0, 1) := by decide +kernel
theorem dX12_findPitches_104 : decode cX12_findPitches 104 = .ok (.getfield 41, 3) := by decide +kernel
theorem dX12_findPitches_107 : decode cX12_findPitches 107 = .ok (.iload_n 3, 1) := by decide +kernel
theorem dX12_findPitches_108 : decode cX12_findPitches 108 = .ok (.iaload, 1) := by decide +kernel
theorem dX12_findPitches_109 : decode cX12_findPitches 109 = .ok (.iconst 1, 1) := by decide +kernel
theorem dX12_findPitches_110 : decode cX12_findPitches 110 = .ok (.iadd, 1) := by decide +kernel
theorem dX12_findPitches_111 : decode cX12_findPitches 111 = .ok (.aload_n 0, 1) := by decide +kernel
theorem dX12_findPitches_112 : decode cX12_findPitches 112 = .ok (.getfield 41, 3) := by decide +kernel
theorem dX12_findPitches_115 : decode cX12_findPitches 115 = .ok (.iload_n 2, 1) := by decide +kernel
theorem dX12_findPitches_116 : decode cX12_findPitches 116 = .ok (.iaload, 1) := by decide +kernel
theorem dX12_findPitches_117 : decode cX12_findPitches 117 = .ok (.if_icmp .ge 14, 3) := by decide +kernel
theorem dX12_findPitches_120 : decode cX12_findPitches 120 = .ok (.aload_n 0, 1) := by decide +kernel
theorem dX12_findPitches_121 : decode cX12_findPitches 121 = .ok (.getfield 41, 3) := by decide +kernel
theorem dX12_findPitches_124 : decode cX12_findPitches 124 = .ok (.iload_n 3, 1) := by decide +kernel
theorem dX12_findPitches_125 : decode cX12_findPitches 125 = .ok (.iaload, 1) := by decide +kernel
theorem dX12_findPitches_126 : decode cX12_findPitches 126 = .ok (.iconst 1, 1) := by decide +kernel
theorem dX12_findPitches_127 : decode cX12_findPitches 127 = .ok (.iadd, 1) := by decide +kernel
theorem dX12_findPitches_128 : decode cX12_findPitches 128 = .ok (.goto 9, 3) := by decide +kernel
theorem dX12_findPitches_131 : decode cX12_findPitches 131 = .ok (.aload_n 0, 1) := by decide +kernel
theorem dX12_findPitches_132 : decode cX12_findPitches 132 = .ok (.getfield 41, 3) := by decide +kernel
theorem dX12_findPitches_135 : decode cX12_findPitches 135 = .ok (.iload_n 2, 1) := by decide +kernel
theorem dX12_findPitches_136 : decode cX12_findPitches 136 = .ok (.iaload, 1) := by decide +kernel
theorem dX12_findPitches_137 : decode cX12_findPitches 137 = .ok (.iastore, 1) := by decide +kernel
theorem dX12_findPitches_138 : decode cX12_findPitches 138 = .ok (.iinc 3 1, 3) := by decide +kernel
theorem dX12_findPitches_141 : decode cX12_findPitches 141 = .ok (.goto (-107), 3) := by decide +kernel
theorem dX12_findPitches_144 : decode cX12_findPitches 144 = .ok (.iinc 2 (-1), 3) := by decide +kernel
theorem dX12_findPitches_147 : decode cX12_findPitches 147 = .ok (.goto (-138), 3) := by decide +kernel
theorem dX12_findPitches_150 : decode cX12_findPitches 150 = .ok (.aload_n 0, 1) := by decide +kernel
theorem dX12_findPitches_151 : decode cX12_findPitches 151 = .ok (.aload_n 0, 1) := by decide +kernel
theorem dX12_findPitches_152 : decode cX12_findPitches 152 = .ok (.getfield 41, 3) := by decide +kernel
theorem dX12_findPitches_155 : decode cX12_findPitches 155 = .ok (.iconst 0, 1) := by decide +kernel
theorem dX12_findPitches_156 : decode cX12_findPitches 156 = .ok (.iaload, 1) := by decide +kernel
theorem dX12_findPitches_157 : decode cX12_findPitches 157 = .ok (.putfield 326, 3) := by decide +kernel
theorem dX12_findPitches_160 : decode cX12_findPitches 160 = .ok (.iconst 0, 1) := by decide +kernel
theorem dX12_findPitches_161 : decode cX12_findPitches 161 = .ok (.istore_n 2, 1) := by decide +kernel
theorem dX12_findPitches_162 : decode cX12_findPitches 162 = .ok (.iconst 0, 1) := by decide +kernel
theorem dX12_findPitches_163 : decode cX12_findPitches 163 = .ok (.istore_n 3, 1) := by decide +kernel
theorem dX12_findPitches_164 : decode cX12_findPitches 164 = .ok (.iload_n 3, 1) := by decide +kernel
theorem dX12_findPitches_165 : decode cX12_findPitches 165 = .ok (.aload_n 0, 1) := by decide +kernel
theorem dX12_findPitches_166 : decode cX12_findPitches 166 = .ok (.getfield 326, 3) := by decide +kernel
theorem dX12_findPitches_169 : decode cX12_findPitches 169 = .ok (.if_icmp .ge 70, 3) := by decide +kernel
theorem dX12_findPitches_172 : decode cX12_findPitches 172 = .ok (.iload_n 2, 1) := by decide +kernel
theorem dX12_findPitches_173 : decode cX12_findPitches 173 = .ok (.iconst 1, 1) := by decide +kernel
theorem dX12_findPitches_174 : decode cX12_findPitches 174 = .ok (.iadd, 1) := by decide +kernel
theorem dX12_findPitches_175 : decode cX12_findPitches 175 = .ok (.istore 4, 2) := by decide +kernel
theorem dX12_findPitches_177 : decode cX12_findPitches 177 = .ok (.aload_n 0, 1) := by decide +kernel
theorem dX12_findPitches_178 : decode cX12_findPitches 178 = .ok (.iload 4, 2) := by decide +kernel
theorem dX12_findPitches_180 : decode cX12_findPitches 180 = .ok (.invokevirtual 323, 3) := by decide +kernel
theorem dX12_findPitches_183 : decode cX12_findPitches 183 = .ok (.ifCond .eq 33, 3) := by decide +kernel
theorem dX12_findPitches_186 : decode cX12_findPitches 186 = .ok (.aload_n 0, 1) := by decide +kernel
theorem dX12_findPitches_187 : decode cX12_findPitches 187 = .ok (.getfield 41, 3) := by decide +kernel
theorem dX12_findPitches_190 : decode cX12_findPitches 190 = .ok (.iload 4, 2) := by decide +kernel
theorem dX12_findPitches_192 : decode cX12_findPitches 192 = .ok (.iaload, 1) := by decide +kernel
theorem dX12_findPitches_193 : decode cX12_findPitches 193 = .ok (.bipush (-4), 2) := by decide +kernel
theorem dX12_findPitches_195 : decode cX12_findPitches 195 = .ok (.if_icmp .eq 21, 3) := by decide +kernel
theorem dX12_findPitches_198 : decode cX12_findPitches 198 = .ok (.aload_n 0, 1) := by decide +kernel
theorem dX12_findPitches_199 : decode cX12_findPitches 199 = .ok (.getfield 41, 3) := by decide +kernel
theorem dX12_findPitches_202 : decode cX12_findPitches 202 = .ok (.iload 4, 2) := by decide +kernel
theorem dX12_findPitches_204 : decode cX12_findPitches 204 = .ok (.iaload, 1) := by decide +kernel
theorem dX12_findPitches_205 : decode cX12_findPitches 205 = .ok (.iconst 1, 1) := by decide +kernel
theorem dX12_findPitches_206 : decode cX12_findPitches 206 = .ok (.iadd, 1) := by decide +kernel
theorem dX12_findPitches_207 : decode cX12_findPitches 207 = .ok (.aload_n 0, 1) := by decide +kernel
theorem dX12_findPitches_208 : decode cX12_findPitches 208 = .ok (.getfield 41, 3) := by decide +kernel
theorem dX12_findPitches_211 : decode cX12_findPitches 211 = .ok (.iload_n 2, 1) := by decide +kernel
theorem dX12_findPitches_212 : decode cX12_findPitches 212 = .ok (.iaload, 1) := by decide +kernel
theorem dX12_findPitches_213 : decode cX12_findPitches 213 = .ok (.if_icmp .eq 9, 3) := by decide +kernel
theorem dX12_findPitches_216 : decode cX12_findPitches 216 = .ok (.iinc 4 1, 3) := by decide +kernel
theorem dX12_findPitches_219 : decode cX12_findPitches 219 = .ok (.goto (-42), 3) := by decide +kernel
theorem dX12_findPitches_222 : decode cX12_findPitches 222 = .ok (.aload_n 0, 1) := by decide +kernel
theorem dX12_findPitches_223 : decode cX12_findPitches 223 = .ok (.getfield 44, 3) := by decide +kernel
theorem dX12_findPitches_226 : decode cX12_findPitches 226 = .ok (.iload_n 3, 1) := by decide +kernel
theorem dX12_findPitches_227 : decode cX12_findPitches 227 = .ok (.iload 4, 2) := by decide +kernel
theorem dX12_findPitches_229 : decode cX12_findPitches 229 = .ok (.iastore, 1) := by decide +kernel
theorem dX12_findPitches_230 : decode cX12_findPitches 230 = .ok (.iload 4, 2) := by decide +kernel
theorem dX12_findPitches_232 : decode cX12_findPitches 232 = .ok (.istore_n 2, 1) := by decide +kernel
theorem dX12_findPitches_233 : decode cX12_findPitches 233 = .ok (.iinc 3 1, 3) := by decide +kernel
theorem dX12_findPitches_236 : decode cX12_findPitches 236 = .ok (.goto (-72), 3) := by decide +kernel
theorem dX12_findPitches_239 : decode cX12_findPitches 239 = .ok (.return_, 1) := by decide +kernel
abbrev q_X12_findPitches  (σ : tw_M) : Option tw_V → tw_M → Prop := fun z τ => z = none ∧ tw_I τ ∧ tw_F (fun c j => (c = 88 ∧ (j = 30)) ∨ (99 ≤ c ∧ c < 101)) σ τ ∧ True
set_option maxHeartbeats 4000000 in
set_option maxRecDepth 100000 in
theorem l_X12_findPitches {G : tw_G} (hM : tw_isM G) (σ : tw_M) (hI : tw_I σ) : ∀ N_ : Nat, (∀ (t : Int) (ht : 1 ≤ t ∧ t ≤ 40) (h : Int) (hh : -1 ≤ h ∧ h ≤ 40) (τ : tw_M) (hIτ : tw_I τ) (hFτ : tw_F (fun c j => (c = 88 ∧ (j = 30)) ∨ (99 ≤ c ∧ c < 101)) σ τ) (i0 : t = σ 91 0) (i1 : h ≤ t) (i2 : ∀ j : Int, h < j → j ≤ t → TOK (σ 91 0) (okP σ) (τ 99) j) (hm : (100000 + 100 * (h + 1) + 50).toNat < N_), tw_J G (tw_mt RX12 cX12_findPitches 5 none 2) (tw_E G (q_X12_findPitches σ)) 9 [(0, vR 88), (1, vI t), (2, vI h)] [] τ) ∧ (∀ (t : Int) (ht : 1 ≤ t ∧ t ≤ 40) (h : Int) (hh : 0 ≤ h ∧ h ≤ 40) (f : Int) (hf : 1 ≤ f ∧ f ≤ 41) (τ : tw_M) (hIτ : tw_I τ) (hFτ : tw_F (fun c j => (c = 88 ∧ (j = 30)) ∨ (99 ≤ c ∧ c < 101)) σ τ) (i0 : t = σ 91 0) (i1 : h ≤ t) (i2 : h < f) (i3 : ∀ j : Int, h ≤ j → j ≤ t → TOK (σ 91 0) (okP σ) (τ 99) j) (hm : (100000 + 100 * (h + 1) + 41 - f).toNat < N_), tw_J G (tw_mt RX12 cX12_findPitches 5 none 2) (tw_E G (q_X12_findPitches σ)) 34 [(0, vR 88), (1, vI t), (2, vI h), (3, vI f)] [] τ) ∧ (∀ (a : Int) (ha : 0 ≤ a ∧ a ≤ 40) (i : Int) (hi : 0 ≤ i ∧ i ≤ 40) (τ : tw_M) (hIτ : tw_I τ) (hFτ : tw_F (fun c j => (c = 88 ∧ (j = 30)) ∨ (99 ≤ c ∧ c < 101)) σ τ) (i0 : ∀ j : Int, 0 ≤ j → j ≤ σ 91 0 → TOK (σ 91 0) (okP σ) (τ 99) j) (i1 : a ≤ σ 91 0) (i2 : τ 88 30 = -4 ∨ (i ≤ τ 88 30 ∧ τ 99 a.toNat = τ 88 30 - i)) (hm : (100 * (41 - i) + 50).toNat < N_), tw_J G (tw_mt RX12 cX12_findPitches 5 none 2) (tw_E G (q_X12_findPitches σ)) 164 [(0, vR 88), (2, vI a), (3, vI i)] [] τ) ∧ (∀ (a : Int) (ha : 0 ≤ a ∧ a ≤ 40) (i : Int) (hi : 0 ≤ i ∧ i ≤ 39) (f : Int) (hf : 1 ≤ f ∧ f ≤ 41) (τ : tw_M) (hIτ : tw_I τ) (hFτ : tw_F (fun c j => (c = 88 ∧ (j = 30)) ∨ (99 ≤ c ∧ c < 101)) σ τ) (i0 : ∀ j : Int, 0 ≤ j → j ≤ σ 91 0 → TOK (σ 91 0) (okP σ) (τ 99) j) (i1 : a ≤ σ 91 0) (i2 : a < f) (i3 : i < τ 88 30 ∧ τ 99 a.toNat = τ 88 30 - i) (i4 : TW (σ 91 0) (okP σ) (τ 99) a f) (hm : (100 * (41 - i) + 41 - f).toNat < N_), tw_J G (tw_mt RX12 cX12_findPitches 5 none 2) (tw_E G (q_X12_findPitches σ)) 177 [(0, vR 88), (2, vI a), (3, vI i), (4, vI f)] [] τ) := by
  intro N_
  induction N_ with
  | zero => exact ⟨fun t ht h hh τ hIτ hFτ i0 i1 i2 hm => absurd hm (Nat.not_lt_zero _), fun t ht h hh f hf τ hIτ hFτ i0 i1 i2 i3 hm => absurd hm (Nat.not_lt_zero _), fun a ha i hi τ hIτ hFτ i0 i1 i2 hm => absurd hm (Nat.not_lt_zero _), fun a ha i hi f hf τ hIτ hFτ i0 i1 i2 i3 i4 hm => absurd hm (Nat.not_lt_zero _)⟩
  | succ N_ ih =>
    refine ⟨?_, ?_, ?_, ?_⟩
    · intro t ht h hh τ hIτ hFτ i0 i1 i2 hm
      have ft : (1 : Int) ≤ σ 91 0 ∧ σ 91 0 ≤ 40 := hI 91 0
      have f91 := hFτ 91 0 (show ¬ ((91 = 88 ∧ (0 = 30)) ∨ (99 ≤ 91 ∧ 91 < 101)) from by decide)
      refine j_iload_n (pc := 9) dX12_findPitches_9 rfl rfl ?_
      refine j_ifR_lt (pc := 10) (tgt := 150) ⟨by omega, by omega⟩ dX12_findPitches_10 rfl (fun h1 => ?_) (fun h1 => ?_)
      · refine j_aload_n (pc := 150) dX12_findPitches_150 rfl rfl ?_
        refine j_aload_n (pc := 151) dX12_findPitches_151 rfl rfl ?_
        refine j_getR (pc := 152) (r := 99) fl_X12_41 dX12_findPitches_152 (a_88 hM) rfl ?_
        refine j_iconst (pc := 155) dX12_findPitches_155 ?_
        refine j_iald (pc := 156) dX12_findPitches_156 (a_99 hM) (by omega) (by omega) (by decide) ?_
        refine j_topV (show τ 99 (Int.toNat 0) = τ 99 0 from rfl) ?_
        have f2 : (-4 : Int) ≤ τ 99 0 ∧ τ 99 0 ≤ 40 := hIτ 99 0
        refine j_putI (pc := 157) fl_X12_326 fp_X12_30 dX12_findPitches_157 (a_88 hM) rfl (j_nm (fun σ3 (eσ3 : σ3 = tw_up τ 88 30 (τ 99 0)) => ?_))
        have hIσ3 : tw_I σ3 := tw_I_up hIτ eσ3 (show (-4 : Int) ≤ τ 99 0 ∧ τ 99 0 ≤ 40 from ⟨by omega, by omega⟩)
        have hFσ3 : tw_F (fun c j => (c = 88 ∧ (j = 30)) ∨ (99 ≤ c ∧ c < 101)) σ σ3 := tw_F_up hFτ eσ3 (show (88 = 88 ∧ (30 = 30)) ∨ (99 ≤ 88 ∧ 88 < 101) from (Or.inl ⟨rfl, rfl⟩))
        refine j_iconst (pc := 160) dX12_findPitches_160 ?_
        refine j_istore_n (pc := 161) (i := 2) (ls' := [(0, vR 88), (2, vI 0)]) [1, 0] dX12_findPitches_161 rfl (Nat.le_of_ble_eq_true rfl) rfl rfl ?_
        refine j_iconst (pc := 162) dX12_findPitches_162 ?_
        refine j_istore_n (pc := 163) (i := 3) (ls' := [(0, vR 88), (2, vI 0), (3, vI 0)]) [1, 2, 0] dX12_findPitches_163 rfl (Nat.le_of_ble_eq_true rfl) rfl rfl ?_
        refine j_ls (ls' := [(0, vR 88), (2, vI 0), (3, vI 0)]) [0, 1, 2] rfl ?_
        have y4 : σ3 88 30 = τ 99 0 := (tw_eq1 eσ3)
        have y5 : σ3 99 ((0 : Int).toNat) = τ 99 ((0 : Int).toNat) := (tw_ne1 eσ3 (by (first | decide | omega)))
        exact ih.2.2.1 0 (by (first | decide | exact ⟨by omega, by omega⟩)) 0 (by (first | decide | exact ⟨by omega, by omega⟩)) σ3 hIσ3 hFσ3 (show ∀ j : Int, 0 ≤ j → j ≤ σ 91 0 → TOK (σ 91 0) (okP σ) (σ3 99) j from (by first | exact (fun j h1 h2 => TOK_F (fun x => tw_ne1 eσ3 (by (first | decide | omega))) (i0 j h1 h2)) | exact (fun j h1 h2 => TOK_F (fun x => tw_ne1 eσ3 (by (first | decide | omega))) (i2 j (by omega) (by omega))))) (show (0 : Int) ≤ σ 91 0 from by omega) (show σ3 88 30 = -4 ∨ ((0 : Int) ≤ σ3 88 30 ∧ σ3 99 (0 : Int).toNat = σ3 88 30 - (0 : Int)) from (by first | exact PT_0 eσ3 (i2 0 (by omega) (by omega)) (by omega) | omega)) (show (100 * (41 - (0 : Int)) + 50).toNat < N_ from by omega)
      · refine j_aload_n (pc := 13) dX12_findPitches_13 rfl rfl ?_
        refine j_getR (pc := 14) (r := 99) fl_X12_41 dX12_findPitches_14 (a_88 hM) rfl ?_
        refine j_iload_n (pc := 17) dX12_findPitches_17 rfl rfl ?_
        refine j_iload_n (pc := 18) dX12_findPitches_18 rfl rfl ?_
        refine j_iload_n (pc := 19) dX12_findPitches_19 rfl rfl ?_
        refine j_icmpR_ne (pc := 20) (tgt := 27) ⟨by omega, by omega⟩ ⟨by omega, by omega⟩ dX12_findPitches_20 rfl (fun h6 => ?_) (fun h6 => ?_)
        · refine j_bipush (pc := 27) dX12_findPitches_27 rfl ?_
          refine j_iast (pc := 29) dX12_findPitches_29 (a_99 hM) (by omega) (by omega) (by decide) (j_nm (fun σ7 (eσ7 : σ7 = tw_up τ 99 (h.toNat) (-4)) => ?_))
          have hIσ7 : tw_I σ7 := tw_I_up hIτ eσ7 (show (-4 : Int) ≤ -4 ∧ -4 ≤ 40 from by decide)
          have hFσ7 : tw_F (fun c j => (c = 88 ∧ (j = 30)) ∨ (99 ≤ c ∧ c < 101)) σ σ7 := tw_F_up hFτ eσ7 (show (99 = 88 ∧ (h.toNat = 30)) ∨ (99 ≤ 99 ∧ 99 < 101) from (Or.inr (by decide)))
          refine j_iload_n (pc := 30) dX12_findPitches_30 rfl rfl ?_
          refine j_iconst (pc := 31) dX12_findPitches_31 ?_
          refine j_iadd (pc := 32) dX12_findPitches_32 ?_
          refine j_istore_n (pc := 33) (i := 3) (ls' := [(0, vR 88), (1, vI t), (2, vI h), (3, vI (h + 1))]) [1, 2, 3, 0] dX12_findPitches_33 rfl (Nat.le_of_ble_eq_true rfl) rfl rfl ?_
          refine j_ls (ls' := [(0, vR 88), (1, vI t), (2, vI h), (3, vI (h + 1))]) [0, 1, 2, 3] rfl ?_
          exact ih.2.1 t ⟨by omega, by omega⟩ h ⟨by omega, by omega⟩ (h + 1) ⟨by omega, by omega⟩ σ7 hIσ7 hFσ7 (show t = σ 91 0 from by omega) (show h ≤ t from by omega) (show h < (h + 1) from by omega) (show ∀ j : Int, h ≤ j → j ≤ t → TOK (σ 91 0) (okP σ) (σ7 99) j from (by first | exact fun j h1 h2 => TOK_up eσ7 (by omega) (fun j h1 h2 => i2 j h1 (by omega)) (by first | exact Or.inl rfl | exact Or.inr (Or.inl rfl)) j h1 (by omega) | exact fun j h1 h2 => TOK_up eσ7 (by omega) (fun j h1 h2 => i3 j (by omega) (by omega)) (TOK_old (i3 h (by omega) (by omega)) (by rfl)) j h1 (by omega) | exact fun j h1 h2 => TOK_up eσ7 (by omega) (fun j h1 h2 => i3 j (by omega) (by omega)) (TOK_new (f := f) (by omega) (by omega) g9 (by omega) (i3 f (by omega) (by omega)) (by rfl)) j h1 (by omega))) (show (100000 + 100 * (h + 1) + 41 - (h + 1)).toNat < N_ from by omega)
        · refine j_iconst (pc := 23) dX12_findPitches_23 ?_
          refine j_goto (pc := 24) (tgt := 29) dX12_findPitches_24 rfl ?_
          refine j_iast (pc := 29) dX12_findPitches_29 (a_99 hM) (by omega) (by omega) (by decide) (j_nm (fun σ8 (eσ8 : σ8 = tw_up τ 99 (h.toNat) 0) => ?_))
          have hIσ8 : tw_I σ8 := tw_I_up hIτ eσ8 (show (-4 : Int) ≤ 0 ∧ 0 ≤ 40 from by decide)
          have hFσ8 : tw_F (fun c j => (c = 88 ∧ (j = 30)) ∨ (99 ≤ c ∧ c < 101)) σ σ8 := tw_F_up hFτ eσ8 (show (99 = 88 ∧ (h.toNat = 30)) ∨ (99 ≤ 99 ∧ 99 < 101) from (Or.inr (by decide)))
          refine j_iload_n (pc := 30) dX12_findPitches_30 rfl rfl ?_
          refine j_iconst (pc := 31) dX12_findPitches_31 ?_
          refine j_iadd (pc := 32) dX12_findPitches_32 ?_
          refine j_istore_n (pc := 33) (i := 3) (ls' := [(0, vR 88), (1, vI t), (2, vI h), (3, vI (h + 1))]) [1, 2, 3, 0] dX12_findPitches_33 rfl (Nat.le_of_ble_eq_true rfl) rfl rfl ?_
          refine j_ls (ls' := [(0, vR 88), (1, vI t), (2, vI h), (3, vI (h + 1))]) [0, 1, 2, 3] rfl ?_
          exact ih.2.1 t ⟨by omega, by omega⟩ h ⟨by omega, by omega⟩ (h + 1) ⟨by omega, by omega⟩ σ8 hIσ8 hFσ8 (show t = σ 91 0 from by omega) (show h ≤ t from by omega) (show h < (h + 1) from by omega) (show ∀ j : Int, h ≤ j → j ≤ t → TOK (σ 91 0) (okP σ) (σ8 99) j from (by first | exact fun j h1 h2 => TOK_up eσ8 (by omega) (fun j h1 h2 => i2 j h1 (by omega)) (by first | exact Or.inl rfl | exact Or.inr (Or.inl rfl)) j h1 (by omega) | exact fun j h1 h2 => TOK_up eσ8 (by omega) (fun j h1 h2 => i3 j (by omega) (by omega)) (TOK_old (i3 h (by omega) (by omega)) (by rfl)) j h1 (by omega) | exact fun j h1 h2 => TOK_up eσ8 (by omega) (fun j h1 h2 => i3 j (by omega) (by omega)) (TOK_new (f := f) (by omega) (by omega) g9 (by omega) (i3 f (by omega) (by omega)) (by rfl)) j h1 (by omega))) (show (100000 + 100 * (h + 1) + 41 - (h + 1)).toNat < N_ from by omega)
    · intro t ht h hh f hf τ hIτ hFτ i0 i1 i2 i3 hm
      have ft : (1 : Int) ≤ σ 91 0 ∧ σ 91 0 ≤ 40 := hI 91 0
      have f91 := hFτ 91 0 (show ¬ ((91 = 88 ∧ (0 = 30)) ∨ (99 ≤ 91 ∧ 91 < 101)) from by decide)
      have s9 : ∀ x, mSt τ x ↔ mSt σ x := fun x => mSt_congr (fun j => hFτ 92 j (show ¬ ((92 = 88 ∧ (j = 30)) ∨ (99 ≤ 92 ∧ 92 < 101)) from fun h => h.elim (fun h => absurd h.1 (by decide)) (fun h => absurd h (by decide)))) (hFτ 91 0 (show ¬ ((91 = 88 ∧ (0 = 30)) ∨ (99 ≤ 91 ∧ 91 < 101)) from by decide))
      refine j_iload_n (pc := 34) dX12_findPitches_34 rfl rfl ?_
      refine j_iload_n (pc := 35) dX12_findPitches_35 rfl rfl ?_
      refine j_icmpR_gt (pc := 36) (tgt := 144) ⟨by omega, by omega⟩ ⟨by omega, by omega⟩ dX12_findPitches_36 rfl (fun h9 => ?_) (fun h9 => ?_)
      · refine j_iinc (pc := 144) (i := 2) (n := -1) (ls' := [(0, vR 88), (1, vI t), (2, vI (h + (-1)))]) [1, 2, 0] dX12_findPitches_144 rfl (Nat.le_of_ble_eq_true rfl) rfl rfl ?_
        refine j_goto (pc := 147) (tgt := 9) dX12_findPitches_147 rfl ?_
        refine j_ls (ls' := [(0, vR 88), (1, vI t), (2, vI (h + (-1)))]) [0, 1, 2] rfl ?_
        exact ih.1 t ⟨by omega, by omega⟩ (h + (-1)) ⟨by omega, by omega⟩ τ hIτ hFτ (show t = σ 91 0 from by omega) (show (h + (-1)) ≤ t from by omega) (show ∀ j : Int, (h + (-1)) < j → j ≤ t → TOK (σ 91 0) (okP σ) (τ 99) j from (fun j h1 h2 => i3 j (by omega) (by omega))) (show (100000 + 100 * ((h + (-1)) + 1) + 50).toNat < N_ from by omega)
      · refine j_iload_n (pc := 39) dX12_findPitches_39 rfl rfl ?_
        refine j_iload_n (pc := 40) dX12_findPitches_40 rfl rfl ?_
        refine j_isub (pc := 41) dX12_findPitches_41 ?_
        refine j_aload_n (pc := 42) dX12_findPitches_42 rfl rfl ?_
        refine j_getR (pc := 43) (r := 91) fl_X12_17 dX12_findPitches_43 (a_88 hM) rfl ?_
        refine j_iconst (pc := 46) dX12_findPitches_46 ?_
        refine j_iald (pc := 47) dX12_findPitches_47 (a_91 hM) (by omega) (by omega) (by decide) ?_
        refine j_topV (show τ 91 (Int.toNat 3) = τ 91 3 from rfl) ?_
        have f10 : (1 : Int) ≤ τ 91 3 ∧ τ 91 3 ≤ 60 := hIτ 91 3
        refine j_icmpR_gt (pc := 48) (tgt := 144) ⟨by omega, by omega⟩ ⟨by omega, by omega⟩ dX12_findPitches_48 rfl (fun h11 => ?_) (fun h11 => ?_)
        · refine j_iinc (pc := 144) (i := 2) (n := -1) (ls' := [(0, vR 88), (1, vI t), (2, vI (h + (-1)))]) [1, 2, 0] dX12_findPitches_144 rfl (Nat.le_of_ble_eq_true rfl) rfl rfl ?_
          refine j_goto (pc := 147) (tgt := 9) dX12_findPitches_147 rfl ?_
          refine j_ls (ls' := [(0, vR 88), (1, vI t), (2, vI (h + (-1)))]) [0, 1, 2] rfl ?_
          exact ih.1 t ⟨by omega, by omega⟩ (h + (-1)) ⟨by omega, by omega⟩ τ hIτ hFτ (show t = σ 91 0 from by omega) (show (h + (-1)) ≤ t from by omega) (show ∀ j : Int, (h + (-1)) < j → j ≤ t → TOK (σ 91 0) (okP σ) (τ 99) j from (fun j h1 h2 => i3 j (by omega) (by omega))) (show (100000 + 100 * ((h + (-1)) + 1) + 50).toNat < N_ from by omega)
        · refine j_iload_n (pc := 51) dX12_findPitches_51 rfl rfl ?_
          refine j_iload_n (pc := 52) dX12_findPitches_52 rfl rfl ?_
          refine j_icmpR_ge (pc := 53) (tgt := 144) ⟨by omega, by omega⟩ ⟨by omega, by omega⟩ dX12_findPitches_53 rfl (fun h12 => ?_) (fun h12 => ?_)
          · refine j_iinc (pc := 144) (i := 2) (n := -1) (ls' := [(0, vR 88), (1, vI t), (2, vI (h + (-1)))]) [1, 2, 0] dX12_findPitches_144 rfl (Nat.le_of_ble_eq_true rfl) rfl rfl ?_
            refine j_goto (pc := 147) (tgt := 9) dX12_findPitches_147 rfl ?_
            refine j_ls (ls' := [(0, vR 88), (1, vI t), (2, vI (h + (-1)))]) [0, 1, 2] rfl ?_
            exact ih.1 t ⟨by omega, by omega⟩ (h + (-1)) ⟨by omega, by omega⟩ τ hIτ hFτ (show t = σ 91 0 from by omega) (show (h + (-1)) ≤ t from by omega) (show ∀ j : Int, (h + (-1)) < j → j ≤ t → TOK (σ 91 0) (okP σ) (τ 99) j from (fun j h1 h2 => i3 j (by omega) (by omega))) (show (100000 + 100 * ((h + (-1)) + 1) + 50).toNat < N_ from by omega)
          · refine j_aload_n (pc := 56) dX12_findPitches_56 rfl rfl ?_
            refine j_iload_n (pc := 57) dX12_findPitches_57 rfl rfl ?_
            refine j_callV (pc := 58) (As := [vI f]) (st := []) (c_X12_isStance hM f ⟨by omega, by omega⟩ τ hIτ) mv_X12_323 rfl rfl rfl (a_88 hM) dX12_findPitches_58 ⟨Nat.le_of_ble_eq_true rfl, Nat.le_of_ble_eq_true rfl⟩ ⟨Nat.le_refl _, Nat.le_refl _⟩ rfl (Nat.le_of_ble_eq_true rfl) rfl (fun z13 σ14 hz13 => ?_)
            obtain ⟨r16, rfl, hr16, rfl, q15_0⟩ := hz13
            replace q15_0 : (r16 = 1 ∧ mSt τ f) ∨ (r16 = 0 ∧ ¬ mSt τ f) := q15_0
            refine j_st (st' := [vI r16]) rfl ?_
            refine j_ifR_eq (pc := 61) (tgt := 79) ⟨by omega, by omega⟩ dX12_findPitches_61 rfl (fun h17 => ?_) (fun h17 => ?_)
            · refine j_iconst (pc := 79) dX12_findPitches_79 ?_
              refine j_istore (pc := 80) (i := 4) (ls' := [(0, vR 88), (1, vI t), (2, vI h), (3, vI f), (4, vI 0)]) [1, 2, 3, 4, 0] dX12_findPitches_80 (Nat.le_of_ble_eq_true rfl) rfl rfl ?_
              refine j_aload_n (pc := 82) dX12_findPitches_82 rfl rfl ?_
              refine j_getR (pc := 83) (r := 99) fl_X12_41 dX12_findPitches_83 (a_88 hM) rfl ?_
              refine j_iload_n (pc := 86) dX12_findPitches_86 rfl rfl ?_
              refine j_iload (pc := 87) dX12_findPitches_87 rfl ?_
              refine j_ifR_eq (pc := 89) (tgt := 131) ⟨by omega, by omega⟩ dX12_findPitches_89 rfl (fun h18 => ?_) (fun h18 => by exfalso; omega)
              refine j_aload_n (pc := 131) dX12_findPitches_131 rfl rfl ?_
              refine j_getR (pc := 132) (r := 99) fl_X12_41 dX12_findPitches_132 (a_88 hM) rfl ?_
              refine j_iload_n (pc := 135) dX12_findPitches_135 rfl rfl ?_
              refine j_iald (pc := 136) dX12_findPitches_136 (a_99 hM) (by omega) (by omega) (by decide) ?_
              have f19 : (-4 : Int) ≤ τ 99 (h.toNat) ∧ τ 99 (h.toNat) ≤ 40 := hIτ 99 (h.toNat)
              refine j_iast (pc := 137) dX12_findPitches_137 (a_99 hM) (by omega) (by omega) (by decide) (j_nm (fun σ20 (eσ20 : σ20 = tw_up τ 99 (h.toNat) (τ 99 (h.toNat))) => ?_))
              have hIσ20 : tw_I σ20 := tw_I_up hIτ eσ20 (show (-4 : Int) ≤ τ 99 (h.toNat) ∧ τ 99 (h.toNat) ≤ 40 from ⟨by omega, by omega⟩)
              have hFσ20 : tw_F (fun c j => (c = 88 ∧ (j = 30)) ∨ (99 ≤ c ∧ c < 101)) σ σ20 := tw_F_up hFτ eσ20 (show (99 = 88 ∧ (h.toNat = 30)) ∨ (99 ≤ 99 ∧ 99 < 101) from (Or.inr (by decide)))
              refine j_iinc (pc := 138) (i := 3) (n := 1) (ls' := [(0, vR 88), (1, vI t), (2, vI h), (3, vI (f + 1))]) [1, 2, 3, 0] dX12_findPitches_138 rfl (Nat.le_of_ble_eq_true rfl) rfl rfl ?_
              refine j_goto (pc := 141) (tgt := 34) dX12_findPitches_141 rfl ?_
              refine j_ls (ls' := [(0, vR 88), (1, vI t), (2, vI h), (3, vI (f + 1))]) [0, 1, 2, 3] rfl ?_
              exact ih.2.1 t ⟨by omega, by omega⟩ h ⟨by omega, by omega⟩ (f + 1) ⟨by omega, by omega⟩ σ20 hIσ20 hFσ20 (show t = σ 91 0 from by omega) (show h ≤ t from by omega) (show h < (f + 1) from by omega) (show ∀ j : Int, h ≤ j → j ≤ t → TOK (σ 91 0) (okP σ) (σ20 99) j from (by first | exact fun j h1 h2 => TOK_up eσ20 (by omega) (fun j h1 h2 => i2 j h1 (by omega)) (by first | exact Or.inl rfl | exact Or.inr (Or.inl rfl)) j h1 (by omega) | exact fun j h1 h2 => TOK_up eσ20 (by omega) (fun j h1 h2 => i3 j (by omega) (by omega)) (TOK_old (i3 h (by omega) (by omega)) (by rfl)) j h1 (by omega) | exact fun j h1 h2 => TOK_up eσ20 (by omega) (fun j h1 h2 => i3 j (by omega) (by omega)) (TOK_new (f := f) (by omega) (by omega) g9 (by omega) (i3 f (by omega) (by omega)) (by rfl)) j h1 (by omega))) (show (100000 + 100 * (h + 1) + 41 - (f + 1)).toNat < N_ from by omega)
            · have g9 : okP σ h f := (s9 f).mp ((b01 q15_0).1 (by omega))
              refine j_aload_n (pc := 64) dX12_findPitches_64 rfl rfl ?_
              refine j_getR (pc := 65) (r := 99) fl_X12_41 dX12_findPitches_65 (a_88 hM) rfl ?_
              refine j_iload_n (pc := 68) dX12_findPitches_68 rfl rfl ?_
              refine j_iald (pc := 69) dX12_findPitches_69 (a_99 hM) (by omega) (by omega) (by decide) ?_
              have f21 : (-4 : Int) ≤ τ 99 (f.toNat) ∧ τ 99 (f.toNat) ≤ 40 := hIτ 99 (f.toNat)
              refine j_bipush (pc := 70) dX12_findPitches_70 rfl ?_
              refine j_icmpR_eq (pc := 72) (tgt := 79) ⟨by omega, by omega⟩ ⟨by omega, by omega⟩ dX12_findPitches_72 rfl (fun h22 => ?_) (fun h22 => ?_)
              · refine j_iconst (pc := 79) dX12_findPitches_79 ?_
                refine j_istore (pc := 80) (i := 4) (ls' := [(0, vR 88), (1, vI t), (2, vI h), (3, vI f), (4, vI 0)]) [1, 2, 3, 4, 0] dX12_findPitches_80 (Nat.le_of_ble_eq_true rfl) rfl rfl ?_
                refine j_aload_n (pc := 82) dX12_findPitches_82 rfl rfl ?_
                refine j_getR (pc := 83) (r := 99) fl_X12_41 dX12_findPitches_83 (a_88 hM) rfl ?_
                refine j_iload_n (pc := 86) dX12_findPitches_86 rfl rfl ?_
                refine j_iload (pc := 87) dX12_findPitches_87 rfl ?_
                refine j_ifR_eq (pc := 89) (tgt := 131) ⟨by omega, by omega⟩ dX12_findPitches_89 rfl (fun h23 => ?_) (fun h23 => by exfalso; omega)
                refine j_aload_n (pc := 131) dX12_findPitches_131 rfl rfl ?_
                refine j_getR (pc := 132) (r := 99) fl_X12_41 dX12_findPitches_132 (a_88 hM) rfl ?_
                refine j_iload_n (pc := 135) dX12_findPitches_135 rfl rfl ?_
                refine j_iald (pc := 136) dX12_findPitches_136 (a_99 hM) (by omega) (by omega) (by decide) ?_
                have f24 : (-4 : Int) ≤ τ 99 (h.toNat) ∧ τ 99 (h.toNat) ≤ 40 := hIτ 99 (h.toNat)
                refine j_iast (pc := 137) dX12_findPitches_137 (a_99 hM) (by omega) (by omega) (by decide) (j_nm (fun σ25 (eσ25 : σ25 = tw_up τ 99 (h.toNat) (τ 99 (h.toNat))) => ?_))
                have hIσ25 : tw_I σ25 := tw_I_up hIτ eσ25 (show (-4 : Int) ≤ τ 99 (h.toNat) ∧ τ 99 (h.toNat) ≤ 40 from ⟨by omega, by omega⟩)
                have hFσ25 : tw_F (fun c j => (c = 88 ∧ (j = 30)) ∨ (99 ≤ c ∧ c < 101)) σ σ25 := tw_F_up hFτ eσ25 (show (99 = 88 ∧ (h.toNat = 30)) ∨ (99 ≤ 99 ∧ 99 < 101) from (Or.inr (by decide)))
                refine j_iinc (pc := 138) (i := 3) (n := 1) (ls' := [(0, vR 88), (1, vI t), (2, vI h), (3, vI (f + 1))]) [1, 2, 3, 0] dX12_findPitches_138 rfl (Nat.le_of_ble_eq_true rfl) rfl rfl ?_
                refine j_goto (pc := 141) (tgt := 34) dX12_findPitches_141 rfl ?_
                refine j_ls (ls' := [(0, vR 88), (1, vI t), (2, vI h), (3, vI (f + 1))]) [0, 1, 2, 3] rfl ?_
                exact ih.2.1 t ⟨by omega, by omega⟩ h ⟨by omega, by omega⟩ (f + 1) ⟨by omega, by omega⟩ σ25 hIσ25 hFσ25 (show t = σ 91 0 from by omega) (show h ≤ t from by omega) (show h < (f + 1) from by omega) (show ∀ j : Int, h ≤ j → j ≤ t → TOK (σ 91 0) (okP σ) (σ25 99) j from (by first | exact fun j h1 h2 => TOK_up eσ25 (by omega) (fun j h1 h2 => i2 j h1 (by omega)) (by first | exact Or.inl rfl | exact Or.inr (Or.inl rfl)) j h1 (by omega) | exact fun j h1 h2 => TOK_up eσ25 (by omega) (fun j h1 h2 => i3 j (by omega) (by omega)) (TOK_old (i3 h (by omega) (by omega)) (by rfl)) j h1 (by omega) | exact fun j h1 h2 => TOK_up eσ25 (by omega) (fun j h1 h2 => i3 j (by omega) (by omega)) (TOK_new (f := f) (by omega) (by omega) g9 (by omega) (i3 f (by omega) (by omega)) (by rfl)) j h1 (by omega))) (show (100000 + 100 * (h + 1) + 41 - (f + 1)).toNat < N_ from by omega)
              · refine j_iconst (pc := 75) dX12_findPitches_75 ?_
                refine j_goto (pc := 76) (tgt := 80) dX12_findPitches_76 rfl ?_
                refine j_istore (pc := 80) (i := 4) (ls' := [(0, vR 88), (1, vI t), (2, vI h), (3, vI f), (4, vI 1)]) [1, 2, 3, 4, 0] dX12_findPitches_80 (Nat.le_of_ble_eq_true rfl) rfl rfl ?_
                refine j_aload_n (pc := 82) dX12_findPitches_82 rfl rfl ?_
                refine j_getR (pc := 83) (r := 99) fl_X12_41 dX12_findPitches_83 (a_88 hM) rfl ?_
                refine j_iload_n (pc := 86) dX12_findPitches_86 rfl rfl ?_
                refine j_iload (pc := 87) dX12_findPitches_87 rfl ?_
                refine j_ifR_eq (pc := 89) (tgt := 131) ⟨by omega, by omega⟩ dX12_findPitches_89 rfl (fun h26 => by exfalso; omega) (fun h26 => ?_)
                refine j_aload_n (pc := 92) dX12_findPitches_92 rfl rfl ?_
                refine j_getR (pc := 93) (r := 99) fl_X12_41 dX12_findPitches_93 (a_88 hM) rfl ?_
                refine j_iload_n (pc := 96) dX12_findPitches_96 rfl rfl ?_
                refine j_iald (pc := 97) dX12_findPitches_97 (a_99 hM) (by omega) (by omega) (by decide) ?_
                have f27 : (-4 : Int) ≤ τ 99 (h.toNat) ∧ τ 99 (h.toNat) ≤ 40 := hIτ 99 (h.toNat)
                refine j_bipush (pc := 98) dX12_findPitches_98 rfl ?_
                refine j_icmpR_eq (pc := 100) (tgt := 120) ⟨by omega, by omega⟩ ⟨by omega, by omega⟩ dX12_findPitches_100 rfl (fun h28 => ?_) (fun h28 => ?_)
                · have b9 := TOK_in (i3 f (by omega) (by omega)) (by omega) (by omega)
                  refine j_aload_n (pc := 120) dX12_findPitches_120 rfl rfl ?_
                  refine j_getR (pc := 121) (r := 99) fl_X12_41 dX12_findPitches_121 (a_88 hM) rfl ?_
                  refine j_iload_n (pc := 124) dX12_findPitches_124 rfl rfl ?_
                  refine j_iald (pc := 125) dX12_findPitches_125 (a_99 hM) (by omega) (by omega) (by decide) ?_
                  refine j_iconst (pc := 126) dX12_findPitches_126 ?_
                  refine j_iadd (pc := 127) dX12_findPitches_127 ?_
                  refine j_goto (pc := 128) (tgt := 137) dX12_findPitches_128 rfl ?_
                  refine j_iast (pc := 137) dX12_findPitches_137 (a_99 hM) (by omega) (by omega) (by decide) (j_nm (fun σ29 (eσ29 : σ29 = tw_up τ 99 (h.toNat) ((τ 99 (f.toNat)) + 1)) => ?_))
                  have hIσ29 : tw_I σ29 := tw_I_up hIτ eσ29 (show (-4 : Int) ≤ (τ 99 (f.toNat)) + 1 ∧ (τ 99 (f.toNat)) + 1 ≤ 40 from ⟨by omega, by omega⟩)
                  have hFσ29 : tw_F (fun c j => (c = 88 ∧ (j = 30)) ∨ (99 ≤ c ∧ c < 101)) σ σ29 := tw_F_up hFτ eσ29 (show (99 = 88 ∧ (h.toNat = 30)) ∨ (99 ≤ 99 ∧ 99 < 101) from (Or.inr (by decide)))
                  refine j_iinc (pc := 138) (i := 3) (n := 1) (ls' := [(0, vR 88), (1, vI t), (2, vI h), (3, vI (f + 1))]) [1, 2, 3, 0] dX12_findPitches_138 rfl (Nat.le_of_ble_eq_true rfl) rfl rfl ?_
                  refine j_goto (pc := 141) (tgt := 34) dX12_findPitches_141 rfl ?_
                  refine j_ls (ls' := [(0, vR 88), (1, vI t), (2, vI h), (3, vI (f + 1))]) [0, 1, 2, 3] rfl ?_
                  exact ih.2.1 t ⟨by omega, by omega⟩ h ⟨by omega, by omega⟩ (f + 1) ⟨by omega, by omega⟩ σ29 hIσ29 hFσ29 (show t = σ 91 0 from by omega) (show h ≤ t from by omega) (show h < (f + 1) from by omega) (show ∀ j : Int, h ≤ j → j ≤ t → TOK (σ 91 0) (okP σ) (σ29 99) j from (by first | exact fun j h1 h2 => TOK_up eσ29 (by omega) (fun j h1 h2 => i2 j h1 (by omega)) (by first | exact Or.inl rfl | exact Or.inr (Or.inl rfl)) j h1 (by omega) | exact fun j h1 h2 => TOK_up eσ29 (by omega) (fun j h1 h2 => i3 j (by omega) (by omega)) (TOK_old (i3 h (by omega) (by omega)) (by rfl)) j h1 (by omega) | exact fun j h1 h2 => TOK_up eσ29 (by omega) (fun j h1 h2 => i3 j (by omega) (by omega)) (TOK_new (f := f) (by omega) (by omega) g9 (by omega) (i3 f (by omega) (by omega)) (by rfl)) j h1 (by omega))) (show (100000 + 100 * (h + 1) + 41 - (f + 1)).toNat < N_ from by omega)
                · refine j_aload_n (pc := 103) dX12_findPitches_103 rfl rfl ?_
                  refine j_getR (pc := 104) (r := 99) fl_X12_41 dX12_findPitches_104 (a_88 hM) rfl ?_
                  refine j_iload_n (pc := 107) dX12_findPitches_107 rfl rfl ?_
                  refine j_iald (pc := 108) dX12_findPitches_108 (a_99 hM) (by omega) (by omega) (by decide) ?_
                  refine j_iconst (pc := 109) dX12_findPitches_109 ?_
                  refine j_iadd (pc := 110) dX12_findPitches_110 ?_
                  refine j_aload_n (pc := 111) dX12_findPitches_111 rfl rfl ?_
                  refine j_getR (pc := 112) (r := 99) fl_X12_41 dX12_findPitches_112 (a_88 hM) rfl ?_
                  refine j_iload_n (pc := 115) dX12_findPitches_115 rfl rfl ?_
                  refine j_iald (pc := 116) dX12_findPitches_116 (a_99 hM) (by omega) (by omega) (by decide) ?_
                  refine j_icmpR_ge (pc := 117) (tgt := 131) ⟨by omega, by omega⟩ ⟨by omega, by omega⟩ dX12_findPitches_117 rfl (fun h30 => ?_) (fun h30 => ?_)
                  · refine j_aload_n (pc := 131) dX12_findPitches_131 rfl rfl ?_
                    refine j_getR (pc := 132) (r := 99) fl_X12_41 dX12_findPitches_132 (a_88 hM) rfl ?_
                    refine j_iload_n (pc := 135) dX12_findPitches_135 rfl rfl ?_
                    refine j_iald (pc := 136) dX12_findPitches_136 (a_99 hM) (by omega) (by omega) (by decide) ?_
                    refine j_iast (pc := 137) dX12_findPitches_137 (a_99 hM) (by omega) (by omega) (by decide) (j_nm (fun σ31 (eσ31 : σ31 = tw_up τ 99 (h.toNat) (τ 99 (h.toNat))) => ?_))
                    have hIσ31 : tw_I σ31 := tw_I_up hIτ eσ31 (show (-4 : Int) ≤ τ 99 (h.toNat) ∧ τ 99 (h.toNat) ≤ 40 from ⟨by omega, by omega⟩)
                    have hFσ31 : tw_F (fun c j => (c = 88 ∧ (j = 30)) ∨ (99 ≤ c ∧ c < 101)) σ σ31 := tw_F_up hFτ eσ31 (show (99 = 88 ∧ (h.toNat = 30)) ∨ (99 ≤ 99 ∧ 99 < 101) from (Or.inr (by decide)))
                    refine j_iinc (pc := 138) (i := 3) (n := 1) (ls' := [(0, vR 88), (1, vI t), (2, vI h), (3, vI (f + 1))]) [1, 2, 3, 0] dX12_findPitches_138 rfl (Nat.le_of_ble_eq_true rfl) rfl rfl ?_
                    refine j_goto (pc := 141) (tgt := 34) dX12_findPitches_141 rfl ?_
                    refine j_ls (ls' := [(0, vR 88), (1, vI t), (2, vI h), (3, vI (f + 1))]) [0, 1, 2, 3] rfl ?_
                    exact ih.2.1 t ⟨by omega, by omega⟩ h ⟨by omega, by omega⟩ (f + 1) ⟨by omega, by omega⟩ σ31 hIσ31 hFσ31 (show t = σ 91 0 from by omega) (show h ≤ t from by omega) (show h < (f + 1) from by omega) (show ∀ j : Int, h ≤ j → j ≤ t → TOK (σ 91 0) (okP σ) (σ31 99) j from (by first | exact fun j h1 h2 => TOK_up eσ31 (by omega) (fun j h1 h2 => i2 j h1 (by omega)) (by first | exact Or.inl rfl | exact Or.inr (Or.inl rfl)) j h1 (by omega) | exact fun j h1 h2 => TOK_up eσ31 (by omega) (fun j h1 h2 => i3 j (by omega) (by omega)) (TOK_old (i3 h (by omega) (by omega)) (by rfl)) j h1 (by omega) | exact fun j h1 h2 => TOK_up eσ31 (by omega) (fun j h1 h2 => i3 j (by omega) (by omega)) (TOK_new (f := f) (by omega) (by omega) g9 (by omega) (i3 f (by omega) (by omega)) (by rfl)) j h1 (by omega))) (show (100000 + 100 * (h + 1) + 41 - (f + 1)).toNat < N_ from by omega)
                  · have b9 := TOK_in (i3 f (by omega) (by omega)) (by omega) (by omega)
                    refine j_aload_n (pc := 120) dX12_findPitches_120 rfl rfl ?_
                    refine j_getR (pc := 121) (r := 99) fl_X12_41 dX12_findPitches_121 (a_88 hM) rfl ?_
                    refine j_iload_n (pc := 124) dX12_findPitches_124 rfl rfl ?_
                    refine j_iald (pc := 125) dX12_findPitches_125 (a_99 hM) (by omega) (by omega) (by decide) ?_
                    refine j_iconst (pc := 126) dX12_findPitches_126 ?_
                    refine j_iadd (pc := 127) dX12_findPitches_127 ?_
                    refine j_goto (pc := 128) (tgt := 137) dX12_findPitches_128 rfl ?_
                    refine j_iast (pc := 137) dX12_findPitches_137 (a_99 hM) (by omega) (by omega) (by decide) (j_nm (fun σ32 (eσ32 : σ32 = tw_up τ 99 (h.toNat) ((τ 99 (f.toNat)) + 1)) => ?_))
                    have hIσ32 : tw_I σ32 := tw_I_up hIτ eσ32 (show (-4 : Int) ≤ (τ 99 (f.toNat)) + 1 ∧ (τ 99 (f.toNat)) + 1 ≤ 40 from ⟨by omega, by omega⟩)
                    have hFσ32 : tw_F (fun c j => (c = 88 ∧ (j = 30)) ∨ (99 ≤ c ∧ c < 101)) σ σ32 := tw_F_up hFτ eσ32 (show (99 = 88 ∧ (h.toNat = 30)) ∨ (99 ≤ 99 ∧ 99 < 101) from (Or.inr (by decide)))
                    refine j_iinc (pc := 138) (i := 3) (n := 1) (ls' := [(0, vR 88), (1, vI t), (2, vI h), (3, vI (f + 1))]) [1, 2, 3, 0] dX12_findPitches_138 rfl (Nat.le_of_ble_eq_true rfl) rfl rfl ?_
                    refine j_goto (pc := 141) (tgt := 34) dX12_findPitches_141 rfl ?_
                    refine j_ls (ls' := [(0, vR 88), (1, vI t), (2, vI h), (3, vI (f + 1))]) [0, 1, 2, 3] rfl ?_
                    exact ih.2.1 t ⟨by omega, by omega⟩ h ⟨by omega, by omega⟩ (f + 1) ⟨by omega, by omega⟩ σ32 hIσ32 hFσ32 (show t = σ 91 0 from by omega) (show h ≤ t from by omega) (show h < (f + 1) from by omega) (show ∀ j : Int, h ≤ j → j ≤ t → TOK (σ 91 0) (okP σ) (σ32 99) j from (by first | exact fun j h1 h2 => TOK_up eσ32 (by omega) (fun j h1 h2 => i2 j h1 (by omega)) (by first | exact Or.inl rfl | exact Or.inr (Or.inl rfl)) j h1 (by omega) | exact fun j h1 h2 => TOK_up eσ32 (by omega) (fun j h1 h2 => i3 j (by omega) (by omega)) (TOK_old (i3 h (by omega) (by omega)) (by rfl)) j h1 (by omega) | exact fun j h1 h2 => TOK_up eσ32 (by omega) (fun j h1 h2 => i3 j (by omega) (by omega)) (TOK_new (f := f) (by omega) (by omega) g9 (by omega) (i3 f (by omega) (by omega)) (by rfl)) j h1 (by omega))) (show (100000 + 100 * (h + 1) + 41 - (f + 1)).toNat < N_ from by omega)
    · intro a ha i hi τ hIτ hFτ i0 i1 i2 hm
      have ft : (1 : Int) ≤ σ 91 0 ∧ σ 91 0 ≤ 40 := hI 91 0
      have f91 := hFτ 91 0 (show ¬ ((91 = 88 ∧ (0 = 30)) ∨ (99 ≤ 91 ∧ 91 < 101)) from by decide)
      refine j_iload_n (pc := 164) dX12_findPitches_164 rfl rfl ?_
      refine j_aload_n (pc := 165) dX12_findPitches_165 rfl rfl ?_
      refine j_getI (pc := 166) fl_X12_326 dX12_findPitches_166 (a_88 hM) rfl ?_
      have f33 : (-4 : Int) ≤ τ 88 30 ∧ τ 88 30 ≤ 40 := hIτ 88 30
      refine j_icmpR_ge (pc := 169) (tgt := 239) ⟨by omega, by omega⟩ ⟨by omega, by omega⟩ dX12_findPitches_169 rfl (fun h34 => ?_) (fun h34 => ?_)
      · exact j_vret (pc := 239) ⟨rfl, rfl⟩ dX12_findPitches_239 rfl ⟨rfl, hIτ, hFτ, trivial⟩
      · refine j_iload_n (pc := 172) dX12_findPitches_172 rfl rfl ?_
        refine j_iconst (pc := 173) dX12_findPitches_173 ?_
        refine j_iadd (pc := 174) dX12_findPitches_174 ?_
        refine j_istore (pc := 175) (i := 4) (ls' := [(0, vR 88), (2, vI a), (3, vI i), (4, vI (a + 1))]) [1, 2, 3, 0] dX12_findPitches_175 (Nat.le_of_ble_eq_true rfl) rfl rfl ?_
        refine j_ls (ls' := [(0, vR 88), (2, vI a), (3, vI i), (4, vI (a + 1))]) [0, 1, 2, 3] rfl ?_
        exact ih.2.2.2 a ⟨by omega, by omega⟩ i ⟨by omega, by omega⟩ (a + 1) ⟨by omega, by omega⟩ τ hIτ hFτ (show ∀ j : Int, 0 ≤ j → j ≤ σ 91 0 → TOK (σ 91 0) (okP σ) (τ 99) j from i0) (show a ≤ σ 91 0 from by omega) (show a < (a + 1) from by omega) (show i < τ 88 30 ∧ τ 99 a.toNat = τ 88 30 - i from by omega) (show TW (σ 91 0) (okP σ) (τ 99) a (a + 1) from (by first | exact TW_s i4 n9 | exact TW_0 (i0 a (by omega) (by omega)) (by omega))) (show (100 * (41 - i) + 41 - (a + 1)).toNat < N_ from by omega)
    · intro a ha i hi f hf τ hIτ hFτ i0 i1 i2 i3 i4 hm
      have ft : (1 : Int) ≤ σ 91 0 ∧ σ 91 0 ≤ 40 := hI 91 0
      have f91 := hFτ 91 0 (show ¬ ((91 = 88 ∧ (0 = 30)) ∨ (99 ≤ 91 ∧ 91 < 101)) from by decide)
      have s9 : ∀ x, mSt τ x ↔ mSt σ x := fun x => mSt_congr (fun j => hFτ 92 j (show ¬ ((92 = 88 ∧ (j = 30)) ∨ (99 ≤ 92 ∧ 92 < 101)) from fun h => h.elim (fun h => absurd h.1 (by decide)) (fun h => absurd h (by decide)))) (hFτ 91 0 (show ¬ ((91 = 88 ∧ (0 = 30)) ∨ (99 ≤ 91 ∧ 91 < 101)) from by decide))
      have w9 := TW_le i4
      refine j_aload_n (pc := 177) dX12_findPitches_177 rfl rfl ?_
      refine j_iload (pc := 178) dX12_findPitches_178 rfl ?_
      refine j_callV (pc := 180) (As := [vI f]) (st := []) (c_X12_isStance hM f ⟨by omega, by omega⟩ τ hIτ) mv_X12_323 rfl rfl rfl (a_88 hM) dX12_findPitches_180 ⟨Nat.le_of_ble_eq_true rfl, Nat.le_of_ble_eq_true rfl⟩ ⟨Nat.le_refl _, Nat.le_refl _⟩ rfl (Nat.le_of_ble_eq_true rfl) rfl (fun z35 σ36 hz35 => ?_)
      obtain ⟨r38, rfl, hr38, rfl, q37_0⟩ := hz35
      replace q37_0 : (r38 = 1 ∧ mSt τ f) ∨ (r38 = 0 ∧ ¬ mSt τ f) := q37_0
      refine j_st (st' := [vI r38]) rfl ?_
      refine j_ifR_eq (pc := 183) (tgt := 216) ⟨by omega, by omega⟩ dX12_findPitches_183 rfl (fun h39 => ?_) (fun h39 => ?_)
      · have n9 : ¬ (okP σ a f ∧ ¬ τ 99 f.toNat = -4 ∧ τ 99 f.toNat + 1 = τ 99 a.toNat) := by
          rintro ⟨a1, a2, a3⟩
          first
          | omega
          | exact (b01 q37_0).2 (by omega) ((s9 f).mpr a1)
        refine j_iinc (pc := 216) (i := 4) (n := 1) (ls' := [(0, vR 88), (2, vI a), (3, vI i), (4, vI (f + 1))]) [1, 2, 3, 0] dX12_findPitches_216 rfl (Nat.le_of_ble_eq_true rfl) rfl rfl ?_
        refine j_goto (pc := 219) (tgt := 177) dX12_findPitches_219 rfl ?_
        refine j_ls (ls' := [(0, vR 88), (2, vI a), (3, vI i), (4, vI (f + 1))]) [0, 1, 2, 3] rfl ?_
        exact ih.2.2.2 a ⟨by omega, by omega⟩ i ⟨by omega, by omega⟩ (f + 1) ⟨by omega, by omega⟩ τ hIτ hFτ (show ∀ j : Int, 0 ≤ j → j ≤ σ 91 0 → TOK (σ 91 0) (okP σ) (τ 99) j from i0) (show a ≤ σ 91 0 from by omega) (show a < (f + 1) from by omega) (show i < τ 88 30 ∧ τ 99 a.toNat = τ 88 30 - i from by omega) (show TW (σ 91 0) (okP σ) (τ 99) a (f + 1) from (by first | exact TW_s i4 n9 | exact TW_0 (i0 a (by omega) (by omega)) (by omega))) (show (100 * (41 - i) + 41 - (f + 1)).toNat < N_ from by omega)
      · refine j_aload_n (pc := 186) dX12_findPitches_186 rfl rfl ?_
        refine j_getR (pc := 187) (r := 99) fl_X12_41 dX12_findPitches_187 (a_88 hM) rfl ?_
        refine j_iload (pc := 190) dX12_findPitches_190 rfl ?_
        refine j_iald (pc := 192) dX12_findPitches_192 (a_99 hM) (by omega) (by omega) (by decide) ?_
        have f40 : (-4 : Int) ≤ τ 99 (f.toNat) ∧ τ 99 (f.toNat) ≤ 40 := hIτ 99 (f.toNat)
        refine j_bipush (pc := 193) dX12_findPitches_193 rfl ?_
        refine j_icmpR_eq (pc := 195) (tgt := 216) ⟨by omega, by omega⟩ ⟨by omega, by omega⟩ dX12_findPitches_195 rfl (fun h41 => ?_) (fun h41 => ?_)
        · have n9 : ¬ (okP σ a f ∧ ¬ τ 99 f.toNat = -4 ∧ τ 99 f.toNat + 1 = τ 99 a.toNat) := by
            rintro ⟨a1, a2, a3⟩
            first
            | omega
            | exact (b01 q37_0).2 (by omega) ((s9 f).mpr a1)
          refine j_iinc (pc := 216) (i := 4) (n := 1) (ls' := [(0, vR 88), (2, vI a), (3, vI i), (4, vI (f + 1))]) [1, 2, 3, 0] dX12_findPitches_216 rfl (Nat.le_of_ble_eq_true rfl) rfl rfl ?_
          refine j_goto (pc := 219) (tgt := 177) dX12_findPitches_219 rfl ?_
          refine j_ls (ls' := [(0, vR 88), (2, vI a), (3, vI i), (4, vI (f + 1))]) [0, 1, 2, 3] rfl ?_
          exact ih.2.2.2 a ⟨by omega, by omega⟩ i ⟨by omega, by omega⟩ (f + 1) ⟨by omega, by omega⟩ τ hIτ hFτ (show ∀ j : Int, 0 ≤ j → j ≤ σ 91 0 → TOK (σ 91 0) (okP σ) (τ 99) j from i0) (show a ≤ σ 91 0 from by omega) (show a < (f + 1) from by omega) (show i < τ 88 30 ∧ τ 99 a.toNat = τ 88 30 - i from by omega) (show TW (σ 91 0) (okP σ) (τ 99) a (f + 1) from (by first | exact TW_s i4 n9 | exact TW_0 (i0 a (by omega) (by omega)) (by omega))) (show (100 * (41 - i) + 41 - (f + 1)).toNat < N_ from by omega)
        · refine j_aload_n (pc := 198) dX12_findPitches_198 rfl rfl ?_
          refine j_getR (pc := 199) (r := 99) fl_X12_41 dX12_findPitches_199 (a_88 hM) rfl ?_
          refine j_iload (pc := 202) dX12_findPitches_202 rfl ?_
          refine j_iald (pc := 204) dX12_findPitches_204 (a_99 hM) (by omega) (by omega) (by decide) ?_
          refine j_iconst (pc := 205) dX12_findPitches_205 ?_
          refine j_iadd (pc := 206) dX12_findPitches_206 ?_
          refine j_aload_n (pc := 207) dX12_findPitches_207 rfl rfl ?_
          refine j_getR (pc := 208) (r := 99) fl_X12_41 dX12_findPitches_208 (a_88 hM) rfl ?_
          refine j_iload_n (pc := 211) dX12_findPitches_211 rfl rfl ?_
          refine j_iald (pc := 212) dX12_findPitches_212 (a_99 hM) (by omega) (by omega) (by decide) ?_
          have f42 : (-4 : Int) ≤ τ 99 (a.toNat) ∧ τ 99 (a.toNat) ≤ 40 := hIτ 99 (a.toNat)
          refine j_icmpR_eq (pc := 213) (tgt := 222) ⟨by omega, by omega⟩ ⟨by omega, by omega⟩ dX12_findPitches_213 rfl (fun h43 => ?_) (fun h43 => ?_)
          · refine j_aload_n (pc := 222) dX12_findPitches_222 rfl rfl ?_
            refine j_getR (pc := 223) (r := 100) fl_X12_44 dX12_findPitches_223 (a_88 hM) rfl ?_
            refine j_iload_n (pc := 226) dX12_findPitches_226 rfl rfl ?_
            refine j_iload (pc := 227) dX12_findPitches_227 rfl ?_
            refine j_iast (pc := 229) dX12_findPitches_229 (a_100 hM) (by omega) (by omega) (by decide) (j_nm (fun σ44 (eσ44 : σ44 = tw_up τ 100 (i.toNat) f) => ?_))
            have hIσ44 : tw_I σ44 := tw_I_up hIτ eσ44 (show (0 : Int) ≤ f ∧ f ≤ 40 from ⟨by omega, by omega⟩)
            have hFσ44 : tw_F (fun c j => (c = 88 ∧ (j = 30)) ∨ (99 ≤ c ∧ c < 101)) σ σ44 := tw_F_up hFτ eσ44 (show (100 = 88 ∧ (i.toNat = 30)) ∨ (99 ≤ 100 ∧ 100 < 101) from (Or.inr (by decide)))
            refine j_iload (pc := 230) dX12_findPitches_230 rfl ?_
            refine j_istore_n (pc := 232) (i := 2) (ls' := [(0, vR 88), (2, vI f), (3, vI i)]) [1, 0, 2] dX12_findPitches_232 rfl (Nat.le_of_ble_eq_true rfl) rfl rfl ?_
            refine j_iinc (pc := 233) (i := 3) (n := 1) (ls' := [(0, vR 88), (2, vI f), (3, vI (i + 1))]) [1, 2, 0] dX12_findPitches_233 rfl (Nat.le_of_ble_eq_true rfl) rfl rfl ?_
            refine j_goto (pc := 236) (tgt := 164) dX12_findPitches_236 rfl ?_
            refine j_ls (ls' := [(0, vR 88), (2, vI f), (3, vI (i + 1))]) [0, 1, 2] rfl ?_
            have y45 : σ44 88 30 = τ 88 30 := (tw_ne1 eσ44 (by (first | decide | omega)))
            have f46 : (-4 : Int) ≤ τ 88 30 ∧ τ 88 30 ≤ 40 := hIτ 88 30
            have y47 : σ44 99 (f.toNat) = τ 99 (f.toNat) := (tw_ne1 eσ44 (by (first | decide | omega)))
            exact ih.2.2.1 f ⟨by omega, by omega⟩ (i + 1) ⟨by omega, by omega⟩ σ44 hIσ44 hFσ44 (show ∀ j : Int, 0 ≤ j → j ≤ σ 91 0 → TOK (σ 91 0) (okP σ) (σ44 99) j from (by first | exact (fun j h1 h2 => TOK_F (fun x => tw_ne1 eσ44 (by (first | decide | omega))) (i0 j h1 h2)) | exact (fun j h1 h2 => TOK_F (fun x => tw_ne1 eσ44 (by (first | decide | omega))) (i2 j (by omega) (by omega))))) (show f ≤ σ 91 0 from by omega) (show σ44 88 30 = -4 ∨ ((i + 1) ≤ σ44 88 30 ∧ σ44 99 f.toNat = σ44 88 30 - (i + 1)) from (by first | exact PT_0 eσ44 (i2 0 (by omega) (by omega)) (by omega) | omega)) (show (100 * (41 - (i + 1)) + 50).toNat < N_ from by omega)
          · have n9 : ¬ (okP σ a f ∧ ¬ τ 99 f.toNat = -4 ∧ τ 99 f.toNat + 1 = τ 99 a.toNat) := by
              rintro ⟨a1, a2, a3⟩
              first
              | omega
              | exact (b01 q37_0).2 (by omega) ((s9 f).mpr a1)
            refine j_iinc (pc := 216) (i := 4) (n := 1) (ls' := [(0, vR 88), (2, vI a), (3, vI i), (4, vI (f + 1))]) [1, 2, 3, 0] dX12_findPitches_216 rfl (Nat.le_of_ble_eq_true rfl) rfl rfl ?_
            refine j_goto (pc := 219) (tgt := 177) dX12_findPitches_219 rfl ?_
            refine j_ls (ls' := [(0, vR 88), (2, vI a), (3, vI i), (4, vI (f + 1))]) [0, 1, 2, 3] rfl ?_
            exact ih.2.2.2 a ⟨by omega, by omega⟩ i ⟨by omega, by omega⟩ (f + 1) ⟨by omega, by omega⟩ τ hIτ hFτ (show ∀ j : Int, 0 ≤ j → j ≤ σ 91 0 → TOK (σ 91 0) (okP σ) (τ 99) j from i0) (show a ≤ σ 91 0 from by omega) (show a < (f + 1) from by omega) (show i < τ 88 30 ∧ τ 99 a.toNat = τ 88 30 - i from by omega) (show TW (σ 91 0) (okP σ) (τ 99) a (f + 1) from (by first | exact TW_s i4 n9 | exact TW_0 (i0 a (by omega) (by omega)) (by omega))) (show (100 * (41 - i) + 41 - (f + 1)).toNat < N_ from by omega)
set_option maxHeartbeats 4000000 in
set_option maxRecDepth 100000 in
theorem c_X12_findPitches {G : tw_G} (hM : tw_isM G) (σ : tw_M) (hI : tw_I σ) : tw_C G yX12_findPitches cX12_findPitches 5 none 2 [vR 88] σ (q_X12_findPitches σ) := by
  refine tw_met [(0, vR 88)] (by decide +kernel) rfl (Nat.le_of_ble_eq_true rfl) ?_
  have ft : (1 : Int) ≤ σ 91 0 ∧ σ 91 0 ≤ 40 := hI 91 0
  refine j_aload_n (pc := 0) dX12_findPitches_0 rfl rfl ?_
  refine j_getR (pc := 1) (r := 91) fl_X12_17 dX12_findPitches_1 (a_88 hM) rfl ?_
  refine j_iconst (pc := 4) dX12_findPitches_4 ?_
  refine j_iald (pc := 5) dX12_findPitches_5 (a_91 hM) (by omega) (by omega) (by decide) ?_
  refine j_topV (show σ 91 (Int.toNat 0) = σ 91 0 from rfl) ?_
  have f48 : (1 : Int) ≤ σ 91 0 ∧ σ 91 0 ≤ 40 := hI 91 0
  refine j_istore_n (pc := 6) (i := 1) (ls' := [(0, vR 88), (1, vI (σ 91 0))]) [1, 0] dX12_findPitches_6 rfl (Nat.le_of_ble_eq_true rfl) rfl rfl ?_
  refine j_iload_n (pc := 7) dX12_findPitches_7 rfl rfl ?_
  refine j_istore_n (pc := 8) (i := 2) (ls' := [(0, vR 88), (1, vI (σ 91 0)), (2, vI (σ 91 0))]) [1, 2, 0] dX12_findPitches_8 rfl (Nat.le_of_ble_eq_true rfl) rfl rfl ?_
  refine j_ls (ls' := [(0, vR 88), (1, vI (σ 91 0)), (2, vI (σ 91 0))]) [0, 1, 2] rfl ?_
  exact (l_X12_findPitches hM σ hI (((100000 + 100 * ((σ 91 0) + 1) + 50).toNat) + 1)).1 (σ 91 0) ⟨by omega, by omega⟩ (σ 91 0) ⟨by omega, by omega⟩ σ hI (tw_F_rf) (show (σ 91 0) = σ 91 0 from by omega) (show (σ 91 0) ≤ (σ 91 0) from by omega) (show ∀ j : Int, (σ 91 0) < j → j ≤ (σ 91 0) → TOK (σ 91 0) (okP σ) (σ 99) j from (fun j h1 h2 => by exfalso; omega)) (Nat.lt_succ_self _)
