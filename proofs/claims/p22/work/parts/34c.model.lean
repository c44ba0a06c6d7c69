/-! 34c.model -/
theorem dX12_next_0 : decode cX12_next 0 = .ok (.aload_n 0, 1) := by decide +kernel
theorem dX12_next_1 : decode cX12_next 1 = .ok (.getfield 91, 3) := by decide +kernel
theorem dX12_next_4 : decode cX12_next 4 = .ok (.ifCond .le 4, 3) := by decide +kernel
theorem dX12_next_7 : decode cX12_next 7 = .ok (.return_, 1) := by decide +kernel
theorem dX12_next_8 : decode cX12_next 8 = .ok (.aload_n 0, 1) := by decide +kernel
theorem dX12_next_9 : decode cX12_next 9 = .ok (.aload_n 0, 1) := by decide +kernel
theorem dX12_next_10 : decode cX12_next 10 = .ok (.getfield 100, 3) := by decide +kernel
theorem dX12_next_13 : decode cX12_next 13 = .ok (.invokevirtual 103, 3) := by decide +kernel
theorem dX12_next_16 : decode cX12_next 16 = .ok (.bipush 32, 2) := by decide +kernel
theorem dX12_next_18 : decode cX12_next 18 = .ok (.if_icmp .ne 16, 3) := by decide +kernel
theorem dX12_next_21 : decode cX12_next 21 = .ok (.aload_n 0, 1) := by decide +kernel
theorem dX12_next_22 : decode cX12_next 22 = .ok (.dup, 1) := by decide +kernel
theorem dX12_next_23 : decode cX12_next 23 = .ok (.getfield 100, 3) := by decide +kernel
theorem dX12_next_26 : decode cX12_next 26 = .ok (.iconst 1, 1) := by decide +kernel
theorem dX12_next_27 : decode cX12_next 27 = .ok (.iadd, 1) := by decide +kernel
theorem dX12_next_28 : decode cX12_next 28 = .ok (.putfield 100, 3) := by decide +kernel
theorem dX12_next_31 : decode cX12_next 31 = .ok (.goto (-23), 3) := by decide +kernel
theorem dX12_next_34 : decode cX12_next 34 = .ok (.aload_n 0, 1) := by decide +kernel
theorem dX12_next_35 : decode cX12_next 35 = .ok (.aload_n 0, 1) := by decide +kernel
theorem dX12_next_36 : decode cX12_next 36 = .ok (.getfield 100, 3) := by decide +kernel
theorem dX12_next_39 : decode cX12_next 39 = .ok (.putfield 94, 3) := by decide +kernel
theorem dX12_next_42 : decode cX12_next 42 = .ok (.aload_n 0, 1) := by decide +kernel
theorem dX12_next_43 : decode cX12_next 43 = .ok (.aload_n 0, 1) := by decide +kernel
theorem dX12_next_44 : decode cX12_next 44 = .ok (.getfield 100, 3) := by decide +kernel
theorem dX12_next_47 : decode cX12_next 47 = .ok (.invokevirtual 103, 3) := by decide +kernel
theorem dX12_next_50 : decode cX12_next 50 = .ok (.istore_n 1, 1) := by decide +kernel
theorem dX12_next_51 : decode cX12_next 51 = .ok (.iload_n 1, 1) := by decide +kernel
theorem dX12_next_52 : decode cX12_next 52 = .ok (.ifCond .ge 11, 3) := by decide +kernel
theorem dX12_next_55 : decode cX12_next 55 = .ok (.aload_n 0, 1) := by decide +kernel
theorem dX12_next_56 : decode cX12_next 56 = .ok (.iconst 0, 1) := by decide +kernel
theorem dX12_next_57 : decode cX12_next 57 = .ok (.putfield 115, 3) := by decide +kernel
theorem dX12_next_60 : decode cX12_next 60 = .ok (.goto 214, 3) := by decide +kernel
theorem dX12_next_63 : decode cX12_next 63 = .ok (.iload_n 1, 1) := by decide +kernel
theorem dX12_next_64 : decode cX12_next 64 = .ok (.i2l, 1) := by decide +kernel
theorem dX12_next_65 : decode cX12_next 65 = .ok (.ldc2_w 118, 3) := by decide +kernel
theorem dX12_next_68 : decode cX12_next 68 = .ok (.ldc2_w 120, 3) := by decide +kernel
theorem dX12_next_71 : decode cX12_next 71 = .ok (.invokestatic 82, 3) := by decide +kernel
theorem dX12_next_74 : decode cX12_next 74 = .ok (.ifCond .eq 42, 3) := by decide +kernel
theorem dX12_next_77 : decode cX12_next 77 = .ok (.aload_n 0, 1) := by decide +kernel
theorem dX12_next_78 : decode cX12_next 78 = .ok (.iconst 1, 1) := by decide +kernel
theorem dX12_next_79 : decode cX12_next 79 = .ok (.putfield 115, 3) := by decide +kernel
theorem dX12_next_82 : decode cX12_next 82 = .ok (.aload_n 0, 1) := by decide +kernel
theorem dX12_next_83 : decode cX12_next 83 = .ok (.aload_n 0, 1) := by decide +kernel
theorem dX12_next_84 : decode cX12_next 84 = .ok (.getfield 100, 3) := by decide +kernel
theorem dX12_next_87 : decode cX12_next 87 = .ok (.invokevirtual 103, 3) := by decide +kernel
theorem dX12_next_90 : decode cX12_next 90 = .ok (.i2l, 1) := by decide +kernel
theorem dX12_next_91 : decode cX12_next 91 = .ok (.ldc2_w 118, 3) := by decide +kernel
theorem dX12_next_94 : decode cX12_next 94 = .ok (.ldc2_w 120, 3) := by decide +kernel
theorem dX12_next_97 : decode cX12_next 97 = .ok (.invokestatic 82, 3) := by decide +kernel
theorem dX12_next_100 : decode cX12_next 100 = .ok (.ifCond .eq 174, 3) := by decide +kernel
theorem dX12_next_103 : decode cX12_next 103 = .ok (.aload_n 0, 1) := by decide +kernel
theorem dX12_next_104 : decode cX12_next 104 = .ok (.dup, 1) := by decide +kernel
theorem dX12_next_105 : decode cX12_next 105 = .ok (.getfield 100, 3) := by decide +kernel
theorem dX12_next_108 : decode cX12_next 108 = .ok (.iconst 1, 1) := by decide +kernel
theorem dX12_next_109 : decode cX12_next 109 = .ok (.iadd, 1) := by decide +kernel
theorem dX12_next_110 : decode cX12_next 110 = .ok (.putfield 100, 3) := by decide +kernel
theorem dX12_next_113 : decode cX12_next 113 = .ok (.goto (-31), 3) := by decide +kernel
theorem dX12_next_116 : decode cX12_next 116 = .ok (.iload_n 1, 1) := by decide +kernel
theorem dX12_next_117 : decode cX12_next 117 = .ok (.i2l, 1) := by decide +kernel
theorem dX12_next_118 : decode cX12_next 118 = .ok (.ldc2_w 122, 3) := by decide +kernel
theorem dX12_next_121 : decode cX12_next 121 = .ok (.ldc2_w 124, 3) := by decide +kernel
theorem dX12_next_124 : decode cX12_next 124 = .ok (.invokestatic 82, 3) := by decide +kernel
theorem dX12_next_127 : decode cX12_next 127 = .ok (.ifCond .eq 116, 3) := by decide +kernel
theorem dX12_next_130 : decode cX12_next 130 = .ok (.aload_n 0, 1) := by decide +kernel
theorem dX12_next_131 : decode cX12_next 131 = .ok (.iconst 2, 1) := by decide +kernel
theorem dX12_next_132 : decode cX12_next 132 = .ok (.putfield 115, 3) := by decide +kernel
theorem dX12_next_135 : decode cX12_next 135 = .ok (.aload_n 0, 1) := by decide +kernel
theorem dX12_next_136 : decode cX12_next 136 = .ok (.iconst 0, 1) := by decide +kernel
theorem dX12_next_137 : decode cX12_next 137 = .ok (.putfield 126, 3) := by decide +kernel
theorem dX12_next_140 : decode cX12_next 140 = .ok (.aload_n 0, 1) := by decide +kernel
theorem dX12_next_141 : decode cX12_next 141 = .ok (.aload_n 0, 1) := by decide +kernel
theorem dX12_next_142 : decode cX12_next 142 = .ok (.getfield 100, 3) := by decide +kernel
theorem dX12_next_145 : decode cX12_next 145 = .ok (.invokevirtual 103, 3) := by decide +kernel
theorem dX12_next_148 : decode cX12_next 148 = .ok (.i2l, 1) := by decide +kernel
theorem dX12_next_149 : decode cX12_next 149 = .ok (.ldc2_w 122, 3) := by decide +kernel
theorem dX12_next_152 : decode cX12_next 152 = .ok (.ldc2_w 124, 3) := by decide +kernel
theorem dX12_next_155 : decode cX12_next 155 = .ok (.invokestatic 82, 3) := by decide +kernel
theorem dX12_next_158 : decode cX12_next 158 = .ok (.ifCond .eq 59, 3) := by decide +kernel
theorem dX12_next_161 : decode cX12_next 161 = .ok (.aload_n 0, 1) := by decide +kernel
theorem dX12_next_162 : decode cX12_next 162 = .ok (.aload_n 0, 1) := by decide +kernel
theorem dX12_next_163 : decode cX12_next 163 = .ok (.getfield 100, 3) := by decide +kernel
theorem dX12_next_166 : decode cX12_next 166 = .ok (.aload_n 0, 1) := by decide +kernel
theorem dX12_next_167 : decode cX12_next 167 = .ok (.getfield 94, 3) := by decide +kernel
theorem dX12_next_170 : decode cX12_next 170 = .ok (.isub, 1) := by decide +kernel
theorem dX12_next_171 : decode cX12_next 171 = .ok (.iconst 3, 1) := by decide +kernel
theorem dX12_next_172 : decode cX12_next 172 = .ok (.if_icmp .ge 25, 3) := by decide +kernel
theorem dX12_next_175 : decode cX12_next 175 = .ok (.bipush 10, 2) := by decide +kernel
theorem dX12_next_177 : decode cX12_next 177 = .ok (.aload_n 0, 1) := by decide +kernel
theorem dX12_next_178 : decode cX12_next 178 = .ok (.getfield 126, 3) := by decide +kernel
theorem dX12_next_181 : decode cX12_next 181 = .ok (.imul, 1) := by decide +kernel
theorem dX12_next_182 : decode cX12_next 182 = .ok (.aload_n 0, 1) := by decide +kernel
theorem dX12_next_183 : decode cX12_next 183 = .ok (.aload_n 0, 1) := by decide +kernel
theorem dX12_next_184 : decode cX12_next 184 = .ok (.getfield 100, 3) := by decide +kernel
theorem dX12_next_187 : decode cX12_next 187 = .ok (.invokevirtual 103, 3) := by decide +kernel
theorem dX12_next_190 : decode cX12_next 190 = .ok (.iadd, 1) := by decide +kernel
theorem dX12_next_191 : decode cX12_next 191 = .ok (.bipush 48, 2) := by decide +kernel
theorem dX12_next_193 : decode cX12_next 193 = .ok (.isub, 1) := by decide +kernel
theorem dX12_next_194 : decode cX12_next 194 = .ok (.goto 7, 3) := by decide +kernel
theorem dX12_next_197 : decode cX12_next 197 = .ok (.aload_n 0, 1) := by decide +kernel
theorem dX12_next_198 : decode cX12_next 198 = .ok (.getfield 126, 3) := by decide +kernel
theorem dX12_next_201 : decode cX12_next 201 = .ok (.putfield 126, 3) := by decide +kernel
theorem dX12_next_204 : decode cX12_next 204 = .ok (.aload_n 0, 1) := by decide +kernel
theorem dX12_next_205 : decode cX12_next 205 = .ok (.dup, 1) := by decide +kernel
theorem dX12_next_206 : decode cX12_next 206 = .ok (.getfield 100, 3) := by decide +kernel
theorem dX12_next_209 : decode cX12_next 209 = .ok (.iconst 1, 1) := by decide +kernel
theorem dX12_next_210 : decode cX12_next 210 = .ok (.iadd, 1) := by decide +kernel
theorem dX12_next_211 : decode cX12_next 211 = .ok (.putfield 100, 3) := by decide +kernel
theorem dX12_next_214 : decode cX12_next 214 = .ok (.goto (-74), 3) := by decide +kernel
theorem dX12_next_217 : decode cX12_next 217 = .ok (.aload_n 0, 1) := by decide +kernel
theorem dX12_next_218 : decode cX12_next 218 = .ok (.aload_n 0, 1) := by decide +kernel
theorem dX12_next_219 : decode cX12_next 219 = .ok (.getfield 100, 3) := by decide +kernel
theorem dX12_next_222 : decode cX12_next 222 = .ok (.aload_n 0, 1) := by decide +kernel
theorem dX12_next_223 : decode cX12_next 223 = .ok (.getfield 94, 3) := by decide +kernel
theorem dX12_next_226 : decode cX12_next 226 = .ok (.isub, 1) := by decide +kernel
theorem dX12_next_227 : decode cX12_next 227 = .ok (.iconst 3, 1) := by decide +kernel
theorem dX12_next_228 : decode cX12_next 228 = .ok (.if_icmp .gt 7, 3) := by decide +kernel
theorem dX12_next_231 : decode cX12_next 231 = .ok (.iconst 1, 1) := by decide +kernel
theorem dX12_next_232 : decode cX12_next 232 = .ok (.goto 4, 3) := by decide +kernel
theorem dX12_next_235 : decode cX12_next 235 = .ok (.iconst 0, 1) := by decide +kernel
theorem dX12_next_236 : decode cX12_next 236 = .ok (.iconst 1, 1) := by decide +kernel
theorem dX12_next_237 : decode cX12_next 237 = .ok (.invokevirtual 129, 3) := by decide +kernel
theorem dX12_next_240 : decode cX12_next 240 = .ok (.goto 34, 3) := by decide +kernel
theorem dX12_next_243 : decode cX12_next 243 = .ok (.aload_n 0, 1) := by decide +kernel
theorem dX12_next_244 : decode cX12_next 244 = .ok (.iconst 3, 1) := by decide +kernel
theorem dX12_next_245 : decode cX12_next 245 = .ok (.putfield 115, 3) := by decide +kernel
theorem dX12_next_248 : decode cX12_next 248 = .ok (.aload_n 0, 1) := by decide +kernel
theorem dX12_next_249 : decode cX12_next 249 = .ok (.iload_n 1, 1) := by decide +kernel
theorem dX12_next_250 : decode cX12_next 250 = .ok (.bipush 59, 2) := by decide +kernel
theorem dX12_next_252 : decode cX12_next 252 = .ok (.if_icmp .ne 7, 3) := by decide +kernel
theorem dX12_next_255 : decode cX12_next 255 = .ok (.iconst 1, 1) := by decide +kernel
theorem dX12_next_256 : decode cX12_next 256 = .ok (.goto 4, 3) := by decide +kernel
theorem dX12_next_259 : decode cX12_next 259 = .ok (.iconst 0, 1) := by decide +kernel
theorem dX12_next_260 : decode cX12_next 260 = .ok (.iconst 1, 1) := by decide +kernel
theorem dX12_next_261 : decode cX12_next 261 = .ok (.invokevirtual 129, 3) := by decide +kernel
theorem dX12_next_264 : decode cX12_next 264 = .ok (.aload_n 0, 1) := by decide +kernel
theorem dX12_next_265 : decode cX12_next 265 = .ok (.dup, 1) := by decide +kernel
theorem dX12_next_266 : decode cX12_next 266 = .ok (.getfield 100, 3) := by decide +kernel
theorem dX12_next_269 : decode cX12_next 269 = .ok (.iconst 1, 1) := by decide +kernel
theorem dX12_next_270 : decode cX12_next 270 = .ok (.iadd, 1) := by decide +kernel
theorem dX12_next_271 : decode cX12_next 271 = .ok (.putfield 100, 3) := by decide +kernel
theorem dX12_next_274 : decode cX12_next 274 = .ok (.return_, 1) := by decide +kernel
abbrev q_X12_next  (σ : tw_M) : Option tw_V → tw_M → Prop := fun z τ => z = none ∧ tw_I τ ∧ tw_F (fun c j => (c = 88 ∧ (j = 13 ∨ j = 14 ∨ j = 15 ∨ j = 16 ∨ j = 17 ∨ j = 18))) σ τ ∧ (¬ τ 88 17 = 0 ∨ σ 88 17 = 0) ∧ (σ 88 13 ≤ τ 88 13) ∧ (¬ τ 88 17 = 0 ∨ τ 88 15 = 0 ∨ σ 88 13 < τ 88 13) ∧ (aM τ = tok (fM σ) (aM σ))
set_option maxHeartbeats 4000000 in
set_option maxRecDepth 100000 in
theorem l_X12_next {G : tw_G} (hM : tw_isM G) (σ : tw_M) (hI : tw_I σ) : ∀ N_ : Nat, (∀  (τ : tw_M) (hIτ : tw_I τ) (hFτ : tw_F (fun c j => (c = 88 ∧ (j = 13 ∨ j = 14 ∨ j = 15 ∨ j = 16 ∨ j = 17 ∨ j = 18))) σ τ) (i0 : σ 88 13 ≤ τ 88 13) (i1 : σ 88 17 = 0) (i2 : τ 88 17 = 0) (i3 : run isS (fM σ) (τ 88 13) = run isS (fM σ) (σ 88 13)) (i4 : τ 88 18 = σ 88 18) (hm : (1000 - τ 88 13).toNat < N_), tw_J G (tw_mt RX12 cX12_next 2 none 1) (tw_E G (q_X12_next σ)) 8 [(0, vR 88)] [] τ) ∧ (∀  (τ : tw_M) (hIτ : tw_I τ) (hFτ : tw_F (fun c j => (c = 88 ∧ (j = 13 ∨ j = 14 ∨ j = 15 ∨ j = 16 ∨ j = 17 ∨ j = 18))) σ τ) (i0 : σ 88 13 < τ 88 13 ∨ (σ 88 13 ≤ τ 88 13 ∧ τ 88 13 < τ 88 12 ∧ 97 ≤ τ 98 (τ 88 13).toNat ∧ τ 98 (τ 88 13).toNat ≤ 122)) (i1 : σ 88 17 = 0) (i2 : τ 88 17 = 0) (i3 : τ 88 15 = 1) (i4 : τ 88 14 = run isS (fM σ) (σ 88 13)) (i5 : run isL (fM σ) (τ 88 13) = run isL (fM σ) (τ 88 14)) (i6 : 97 ≤ fM σ (τ 88 14) ∧ fM σ (τ 88 14) ≤ 122) (hm : (500 - τ 88 13).toNat < N_), tw_J G (tw_mt RX12 cX12_next 2 none 1) (tw_E G (q_X12_next σ)) 82 [(0, vR 88)] [] τ) ∧ (∀  (τ : tw_M) (hIτ : tw_I τ) (hFτ : tw_F (fun c j => (c = 88 ∧ (j = 13 ∨ j = 14 ∨ j = 15 ∨ j = 16 ∨ j = 17 ∨ j = 18))) σ τ) (i0 : σ 88 13 < τ 88 13 ∨ (σ 88 13 ≤ τ 88 13 ∧ τ 88 13 < τ 88 12 ∧ 48 ≤ τ 98 (τ 88 13).toNat ∧ τ 98 (τ 88 13).toNat ≤ 57)) (i1 : σ 88 17 = 0) (i2 : τ 88 17 = 0) (i3 : τ 88 15 = 2) (i4 : τ 88 14 = run isS (fM σ) (σ 88 13)) (i5 : run isG (fM σ) (τ 88 13) = run isG (fM σ) (τ 88 14)) (i6 : 48 ≤ fM σ (τ 88 14) ∧ fM σ (τ 88 14) ≤ 57) (i7 : τ 88 14 ≤ τ 88 13) (i8 : 0 ≤ τ 88 16 ∧ ((τ 88 13 - τ 88 14 = 0 ∧ τ 88 16 = 0) ∨ (τ 88 13 - τ 88 14 = 1 ∧ τ 88 16 ≤ 9) ∨ (τ 88 13 - τ 88 14 = 2 ∧ τ 88 16 ≤ 99) ∨ (3 ≤ τ 88 13 - τ 88 14 ∧ τ 88 16 ≤ 999))) (i9 : τ 88 16 = nv (fM σ) (τ 88 14) (τ 88 13 - τ 88 14).toNat) (hm : (500 - τ 88 13).toNat < N_), tw_J G (tw_mt RX12 cX12_next 2 none 1) (tw_E G (q_X12_next σ)) 140 [(0, vR 88)] [] τ) := by
  intro N_
  induction N_ with
  | zero => exact ⟨fun τ hIτ hFτ i0 i1 i2 i3 i4 hm => absurd hm (Nat.not_lt_zero _), fun τ hIτ hFτ i0 i1 i2 i3 i4 i5 i6 hm => absurd hm (Nat.not_lt_zero _), fun τ hIτ hFτ i0 i1 i2 i3 i4 i5 i6 i7 i8 i9 hm => absurd hm (Nat.not_lt_zero _)⟩
  | succ N_ ih =>
    refine ⟨?_, ?_, ?_⟩
    · intro τ hIτ hFτ i0 i1 i2 i3 i4 hm
      have f12 : (0 : Int) ≤ τ 88 12 ∧ τ 88 12 ≤ 400 := hIτ 88 12
      have fx : fM τ = fM σ := fM_F (hFτ 88 12 (show ¬ ((88 = 88 ∧ (12 = 13 ∨ 12 = 14 ∨ 12 = 15 ∨ 12 = 16 ∨ 12 = 17 ∨ 12 = 18))) from by decide)) (fun j => hFτ 98 j (show ¬ ((98 = 88 ∧ (j = 13 ∨ j = 14 ∨ j = 15 ∨ j = 16 ∨ j = 17 ∨ j = 18))) from fun h => absurd h.1 (by decide)))
      have f12s : (0 : Int) ≤ σ 88 12 ∧ σ 88 12 ≤ 400 := hI 88 12
      refine j_aload_n (pc := 8) dX12_next_8 rfl rfl ?_
      refine j_aload_n (pc := 9) dX12_next_9 rfl rfl ?_
      refine j_getI (pc := 10) fl_X12_100 dX12_next_10 (a_88 hM) rfl ?_
      have f1 : (0 : Int) ≤ τ 88 13 ∧ τ 88 13 ≤ 400 := hIτ 88 13
      refine j_callV (pc := 13) (As := [vI (τ 88 13)]) (st := []) (c_X12_look hM (τ 88 13) ⟨by omega, by omega⟩ τ hIτ) mv_X12_103 rfl rfl rfl (a_88 hM) dX12_next_13 ⟨Nat.le_of_ble_eq_true rfl, Nat.le_of_ble_eq_true rfl⟩ ⟨Nat.le_refl _, Nat.le_refl _⟩ rfl (Nat.le_of_ble_eq_true rfl) rfl (fun z2 σ3 hz2 => ?_)
      obtain ⟨r5, rfl, hr5, rfl, q4_0, q4_1⟩ := hz2
      replace q4_0 : ((τ 88 13) < τ 88 12 ∧ r5 = τ 98 (τ 88 13).toNat) ∨ (¬ (τ 88 13) < τ 88 12 ∧ r5 = -1) := q4_0
      replace q4_1 : r5 = fM τ (τ 88 13) := q4_1
      refine j_st (st' := [vI r5]) rfl ?_
      have b9 := q4_1; rw [fx] at b9
      refine j_bipush (pc := 16) dX12_next_16 rfl ?_
      refine j_icmpR_ne (pc := 18) (tgt := 34) ⟨by omega, by omega⟩ ⟨by omega, by omega⟩ dX12_next_18 rfl (fun h6 => ?_) (fun h6 => ?_)
      · have rs : τ 88 13 = run isS (fM σ) (σ 88 13) := by rw [← i3]; exact (run_n (show isS (fM σ (τ 88 13)) = false from decide_eq_false (by omega))).symm
        refine j_aload_n (pc := 34) dX12_next_34 rfl rfl ?_
        refine j_aload_n (pc := 35) dX12_next_35 rfl rfl ?_
        refine j_getI (pc := 36) fl_X12_100 dX12_next_36 (a_88 hM) rfl ?_
        refine j_putI (pc := 39) fl_X12_94 fp_X12_14 dX12_next_39 (a_88 hM) rfl (j_nm (fun σ7 (eσ7 : σ7 = tw_up τ 88 14 (τ 88 13)) => ?_))
        have hIσ7 : tw_I σ7 := tw_I_up hIτ eσ7 (show (0 : Int) ≤ τ 88 13 ∧ τ 88 13 ≤ 400 from ⟨by omega, by omega⟩)
        have hFσ7 : tw_F (fun c j => (c = 88 ∧ (j = 13 ∨ j = 14 ∨ j = 15 ∨ j = 16 ∨ j = 17 ∨ j = 18))) σ σ7 := tw_F_up hFτ eσ7 (show (88 = 88 ∧ (14 = 13 ∨ 14 = 14 ∨ 14 = 15 ∨ 14 = 16 ∨ 14 = 17 ∨ 14 = 18)) from ⟨rfl, (Or.inr (Or.inl rfl))⟩)
        refine j_aload_n (pc := 42) dX12_next_42 rfl rfl ?_
        refine j_aload_n (pc := 43) dX12_next_43 rfl rfl ?_
        refine j_getI (pc := 44) fl_X12_100 dX12_next_44 (a_88 hM) rfl ?_
        refine j_topV (show σ7 88 13 = τ 88 13 from (tw_ne1 eσ7 (by (first | decide | omega)))) ?_
        refine j_callV (pc := 47) (As := [vI (τ 88 13)]) (st := []) (c_X12_look hM (τ 88 13) ⟨by omega, by omega⟩ σ7 hIσ7) mv_X12_103 rfl rfl rfl (a_88 hM) dX12_next_47 ⟨Nat.le_of_ble_eq_true rfl, Nat.le_of_ble_eq_true rfl⟩ ⟨Nat.le_refl _, Nat.le_refl _⟩ rfl (Nat.le_of_ble_eq_true rfl) rfl (fun z8 σ9 hz8 => ?_)
        obtain ⟨r11, rfl, hr11, rfl, q10_0, q10_1⟩ := hz8
        replace q10_0 : ((τ 88 13) < σ7 88 12 ∧ r11 = σ7 98 (τ 88 13).toNat) ∨ (¬ (τ 88 13) < σ7 88 12 ∧ r11 = -1) := q10_0
        have y12 : σ7 88 12 = τ 88 12 := (tw_ne1 eσ7 (by (first | decide | omega)))
        have f13 : (0 : Int) ≤ τ 88 12 ∧ τ 88 12 ≤ 400 := hIτ 88 12
        have y14 : σ7 98 ((τ 88 13).toNat) = τ 98 ((τ 88 13).toNat) := (tw_ne1 eσ7 (by (first | decide | omega)))
        replace q10_1 : r11 = fM σ7 (τ 88 13) := q10_1
        refine j_st (st' := [vI r11]) rfl ?_
        have fy : fM σ7 = fM σ := fM_F (hFσ7 88 12 (show ¬ ((88 = 88 ∧ (12 = 13 ∨ 12 = 14 ∨ 12 = 15 ∨ 12 = 16 ∨ 12 = 17 ∨ 12 = 18))) from by decide)) (fun j => hFσ7 98 j (show ¬ ((98 = 88 ∧ (j = 13 ∨ j = 14 ∨ j = 15 ∨ j = 16 ∨ j = 17 ∨ j = 18))) from fun h => absurd h.1 (by decide)))
        have b7 := q10_1; rw [fy] at b7
        have y15 : σ7 88 14 = τ 88 13 := (tw_eq1 eσ7)
        refine j_istore_n (pc := 50) (i := 1) (ls' := [(0, vR 88), (1, vI r11)]) [1, 0] dX12_next_50 rfl (Nat.le_of_ble_eq_true rfl) rfl rfl ?_
        refine j_iload_n (pc := 51) dX12_next_51 rfl rfl ?_
        refine j_ifR_ge (pc := 52) (tgt := 63) ⟨by omega, by omega⟩ dX12_next_52 rfl (fun h16 => ?_) (fun h16 => ?_)
        · refine j_iload_n (pc := 63) dX12_next_63 rfl rfl ?_
          refine j_i2l (pc := 64) dX12_next_64 ?_
          rw [w32_eq (a := r11) (by omega) (by omega)]
          refine j_ldc2 (pc := 65) (z := 97) dX12_next_65 (tw_inc tm_6 (i := 148) rfl rfl) ?_
          refine j_ldc2 (pc := 68) (z := 122) dX12_next_68 (tw_inc tm_6 (i := 149) rfl rfl) ?_
          refine j_callS (pc := 71) (As := [vL r11, vL 97, vL 122]) (st := []) (c_X12_in r11 ⟨by omega, by omega⟩ 97 (by (first | decide | exact ⟨by omega, by omega⟩)) 122 (by (first | decide | exact ⟨by omega, by omega⟩)) σ7 hIσ7) ms_X12_82 rfl dX12_next_71 ⟨Nat.le_of_ble_eq_true rfl, Nat.le_of_ble_eq_true rfl⟩ ⟨Nat.le_refl _, Nat.le_refl _⟩ rfl (Nat.le_of_ble_eq_true rfl) rfl (fun z17 σ18 hz17 => ?_)
          obtain ⟨r20, rfl, hr20, rfl, q19_0⟩ := hz17
          replace q19_0 : (r20 = 1 ∧ (97 : Int) ≤ r11 ∧ r11 ≤ (122 : Int)) ∨ (r20 = 0 ∧ ¬ ((97 : Int) ≤ r11 ∧ r11 ≤ (122 : Int))) := q19_0
          refine j_st (st' := [vI r20]) rfl ?_
          refine j_ifR_eq (pc := 74) (tgt := 116) ⟨by omega, by omega⟩ dX12_next_74 rfl (fun h21 => ?_) (fun h21 => ?_)
          · refine j_iload_n (pc := 116) dX12_next_116 rfl rfl ?_
            refine j_i2l (pc := 117) dX12_next_117 ?_
            rw [w32_eq (a := r11) (by omega) (by omega)]
            refine j_ldc2 (pc := 118) (z := 48) dX12_next_118 (tw_inc tm_6 (i := 150) rfl rfl) ?_
            refine j_ldc2 (pc := 121) (z := 57) dX12_next_121 (tw_inc tm_6 (i := 151) rfl rfl) ?_
            refine j_callS (pc := 124) (As := [vL r11, vL 48, vL 57]) (st := []) (c_X12_in r11 ⟨by omega, by omega⟩ 48 (by (first | decide | exact ⟨by omega, by omega⟩)) 57 (by (first | decide | exact ⟨by omega, by omega⟩)) σ7 hIσ7) ms_X12_82 rfl dX12_next_124 ⟨Nat.le_of_ble_eq_true rfl, Nat.le_of_ble_eq_true rfl⟩ ⟨Nat.le_refl _, Nat.le_refl _⟩ rfl (Nat.le_of_ble_eq_true rfl) rfl (fun z22 σ23 hz22 => ?_)
            obtain ⟨r25, rfl, hr25, rfl, q24_0⟩ := hz22
            replace q24_0 : (r25 = 1 ∧ (48 : Int) ≤ r11 ∧ r11 ≤ (57 : Int)) ∨ (r25 = 0 ∧ ¬ ((48 : Int) ≤ r11 ∧ r11 ≤ (57 : Int))) := q24_0
            refine j_st (st' := [vI r25]) rfl ?_
            refine j_ifR_eq (pc := 127) (tgt := 243) ⟨by omega, by omega⟩ dX12_next_127 rfl (fun h26 => ?_) (fun h26 => ?_)
            · refine j_aload_n (pc := 243) dX12_next_243 rfl rfl ?_
              refine j_iconst (pc := 244) dX12_next_244 ?_
              refine j_putI (pc := 245) fl_X12_115 fp_X12_15 dX12_next_245 (a_88 hM) rfl (j_nm (fun σ27 (eσ27 : σ27 = tw_up σ7 88 15 3) => ?_))
              have hIσ27 : tw_I σ27 := tw_I_up hIσ7 eσ27 (show (-2147483648 : Int) ≤ 3 ∧ 3 ≤ 2147483647 from by decide)
              have hFσ27 : tw_F (fun c j => (c = 88 ∧ (j = 13 ∨ j = 14 ∨ j = 15 ∨ j = 16 ∨ j = 17 ∨ j = 18))) σ σ27 := tw_F_up hFσ7 eσ27 (show (88 = 88 ∧ (15 = 13 ∨ 15 = 14 ∨ 15 = 15 ∨ 15 = 16 ∨ 15 = 17 ∨ 15 = 18)) from ⟨rfl, (Or.inr (Or.inr (Or.inl rfl)))⟩)
              refine j_aload_n (pc := 248) dX12_next_248 rfl rfl ?_
              refine j_iload_n (pc := 249) dX12_next_249 rfl rfl ?_
              refine j_bipush (pc := 250) dX12_next_250 rfl ?_
              refine j_icmpR_ne (pc := 252) (tgt := 259) ⟨by omega, by omega⟩ ⟨by omega, by omega⟩ dX12_next_252 rfl (fun h28 => ?_) (fun h28 => ?_)
              · refine j_iconst (pc := 259) dX12_next_259 ?_
                refine j_iconst (pc := 260) dX12_next_260 ?_
                refine j_callV (pc := 261) (As := [vI 0, vI 1]) (st := []) (c_X12_needs hM 0 (by (first | decide | exact ⟨by omega, by omega⟩)) 1 (by (first | decide | exact ⟨by omega, by omega⟩)) σ27 hIσ27) mv_X12_129 rfl rfl rfl (a_88 hM) dX12_next_261 ⟨Nat.le_of_ble_eq_true rfl, Nat.le_of_ble_eq_true rfl⟩ ⟨Nat.le_refl _, Nat.le_refl _⟩ rfl (Nat.le_of_ble_eq_true rfl) rfl (fun z29 σ30 hz29 => ?_)
                obtain ⟨rfl, hIσ30, hGσ30, q31_0, q31_1, q31_2⟩ := hz29
                replace q31_0 : (¬ (0 : Int) = 0 ∧ σ30 88 17 = σ27 88 17) ∨ ((0 : Int) = 0 ∧ σ27 88 17 = 0 ∧ σ30 88 17 = (1 : Int)) ∨ ((0 : Int) = 0 ∧ ¬ σ27 88 17 = 0 ∧ σ30 88 17 = σ27 88 17) := q31_0
                have y33 : σ27 88 17 = τ 88 17 := ((tw_ne1 eσ27 (by (first | decide | omega)))).trans (tw_ne1 eσ7 (by (first | decide | omega)))
                have f34 : (0 : Int) ≤ τ 88 17 ∧ τ 88 17 ≤ 5 := hIτ 88 17
                replace q31_1 : (¬ (0 : Int) = 0 ∧ σ30 88 17 = σ27 88 17 ∧ σ30 88 18 = σ27 88 18) ∨ ((0 : Int) = 0 ∧ σ27 88 17 = 0 ∧ σ30 88 17 = (1 : Int) ∧ σ30 88 18 = σ27 88 14) ∨ ((0 : Int) = 0 ∧ ¬ σ27 88 17 = 0 ∧ σ30 88 17 = σ27 88 17 ∧ σ30 88 18 = σ27 88 18) := q31_1
                have y35 : σ27 88 17 = τ 88 17 := ((tw_ne1 eσ27 (by (first | decide | omega)))).trans (tw_ne1 eσ7 (by (first | decide | omega)))
                have y36 : σ27 88 18 = τ 88 18 := ((tw_ne1 eσ27 (by (first | decide | omega)))).trans (tw_ne1 eσ7 (by (first | decide | omega)))
                have f37 : (0 : Int) ≤ τ 88 18 ∧ τ 88 18 ≤ 400 := hIτ 88 18
                have y38 : σ27 88 14 = τ 88 13 := ((tw_ne1 eσ27 (by (first | decide | omega)))).trans (tw_eq1 eσ7)
                replace q31_2 : aM σ30 = need (decide (¬ (0 : Int) = 0)) (1 : Int) (aM σ27) := q31_2
                have hFσ30 : tw_F (fun c j => (c = 88 ∧ (j = 13 ∨ j = 14 ∨ j = 15 ∨ j = 16 ∨ j = 17 ∨ j = 18))) σ σ30 := tw_F_tr hFσ27 hGσ30 (fun c j q => (show (c = 88 ∧ (j = 13 ∨ j = 14 ∨ j = 15 ∨ j = 16 ∨ j = 17 ∨ j = 18)) from by replace q : (c = 88 ∧ (j = 17 ∨ j = 18)) := q; exact ⟨q.1, (q.2.elim (fun z => (Or.inr (Or.inr (Or.inr (Or.inr (Or.inl z)))))) (fun z => (Or.inr (Or.inr (Or.inr (Or.inr (Or.inr z)))))))⟩))
                refine j_st (st' := []) rfl ?_
                refine j_aload_n (pc := 264) dX12_next_264 rfl rfl ?_
                refine j_dup (pc := 265) dX12_next_265 rfl ?_
                refine j_getI (pc := 266) fl_X12_100 dX12_next_266 (a_88 hM) rfl ?_
                refine j_topV (show σ30 88 13 = τ 88 13 from (((hGσ30 88 13 (show ¬ ((88 = 88 ∧ (13 = 17 ∨ 13 = 18))) from by decide))).trans (tw_ne1 eσ27 (by (first | decide | omega)))).trans (tw_ne1 eσ7 (by (first | decide | omega)))) ?_
                refine j_iconst (pc := 269) dX12_next_269 ?_
                refine j_iadd (pc := 270) dX12_next_270 ?_
                refine j_putI (pc := 271) fl_X12_100 fp_X12_13 dX12_next_271 (a_88 hM) rfl (j_nm (fun σ39 (eσ39 : σ39 = tw_up σ30 88 13 ((τ 88 13) + 1)) => ?_))
                have hIσ39 : tw_I σ39 := tw_I_up hIσ30 eσ39 (show (0 : Int) ≤ (τ 88 13) + 1 ∧ (τ 88 13) + 1 ≤ 400 from ⟨by omega, by omega⟩)
                have hFσ39 : tw_F (fun c j => (c = 88 ∧ (j = 13 ∨ j = 14 ∨ j = 15 ∨ j = 16 ∨ j = 17 ∨ j = 18))) σ σ39 := tw_F_up hFσ30 eσ39 (show (88 = 88 ∧ (13 = 13 ∨ 13 = 14 ∨ 13 = 15 ∨ 13 = 16 ∨ 13 = 17 ∨ 13 = 18)) from ⟨rfl, (Or.inl rfl)⟩)
                have y40 : σ39 88 13 = (τ 88 13) + 1 := (tw_eq1 eσ39)
                have y41 : σ39 88 14 = τ 88 13 := ((((tw_ne1 eσ39 (by (first | decide | omega)))).trans (hGσ30 88 14 (show ¬ ((88 = 88 ∧ (14 = 17 ∨ 14 = 18))) from by decide))).trans (tw_ne1 eσ27 (by (first | decide | omega)))).trans (tw_eq1 eσ7)
                have y42 : σ39 88 15 = 3 := (((tw_ne1 eσ39 (by (first | decide | omega)))).trans (hGσ30 88 15 (show ¬ ((88 = 88 ∧ (15 = 17 ∨ 15 = 18))) from by decide))).trans (tw_eq1 eσ27)
                have y43 : σ39 88 16 = τ 88 16 := ((((tw_ne1 eσ39 (by (first | decide | omega)))).trans (hGσ30 88 16 (show ¬ ((88 = 88 ∧ (16 = 17 ∨ 16 = 18))) from by decide))).trans (tw_ne1 eσ27 (by (first | decide | omega)))).trans (tw_ne1 eσ7 (by (first | decide | omega)))
                have y44 : σ39 88 17 = σ30 88 17 := (tw_ne1 eσ39 (by (first | decide | omega)))
                have y45 : σ39 88 18 = σ30 88 18 := (tw_ne1 eσ39 (by (first | decide | omega)))
                have ax : aM σ39 = tok (fM σ) (aM σ) := by first | exact madv_stop (by omega) (drM_F (hFσ39 88 9 (show ¬ ((88 = 88 ∧ (9 = 13 ∨ 9 = 14 ∨ 9 = 15 ∨ 9 = 16 ∨ 9 = 17 ∨ 9 = 18))) from by decide)) (hFσ39 88 10 (show ¬ ((88 = 88 ∧ (10 = 13 ∨ 10 = 14 ∨ 10 = 15 ∨ 10 = 16 ∨ 10 = 17 ∨ 10 = 18))) from by decide)) (fun c j h => hFσ39 c j (show ¬ ((c = 88 ∧ (j = 13 ∨ j = 14 ∨ j = 15 ∨ j = 16 ∨ j = 17 ∨ j = 18))) from by omega))) (by omega) (by omega) (by rw [show σ39 88 14 = τ 88 13 from by omega]; omega) (by omega) (by omega) | exact madv_bad (by omega) (by omega) (by omega) (by omega) (by rw [show σ39 88 14 = τ 88 13 from by omega]; omega)
                have y46 : σ39 88 17 = σ30 88 17 := (tw_ne1 eσ39 (by (first | decide | omega)))
                have f47 : (0 : Int) ≤ σ30 88 17 ∧ σ30 88 17 ≤ 5 := hIσ30 88 17
                have y48 : σ39 88 13 = (τ 88 13) + 1 := (tw_eq1 eσ39)
                have y49 : σ39 88 17 = σ30 88 17 := (tw_ne1 eσ39 (by (first | decide | omega)))
                have y50 : σ39 88 15 = 3 := (((tw_ne1 eσ39 (by (first | decide | omega)))).trans (hGσ30 88 15 (show ¬ ((88 = 88 ∧ (15 = 17 ∨ 15 = 18))) from by decide))).trans (tw_eq1 eσ27)
                have y51 : σ39 88 13 = (τ 88 13) + 1 := (tw_eq1 eσ39)
                exact j_vret (pc := 274) ⟨rfl, rfl⟩ dX12_next_274 rfl ⟨rfl, hIσ39, hFσ39, by omega, by omega, by omega, (by first | exact ax | (rw [← show aM τ = _ from rfl]; exact madv_name (by omega) (drM_F (hFσ39 88 9 (show ¬ ((88 = 88 ∧ (9 = 13 ∨ 9 = 14 ∨ 9 = 15 ∨ 9 = 16 ∨ 9 = 17 ∨ 9 = 18))) from by decide)) (hFσ39 88 10 (show ¬ ((88 = 88 ∧ (10 = 13 ∨ 10 = 14 ∨ 10 = 15 ∨ 10 = 16 ∨ 10 = 17 ∨ 10 = 18))) from by decide)) (fun c j h => hFσ39 c j (show ¬ ((c = 88 ∧ (j = 13 ∨ j = 14 ∨ j = 15 ∨ j = 16 ∨ j = 17 ∨ j = 18))) from by omega))) (by omega) (by omega) (by omega) (by omega) (by rw [← i5]; exact (run_n (show isL (fM σ (τ 88 13)) = false from decide_eq_false (by omega))).symm)))⟩
              · refine j_iconst (pc := 255) dX12_next_255 ?_
                refine j_goto (pc := 256) (tgt := 260) dX12_next_256 rfl ?_
                refine j_iconst (pc := 260) dX12_next_260 ?_
                refine j_callV (pc := 261) (As := [vI 1, vI 1]) (st := []) (c_X12_needs hM 1 (by (first | decide | exact ⟨by omega, by omega⟩)) 1 (by (first | decide | exact ⟨by omega, by omega⟩)) σ27 hIσ27) mv_X12_129 rfl rfl rfl (a_88 hM) dX12_next_261 ⟨Nat.le_of_ble_eq_true rfl, Nat.le_of_ble_eq_true rfl⟩ ⟨Nat.le_refl _, Nat.le_refl _⟩ rfl (Nat.le_of_ble_eq_true rfl) rfl (fun z52 σ53 hz52 => ?_)
                obtain ⟨rfl, hIσ53, hGσ53, q54_0, q54_1, q54_2⟩ := hz52
                replace q54_0 : (¬ (1 : Int) = 0 ∧ σ53 88 17 = σ27 88 17) ∨ ((1 : Int) = 0 ∧ σ27 88 17 = 0 ∧ σ53 88 17 = (1 : Int)) ∨ ((1 : Int) = 0 ∧ ¬ σ27 88 17 = 0 ∧ σ53 88 17 = σ27 88 17) := q54_0
                have y56 : σ27 88 17 = τ 88 17 := ((tw_ne1 eσ27 (by (first | decide | omega)))).trans (tw_ne1 eσ7 (by (first | decide | omega)))
                have f57 : (0 : Int) ≤ τ 88 17 ∧ τ 88 17 ≤ 5 := hIτ 88 17
                replace q54_1 : (¬ (1 : Int) = 0 ∧ σ53 88 17 = σ27 88 17 ∧ σ53 88 18 = σ27 88 18) ∨ ((1 : Int) = 0 ∧ σ27 88 17 = 0 ∧ σ53 88 17 = (1 : Int) ∧ σ53 88 18 = σ27 88 14) ∨ ((1 : Int) = 0 ∧ ¬ σ27 88 17 = 0 ∧ σ53 88 17 = σ27 88 17 ∧ σ53 88 18 = σ27 88 18) := q54_1
                have y58 : σ27 88 17 = τ 88 17 := ((tw_ne1 eσ27 (by (first | decide | omega)))).trans (tw_ne1 eσ7 (by (first | decide | omega)))
                have y59 : σ27 88 18 = τ 88 18 := ((tw_ne1 eσ27 (by (first | decide | omega)))).trans (tw_ne1 eσ7 (by (first | decide | omega)))
                have f60 : (0 : Int) ≤ τ 88 18 ∧ τ 88 18 ≤ 400 := hIτ 88 18
                have y61 : σ27 88 14 = τ 88 13 := ((tw_ne1 eσ27 (by (first | decide | omega)))).trans (tw_eq1 eσ7)
                replace q54_2 : aM σ53 = need (decide (¬ (1 : Int) = 0)) (1 : Int) (aM σ27) := q54_2
                have hFσ53 : tw_F (fun c j => (c = 88 ∧ (j = 13 ∨ j = 14 ∨ j = 15 ∨ j = 16 ∨ j = 17 ∨ j = 18))) σ σ53 := tw_F_tr hFσ27 hGσ53 (fun c j q => (show (c = 88 ∧ (j = 13 ∨ j = 14 ∨ j = 15 ∨ j = 16 ∨ j = 17 ∨ j = 18)) from by replace q : (c = 88 ∧ (j = 17 ∨ j = 18)) := q; exact ⟨q.1, (q.2.elim (fun z => (Or.inr (Or.inr (Or.inr (Or.inr (Or.inl z)))))) (fun z => (Or.inr (Or.inr (Or.inr (Or.inr (Or.inr z)))))))⟩))
                refine j_st (st' := []) rfl ?_
                refine j_aload_n (pc := 264) dX12_next_264 rfl rfl ?_
                refine j_dup (pc := 265) dX12_next_265 rfl ?_
                refine j_getI (pc := 266) fl_X12_100 dX12_next_266 (a_88 hM) rfl ?_
                refine j_topV (show σ53 88 13 = τ 88 13 from (((hGσ53 88 13 (show ¬ ((88 = 88 ∧ (13 = 17 ∨ 13 = 18))) from by decide))).trans (tw_ne1 eσ27 (by (first | decide | omega)))).trans (tw_ne1 eσ7 (by (first | decide | omega)))) ?_
                refine j_iconst (pc := 269) dX12_next_269 ?_
                refine j_iadd (pc := 270) dX12_next_270 ?_
                refine j_putI (pc := 271) fl_X12_100 fp_X12_13 dX12_next_271 (a_88 hM) rfl (j_nm (fun σ62 (eσ62 : σ62 = tw_up σ53 88 13 ((τ 88 13) + 1)) => ?_))
                have hIσ62 : tw_I σ62 := tw_I_up hIσ53 eσ62 (show (0 : Int) ≤ (τ 88 13) + 1 ∧ (τ 88 13) + 1 ≤ 400 from ⟨by omega, by omega⟩)
                have hFσ62 : tw_F (fun c j => (c = 88 ∧ (j = 13 ∨ j = 14 ∨ j = 15 ∨ j = 16 ∨ j = 17 ∨ j = 18))) σ σ62 := tw_F_up hFσ53 eσ62 (show (88 = 88 ∧ (13 = 13 ∨ 13 = 14 ∨ 13 = 15 ∨ 13 = 16 ∨ 13 = 17 ∨ 13 = 18)) from ⟨rfl, (Or.inl rfl)⟩)
                have y63 : σ62 88 13 = (τ 88 13) + 1 := (tw_eq1 eσ62)
                have y64 : σ62 88 14 = τ 88 13 := ((((tw_ne1 eσ62 (by (first | decide | omega)))).trans (hGσ53 88 14 (show ¬ ((88 = 88 ∧ (14 = 17 ∨ 14 = 18))) from by decide))).trans (tw_ne1 eσ27 (by (first | decide | omega)))).trans (tw_eq1 eσ7)
                have y65 : σ62 88 15 = 3 := (((tw_ne1 eσ62 (by (first | decide | omega)))).trans (hGσ53 88 15 (show ¬ ((88 = 88 ∧ (15 = 17 ∨ 15 = 18))) from by decide))).trans (tw_eq1 eσ27)
                have y66 : σ62 88 16 = τ 88 16 := ((((tw_ne1 eσ62 (by (first | decide | omega)))).trans (hGσ53 88 16 (show ¬ ((88 = 88 ∧ (16 = 17 ∨ 16 = 18))) from by decide))).trans (tw_ne1 eσ27 (by (first | decide | omega)))).trans (tw_ne1 eσ7 (by (first | decide | omega)))
                have y67 : σ62 88 17 = σ53 88 17 := (tw_ne1 eσ62 (by (first | decide | omega)))
                have y68 : σ62 88 18 = σ53 88 18 := (tw_ne1 eσ62 (by (first | decide | omega)))
                have ax : aM σ62 = tok (fM σ) (aM σ) := by first | exact madv_stop (by omega) (drM_F (hFσ62 88 9 (show ¬ ((88 = 88 ∧ (9 = 13 ∨ 9 = 14 ∨ 9 = 15 ∨ 9 = 16 ∨ 9 = 17 ∨ 9 = 18))) from by decide)) (hFσ62 88 10 (show ¬ ((88 = 88 ∧ (10 = 13 ∨ 10 = 14 ∨ 10 = 15 ∨ 10 = 16 ∨ 10 = 17 ∨ 10 = 18))) from by decide)) (fun c j h => hFσ62 c j (show ¬ ((c = 88 ∧ (j = 13 ∨ j = 14 ∨ j = 15 ∨ j = 16 ∨ j = 17 ∨ j = 18))) from by omega))) (by omega) (by omega) (by rw [show σ62 88 14 = τ 88 13 from by omega]; omega) (by omega) (by omega) | exact madv_bad (by omega) (by omega) (by omega) (by omega) (by rw [show σ62 88 14 = τ 88 13 from by omega]; omega)
                have y69 : σ62 88 17 = σ53 88 17 := (tw_ne1 eσ62 (by (first | decide | omega)))
                have f70 : (0 : Int) ≤ σ53 88 17 ∧ σ53 88 17 ≤ 5 := hIσ53 88 17
                have y71 : σ62 88 13 = (τ 88 13) + 1 := (tw_eq1 eσ62)
                have y72 : σ62 88 17 = σ53 88 17 := (tw_ne1 eσ62 (by (first | decide | omega)))
                have y73 : σ62 88 15 = 3 := (((tw_ne1 eσ62 (by (first | decide | omega)))).trans (hGσ53 88 15 (show ¬ ((88 = 88 ∧ (15 = 17 ∨ 15 = 18))) from by decide))).trans (tw_eq1 eσ27)
                have y74 : σ62 88 13 = (τ 88 13) + 1 := (tw_eq1 eσ62)
                exact j_vret (pc := 274) ⟨rfl, rfl⟩ dX12_next_274 rfl ⟨rfl, hIσ62, hFσ62, by omega, by omega, by omega, (by first | exact ax | (rw [← show aM τ = _ from rfl]; exact madv_name (by omega) (drM_F (hFσ62 88 9 (show ¬ ((88 = 88 ∧ (9 = 13 ∨ 9 = 14 ∨ 9 = 15 ∨ 9 = 16 ∨ 9 = 17 ∨ 9 = 18))) from by decide)) (hFσ62 88 10 (show ¬ ((88 = 88 ∧ (10 = 13 ∨ 10 = 14 ∨ 10 = 15 ∨ 10 = 16 ∨ 10 = 17 ∨ 10 = 18))) from by decide)) (fun c j h => hFσ62 c j (show ¬ ((c = 88 ∧ (j = 13 ∨ j = 14 ∨ j = 15 ∨ j = 16 ∨ j = 17 ∨ j = 18))) from by omega))) (by omega) (by omega) (by omega) (by omega) (by rw [← i5]; exact (run_n (show isL (fM σ (τ 88 13)) = false from decide_eq_false (by omega))).symm)))⟩
            · refine j_aload_n (pc := 130) dX12_next_130 rfl rfl ?_
              refine j_iconst (pc := 131) dX12_next_131 ?_
              refine j_putI (pc := 132) fl_X12_115 fp_X12_15 dX12_next_132 (a_88 hM) rfl (j_nm (fun σ75 (eσ75 : σ75 = tw_up σ7 88 15 2) => ?_))
              have hIσ75 : tw_I σ75 := tw_I_up hIσ7 eσ75 (show (-2147483648 : Int) ≤ 2 ∧ 2 ≤ 2147483647 from by decide)
              have hFσ75 : tw_F (fun c j => (c = 88 ∧ (j = 13 ∨ j = 14 ∨ j = 15 ∨ j = 16 ∨ j = 17 ∨ j = 18))) σ σ75 := tw_F_up hFσ7 eσ75 (show (88 = 88 ∧ (15 = 13 ∨ 15 = 14 ∨ 15 = 15 ∨ 15 = 16 ∨ 15 = 17 ∨ 15 = 18)) from ⟨rfl, (Or.inr (Or.inr (Or.inl rfl)))⟩)
              refine j_aload_n (pc := 135) dX12_next_135 rfl rfl ?_
              refine j_iconst (pc := 136) dX12_next_136 ?_
              refine j_putI (pc := 137) fl_X12_126 fp_X12_16 dX12_next_137 (a_88 hM) rfl (j_nm (fun σ76 (eσ76 : σ76 = tw_up σ75 88 16 0) => ?_))
              have hIσ76 : tw_I σ76 := tw_I_up hIσ75 eσ76 (show (-2147483648 : Int) ≤ 0 ∧ 0 ≤ 2147483647 from by decide)
              have hFσ76 : tw_F (fun c j => (c = 88 ∧ (j = 13 ∨ j = 14 ∨ j = 15 ∨ j = 16 ∨ j = 17 ∨ j = 18))) σ σ76 := tw_F_up hFσ75 eσ76 (show (88 = 88 ∧ (16 = 13 ∨ 16 = 14 ∨ 16 = 15 ∨ 16 = 16 ∨ 16 = 17 ∨ 16 = 18)) from ⟨rfl, (Or.inr (Or.inr (Or.inr (Or.inl rfl))))⟩)
              refine j_ls (ls' := [(0, vR 88)]) [0] rfl ?_
              have y77 : σ76 88 13 = τ 88 13 := (((tw_ne1 eσ76 (by (first | decide | omega)))).trans (tw_ne1 eσ75 (by (first | decide | omega)))).trans (tw_ne1 eσ7 (by (first | decide | omega)))
              have y78 : σ76 88 12 = τ 88 12 := (((tw_ne1 eσ76 (by (first | decide | omega)))).trans (tw_ne1 eσ75 (by (first | decide | omega)))).trans (tw_ne1 eσ7 (by (first | decide | omega)))
              have y79 : σ76 98 ((σ76 88 13).toNat) = τ 98 ((σ76 88 13).toNat) := (((tw_ne1 eσ76 (by (first | decide | omega)))).trans (tw_ne1 eσ75 (by (first | decide | omega)))).trans (tw_ne1 eσ7 (by (first | decide | omega)))
              have y80 : σ76 88 17 = τ 88 17 := (((tw_ne1 eσ76 (by (first | decide | omega)))).trans (tw_ne1 eσ75 (by (first | decide | omega)))).trans (tw_ne1 eσ7 (by (first | decide | omega)))
              have f81 : (0 : Int) ≤ τ 88 17 ∧ τ 88 17 ≤ 5 := hIτ 88 17
              have y82 : σ76 88 15 = 2 := ((tw_ne1 eσ76 (by (first | decide | omega)))).trans (tw_eq1 eσ75)
              have y83 : σ76 88 14 = τ 88 13 := (((tw_ne1 eσ76 (by (first | decide | omega)))).trans (tw_ne1 eσ75 (by (first | decide | omega)))).trans (tw_eq1 eσ7)
              have y84 : σ76 88 13 = τ 88 13 := (((tw_ne1 eσ76 (by (first | decide | omega)))).trans (tw_ne1 eσ75 (by (first | decide | omega)))).trans (tw_ne1 eσ7 (by (first | decide | omega)))
              have y85 : σ76 88 14 = τ 88 13 := (((tw_ne1 eσ76 (by (first | decide | omega)))).trans (tw_ne1 eσ75 (by (first | decide | omega)))).trans (tw_eq1 eσ7)
              have y86 : σ76 88 14 = τ 88 13 := (((tw_ne1 eσ76 (by (first | decide | omega)))).trans (tw_ne1 eσ75 (by (first | decide | omega)))).trans (tw_eq1 eσ7)
              have y87 : σ76 88 14 = τ 88 13 := (((tw_ne1 eσ76 (by (first | decide | omega)))).trans (tw_ne1 eσ75 (by (first | decide | omega)))).trans (tw_eq1 eσ7)
              have y88 : σ76 88 13 = τ 88 13 := (((tw_ne1 eσ76 (by (first | decide | omega)))).trans (tw_ne1 eσ75 (by (first | decide | omega)))).trans (tw_ne1 eσ7 (by (first | decide | omega)))
              have y89 : σ76 88 16 = 0 := (tw_eq1 eσ76)
              have y90 : σ76 88 13 = τ 88 13 := (((tw_ne1 eσ76 (by (first | decide | omega)))).trans (tw_ne1 eσ75 (by (first | decide | omega)))).trans (tw_ne1 eσ7 (by (first | decide | omega)))
              have y91 : σ76 88 14 = τ 88 13 := (((tw_ne1 eσ76 (by (first | decide | omega)))).trans (tw_ne1 eσ75 (by (first | decide | omega)))).trans (tw_eq1 eσ7)
              have y92 : σ76 88 16 = 0 := (tw_eq1 eσ76)
              have y93 : σ76 88 14 = τ 88 13 := (((tw_ne1 eσ76 (by (first | decide | omega)))).trans (tw_ne1 eσ75 (by (first | decide | omega)))).trans (tw_eq1 eσ7)
              have y94 : σ76 88 13 = τ 88 13 := (((tw_ne1 eσ76 (by (first | decide | omega)))).trans (tw_ne1 eσ75 (by (first | decide | omega)))).trans (tw_ne1 eσ7 (by (first | decide | omega)))
              have y95 : σ76 88 13 = τ 88 13 := (((tw_ne1 eσ76 (by (first | decide | omega)))).trans (tw_ne1 eσ75 (by (first | decide | omega)))).trans (tw_ne1 eσ7 (by (first | decide | omega)))
              exact ih.2.2 σ76 hIσ76 hFσ76 (show σ 88 13 < σ76 88 13 ∨ (σ 88 13 ≤ σ76 88 13 ∧ σ76 88 13 < σ76 88 12 ∧ 48 ≤ σ76 98 (σ76 88 13).toNat ∧ σ76 98 (σ76 88 13).toNat ≤ 57) from (by first | omega | (have y9 : σ76 98 (σ76 88 13).toNat = _ := (tw_ne1 eσ76 (by (first | decide | omega))).trans (tw_ne1 eσ75 (by (first | decide | omega))); rw [show σ76 88 13 = τ 88 13 from (((tw_ne1 eσ76 (by (first | decide | omega)))).trans (tw_ne1 eσ75 (by (first | decide | omega)))).trans (tw_ne1 eσ7 (by (first | decide | omega)))] at y9 ⊢; omega))) (show σ 88 17 = 0 from by omega) (show σ76 88 17 = 0 from by omega) (show σ76 88 15 = 2 from by omega) (show σ76 88 14 = run isS (fM σ) (σ 88 13) from (by rw [show σ76 88 14 = _ from (((tw_ne1 eσ76 (by (first | decide | omega)))).trans (tw_ne1 eσ75 (by (first | decide | omega)))).trans (tw_eq1 eσ7)]; first | exact i4 | exact rs)) (show run isG (fM σ) (σ76 88 13) = run isG (fM σ) (σ76 88 14) from (by first | (rw [show σ76 88 14 = _ from (((tw_ne1 eσ76 (by (first | decide | omega)))).trans (tw_ne1 eσ75 (by (first | decide | omega)))).trans (tw_eq1 eσ7), show σ76 88 13 = _ from (((tw_ne1 eσ76 (by (first | decide | omega)))).trans (tw_ne1 eσ75 (by (first | decide | omega)))).trans (tw_ne1 eσ7 (by (first | decide | omega)))]; exact (run_s (show isG (fM σ (τ 88 13)) = true from decide_eq_true (by omega)) (by omega)).symm.trans i5) | rw [show σ76 88 14 = _ from (((tw_ne1 eσ76 (by (first | decide | omega)))).trans (tw_ne1 eσ75 (by (first | decide | omega)))).trans (tw_eq1 eσ7), show σ76 88 13 = _ from (((tw_ne1 eσ76 (by (first | decide | omega)))).trans (tw_ne1 eσ75 (by (first | decide | omega)))).trans (tw_ne1 eσ7 (by (first | decide | omega)))])) (show 48 ≤ fM σ (σ76 88 14) ∧ fM σ (σ76 88 14) ≤ 57 from (by rw [show σ76 88 14 = _ from (((tw_ne1 eσ76 (by (first | decide | omega)))).trans (tw_ne1 eσ75 (by (first | decide | omega)))).trans (tw_eq1 eσ7)]; first | exact i6 | omega)) (show σ76 88 14 ≤ σ76 88 13 from by omega) (show 0 ≤ σ76 88 16 ∧ ((σ76 88 13 - σ76 88 14 = 0 ∧ σ76 88 16 = 0) ∨ (σ76 88 13 - σ76 88 14 = 1 ∧ σ76 88 16 ≤ 9) ∨ (σ76 88 13 - σ76 88 14 = 2 ∧ σ76 88 16 ≤ 99) ∨ (3 ≤ σ76 88 13 - σ76 88 14 ∧ σ76 88 16 ≤ 999)) from by omega) (show σ76 88 16 = nv (fM σ) (σ76 88 14) (σ76 88 13 - σ76 88 14).toNat from (by rw [show σ76 88 14 = _ from (((tw_ne1 eσ76 (by (first | decide | omega)))).trans (tw_ne1 eσ75 (by (first | decide | omega)))).trans (tw_eq1 eσ7), show σ76 88 13 = _ from (((tw_ne1 eσ76 (by (first | decide | omega)))).trans (tw_ne1 eσ75 (by (first | decide | omega)))).trans (tw_ne1 eσ7 (by (first | decide | omega))), show σ76 88 16 = _ from (tw_eq1 eσ76)]; first | (rw [show (τ 88 13 - τ 88 13).toNat = 0 from by omega]; rfl) | (rw [show τ 88 13 + 1 - τ 88 14 = (τ 88 13 - τ 88 14) + 1 from by omega, nv_lt ⟨by omega, by omega⟩, show τ 88 14 + (τ 88 13 - τ 88 14) = τ 88 13 from by omega]; omega) | (rw [show τ 88 13 + 1 - τ 88 14 = (τ 88 13 - τ 88 14) + 1 from by omega, nv_ge (by omega)]; exact i9))) (show (500 - σ76 88 13).toNat < N_ from by omega)
          · refine j_aload_n (pc := 77) dX12_next_77 rfl rfl ?_
            refine j_iconst (pc := 78) dX12_next_78 ?_
            refine j_putI (pc := 79) fl_X12_115 fp_X12_15 dX12_next_79 (a_88 hM) rfl (j_nm (fun σ96 (eσ96 : σ96 = tw_up σ7 88 15 1) => ?_))
            have hIσ96 : tw_I σ96 := tw_I_up hIσ7 eσ96 (show (-2147483648 : Int) ≤ 1 ∧ 1 ≤ 2147483647 from by decide)
            have hFσ96 : tw_F (fun c j => (c = 88 ∧ (j = 13 ∨ j = 14 ∨ j = 15 ∨ j = 16 ∨ j = 17 ∨ j = 18))) σ σ96 := tw_F_up hFσ7 eσ96 (show (88 = 88 ∧ (15 = 13 ∨ 15 = 14 ∨ 15 = 15 ∨ 15 = 16 ∨ 15 = 17 ∨ 15 = 18)) from ⟨rfl, (Or.inr (Or.inr (Or.inl rfl)))⟩)
            refine j_ls (ls' := [(0, vR 88)]) [0] rfl ?_
            have y97 : σ96 88 13 = τ 88 13 := ((tw_ne1 eσ96 (by (first | decide | omega)))).trans (tw_ne1 eσ7 (by (first | decide | omega)))
            have y98 : σ96 88 12 = τ 88 12 := ((tw_ne1 eσ96 (by (first | decide | omega)))).trans (tw_ne1 eσ7 (by (first | decide | omega)))
            have y99 : σ96 98 ((σ96 88 13).toNat) = τ 98 ((σ96 88 13).toNat) := ((tw_ne1 eσ96 (by (first | decide | omega)))).trans (tw_ne1 eσ7 (by (first | decide | omega)))
            have y100 : σ96 88 17 = τ 88 17 := ((tw_ne1 eσ96 (by (first | decide | omega)))).trans (tw_ne1 eσ7 (by (first | decide | omega)))
            have f101 : (0 : Int) ≤ τ 88 17 ∧ τ 88 17 ≤ 5 := hIτ 88 17
            have y102 : σ96 88 15 = 1 := (tw_eq1 eσ96)
            have y103 : σ96 88 14 = τ 88 13 := ((tw_ne1 eσ96 (by (first | decide | omega)))).trans (tw_eq1 eσ7)
            have y104 : σ96 88 13 = τ 88 13 := ((tw_ne1 eσ96 (by (first | decide | omega)))).trans (tw_ne1 eσ7 (by (first | decide | omega)))
            have y105 : σ96 88 14 = τ 88 13 := ((tw_ne1 eσ96 (by (first | decide | omega)))).trans (tw_eq1 eσ7)
            have y106 : σ96 88 14 = τ 88 13 := ((tw_ne1 eσ96 (by (first | decide | omega)))).trans (tw_eq1 eσ7)
            have y107 : σ96 88 13 = τ 88 13 := ((tw_ne1 eσ96 (by (first | decide | omega)))).trans (tw_ne1 eσ7 (by (first | decide | omega)))
            exact ih.2.1 σ96 hIσ96 hFσ96 (show σ 88 13 < σ96 88 13 ∨ (σ 88 13 ≤ σ96 88 13 ∧ σ96 88 13 < σ96 88 12 ∧ 97 ≤ σ96 98 (σ96 88 13).toNat ∧ σ96 98 (σ96 88 13).toNat ≤ 122) from (by first | omega | (have y9 : σ96 98 (σ96 88 13).toNat = _ := tw_ne1 eσ96 (by (first | decide | omega)); rw [show σ96 88 13 = τ 88 13 from ((tw_ne1 eσ96 (by (first | decide | omega)))).trans (tw_ne1 eσ7 (by (first | decide | omega)))] at y9 ⊢; omega))) (show σ 88 17 = 0 from by omega) (show σ96 88 17 = 0 from by omega) (show σ96 88 15 = 1 from by omega) (show σ96 88 14 = run isS (fM σ) (σ 88 13) from (by rw [show σ96 88 14 = _ from ((tw_ne1 eσ96 (by (first | decide | omega)))).trans (tw_eq1 eσ7)]; first | exact i4 | exact rs)) (show run isL (fM σ) (σ96 88 13) = run isL (fM σ) (σ96 88 14) from (by first | (rw [show σ96 88 14 = _ from ((tw_ne1 eσ96 (by (first | decide | omega)))).trans (tw_eq1 eσ7), show σ96 88 13 = _ from ((tw_ne1 eσ96 (by (first | decide | omega)))).trans (tw_ne1 eσ7 (by (first | decide | omega)))]; exact (run_s (show isL (fM σ (τ 88 13)) = true from decide_eq_true (by omega)) (by omega)).symm.trans i5) | rw [show σ96 88 14 = _ from ((tw_ne1 eσ96 (by (first | decide | omega)))).trans (tw_eq1 eσ7), show σ96 88 13 = _ from ((tw_ne1 eσ96 (by (first | decide | omega)))).trans (tw_ne1 eσ7 (by (first | decide | omega)))])) (show 97 ≤ fM σ (σ96 88 14) ∧ fM σ (σ96 88 14) ≤ 122 from (by rw [show σ96 88 14 = _ from ((tw_ne1 eσ96 (by (first | decide | omega)))).trans (tw_eq1 eσ7)]; first | exact i6 | omega)) (show (500 - σ96 88 13).toNat < N_ from by omega)
        · refine j_aload_n (pc := 55) dX12_next_55 rfl rfl ?_
          refine j_iconst (pc := 56) dX12_next_56 ?_
          refine j_putI (pc := 57) fl_X12_115 fp_X12_15 dX12_next_57 (a_88 hM) rfl (j_nm (fun σ108 (eσ108 : σ108 = tw_up σ7 88 15 0) => ?_))
          have hIσ108 : tw_I σ108 := tw_I_up hIσ7 eσ108 (show (-2147483648 : Int) ≤ 0 ∧ 0 ≤ 2147483647 from by decide)
          have hFσ108 : tw_F (fun c j => (c = 88 ∧ (j = 13 ∨ j = 14 ∨ j = 15 ∨ j = 16 ∨ j = 17 ∨ j = 18))) σ σ108 := tw_F_up hFσ7 eσ108 (show (88 = 88 ∧ (15 = 13 ∨ 15 = 14 ∨ 15 = 15 ∨ 15 = 16 ∨ 15 = 17 ∨ 15 = 18)) from ⟨rfl, (Or.inr (Or.inr (Or.inl rfl)))⟩)
          have y109 : σ108 88 13 = τ 88 13 := ((tw_ne1 eσ108 (by (first | decide | omega)))).trans (tw_ne1 eσ7 (by (first | decide | omega)))
          have y110 : σ108 88 14 = τ 88 13 := ((tw_ne1 eσ108 (by (first | decide | omega)))).trans (tw_eq1 eσ7)
          have y111 : σ108 88 15 = 0 := (tw_eq1 eσ108)
          have y112 : σ108 88 16 = τ 88 16 := ((tw_ne1 eσ108 (by (first | decide | omega)))).trans (tw_ne1 eσ7 (by (first | decide | omega)))
          have y113 : σ108 88 17 = τ 88 17 := ((tw_ne1 eσ108 (by (first | decide | omega)))).trans (tw_ne1 eσ7 (by (first | decide | omega)))
          have y114 : σ108 88 18 = τ 88 18 := ((tw_ne1 eσ108 (by (first | decide | omega)))).trans (tw_ne1 eσ7 (by (first | decide | omega)))
          have ax : aM σ108 = tok (fM σ) (aM σ) := madv_end (by omega) (drM_F (hFσ108 88 9 (show ¬ ((88 = 88 ∧ (9 = 13 ∨ 9 = 14 ∨ 9 = 15 ∨ 9 = 16 ∨ 9 = 17 ∨ 9 = 18))) from by decide)) (hFσ108 88 10 (show ¬ ((88 = 88 ∧ (10 = 13 ∨ 10 = 14 ∨ 10 = 15 ∨ 10 = 16 ∨ 10 = 17 ∨ 10 = 18))) from by decide)) (fun c j h => hFσ108 c j (show ¬ ((c = 88 ∧ (j = 13 ∨ j = 14 ∨ j = 15 ∨ j = 16 ∨ j = 17 ∨ j = 18))) from by omega))) (by omega) (by omega) (by rw [show σ108 88 14 = τ 88 13 from by omega]; omega) (by omega) (by omega)
          refine j_goto (pc := 60) (tgt := 274) dX12_next_60 rfl ?_
          have y115 : σ108 88 17 = τ 88 17 := ((tw_ne1 eσ108 (by (first | decide | omega)))).trans (tw_ne1 eσ7 (by (first | decide | omega)))
          have f116 : (0 : Int) ≤ τ 88 17 ∧ τ 88 17 ≤ 5 := hIτ 88 17
          have y117 : σ108 88 13 = τ 88 13 := ((tw_ne1 eσ108 (by (first | decide | omega)))).trans (tw_ne1 eσ7 (by (first | decide | omega)))
          have y118 : σ108 88 17 = τ 88 17 := ((tw_ne1 eσ108 (by (first | decide | omega)))).trans (tw_ne1 eσ7 (by (first | decide | omega)))
          have y119 : σ108 88 15 = 0 := (tw_eq1 eσ108)
          have y120 : σ108 88 13 = τ 88 13 := ((tw_ne1 eσ108 (by (first | decide | omega)))).trans (tw_ne1 eσ7 (by (first | decide | omega)))
          exact j_vret (pc := 274) ⟨rfl, rfl⟩ dX12_next_274 rfl ⟨rfl, hIσ108, hFσ108, by omega, by omega, by omega, (by first | exact ax | (rw [← show aM τ = _ from rfl]; exact madv_name (by omega) (drM_F (hFσ108 88 9 (show ¬ ((88 = 88 ∧ (9 = 13 ∨ 9 = 14 ∨ 9 = 15 ∨ 9 = 16 ∨ 9 = 17 ∨ 9 = 18))) from by decide)) (hFσ108 88 10 (show ¬ ((88 = 88 ∧ (10 = 13 ∨ 10 = 14 ∨ 10 = 15 ∨ 10 = 16 ∨ 10 = 17 ∨ 10 = 18))) from by decide)) (fun c j h => hFσ108 c j (show ¬ ((c = 88 ∧ (j = 13 ∨ j = 14 ∨ j = 15 ∨ j = 16 ∨ j = 17 ∨ j = 18))) from by omega))) (by omega) (by omega) (by omega) (by omega) (by rw [← i5]; exact (run_n (show isL (fM σ (τ 88 13)) = false from decide_eq_false (by omega))).symm)))⟩
      · refine j_aload_n (pc := 21) dX12_next_21 rfl rfl ?_
        refine j_dup (pc := 22) dX12_next_22 rfl ?_
        refine j_getI (pc := 23) fl_X12_100 dX12_next_23 (a_88 hM) rfl ?_
        refine j_iconst (pc := 26) dX12_next_26 ?_
        refine j_iadd (pc := 27) dX12_next_27 ?_
        refine j_putI (pc := 28) fl_X12_100 fp_X12_13 dX12_next_28 (a_88 hM) rfl (j_nm (fun σ121 (eσ121 : σ121 = tw_up τ 88 13 ((τ 88 13) + 1)) => ?_))
        have hIσ121 : tw_I σ121 := tw_I_up hIτ eσ121 (show (0 : Int) ≤ (τ 88 13) + 1 ∧ (τ 88 13) + 1 ≤ 400 from ⟨by omega, by omega⟩)
        have hFσ121 : tw_F (fun c j => (c = 88 ∧ (j = 13 ∨ j = 14 ∨ j = 15 ∨ j = 16 ∨ j = 17 ∨ j = 18))) σ σ121 := tw_F_up hFτ eσ121 (show (88 = 88 ∧ (13 = 13 ∨ 13 = 14 ∨ 13 = 15 ∨ 13 = 16 ∨ 13 = 17 ∨ 13 = 18)) from ⟨rfl, (Or.inl rfl)⟩)
        refine j_goto (pc := 31) (tgt := 8) dX12_next_31 rfl ?_
        refine j_ls (ls' := [(0, vR 88)]) [0] rfl ?_
        have y122 : σ121 88 13 = (τ 88 13) + 1 := (tw_eq1 eσ121)
        have y123 : σ121 88 17 = τ 88 17 := (tw_ne1 eσ121 (by (first | decide | omega)))
        have f124 : (0 : Int) ≤ τ 88 17 ∧ τ 88 17 ≤ 5 := hIτ 88 17
        have y125 : σ121 88 13 = (τ 88 13) + 1 := (tw_eq1 eσ121)
        have y126 : σ121 88 18 = τ 88 18 := (tw_ne1 eσ121 (by (first | decide | omega)))
        have f127 : (0 : Int) ≤ τ 88 18 ∧ τ 88 18 ≤ 400 := hIτ 88 18
        have y128 : σ121 88 13 = (τ 88 13) + 1 := (tw_eq1 eσ121)
        exact ih.1 σ121 hIσ121 hFσ121 (show σ 88 13 ≤ σ121 88 13 from by omega) (show σ 88 17 = 0 from by omega) (show σ121 88 17 = 0 from by omega) (show run isS (fM σ) (σ121 88 13) = run isS (fM σ) (σ 88 13) from (by first | (rw [(tw_eq1 eσ121)]; exact (run_s (show isS (fM σ (τ 88 13)) = true from decide_eq_true (by omega)) (by omega)).symm.trans i3) | rw [(tw_eq1 eσ121)] | rfl)) (show σ121 88 18 = σ 88 18 from by omega) (show (1000 - σ121 88 13).toNat < N_ from by omega)
    · intro τ hIτ hFτ i0 i1 i2 i3 i4 i5 i6 hm
      have f12 : (0 : Int) ≤ τ 88 12 ∧ τ 88 12 ≤ 400 := hIτ 88 12
      have fx : fM τ = fM σ := fM_F (hFτ 88 12 (show ¬ ((88 = 88 ∧ (12 = 13 ∨ 12 = 14 ∨ 12 = 15 ∨ 12 = 16 ∨ 12 = 17 ∨ 12 = 18))) from by decide)) (fun j => hFτ 98 j (show ¬ ((98 = 88 ∧ (j = 13 ∨ j = 14 ∨ j = 15 ∨ j = 16 ∨ j = 17 ∨ j = 18))) from fun h => absurd h.1 (by decide)))
      have f12s : (0 : Int) ≤ σ 88 12 ∧ σ 88 12 ≤ 400 := hI 88 12
      refine j_aload_n (pc := 82) dX12_next_82 rfl rfl ?_
      refine j_aload_n (pc := 83) dX12_next_83 rfl rfl ?_
      refine j_getI (pc := 84) fl_X12_100 dX12_next_84 (a_88 hM) rfl ?_
      have f129 : (0 : Int) ≤ τ 88 13 ∧ τ 88 13 ≤ 400 := hIτ 88 13
      refine j_callV (pc := 87) (As := [vI (τ 88 13)]) (st := []) (c_X12_look hM (τ 88 13) ⟨by omega, by omega⟩ τ hIτ) mv_X12_103 rfl rfl rfl (a_88 hM) dX12_next_87 ⟨Nat.le_of_ble_eq_true rfl, Nat.le_of_ble_eq_true rfl⟩ ⟨Nat.le_refl _, Nat.le_refl _⟩ rfl (Nat.le_of_ble_eq_true rfl) rfl (fun z130 σ131 hz130 => ?_)
      obtain ⟨r133, rfl, hr133, rfl, q132_0, q132_1⟩ := hz130
      replace q132_0 : ((τ 88 13) < τ 88 12 ∧ r133 = τ 98 (τ 88 13).toNat) ∨ (¬ (τ 88 13) < τ 88 12 ∧ r133 = -1) := q132_0
      replace q132_1 : r133 = fM τ (τ 88 13) := q132_1
      refine j_st (st' := [vI r133]) rfl ?_
      have b9 := q132_1; rw [fx] at b9
      refine j_i2l (pc := 90) dX12_next_90 ?_
      rw [w32_eq (a := r133) (by omega) (by omega)]
      refine j_ldc2 (pc := 91) (z := 97) dX12_next_91 (tw_inc tm_6 (i := 148) rfl rfl) ?_
      refine j_ldc2 (pc := 94) (z := 122) dX12_next_94 (tw_inc tm_6 (i := 149) rfl rfl) ?_
      refine j_callS (pc := 97) (As := [vL r133, vL 97, vL 122]) (st := []) (c_X12_in r133 ⟨by omega, by omega⟩ 97 (by (first | decide | exact ⟨by omega, by omega⟩)) 122 (by (first | decide | exact ⟨by omega, by omega⟩)) τ hIτ) ms_X12_82 rfl dX12_next_97 ⟨Nat.le_of_ble_eq_true rfl, Nat.le_of_ble_eq_true rfl⟩ ⟨Nat.le_refl _, Nat.le_refl _⟩ rfl (Nat.le_of_ble_eq_true rfl) rfl (fun z134 σ135 hz134 => ?_)
      obtain ⟨r137, rfl, hr137, rfl, q136_0⟩ := hz134
      replace q136_0 : (r137 = 1 ∧ (97 : Int) ≤ r133 ∧ r133 ≤ (122 : Int)) ∨ (r137 = 0 ∧ ¬ ((97 : Int) ≤ r133 ∧ r133 ≤ (122 : Int))) := q136_0
      refine j_st (st' := [vI r137]) rfl ?_
      refine j_ifR_eq (pc := 100) (tgt := 274) ⟨by omega, by omega⟩ dX12_next_100 rfl (fun h138 => ?_) (fun h138 => ?_)
      · exact j_vret (pc := 274) ⟨rfl, rfl⟩ dX12_next_274 rfl ⟨rfl, hIτ, hFτ, by omega, by omega, by omega, (by first | exact ax | (rw [← show aM τ = _ from rfl]; exact madv_name (by omega) (drM_F (hFτ 88 9 (show ¬ ((88 = 88 ∧ (9 = 13 ∨ 9 = 14 ∨ 9 = 15 ∨ 9 = 16 ∨ 9 = 17 ∨ 9 = 18))) from by decide)) (hFτ 88 10 (show ¬ ((88 = 88 ∧ (10 = 13 ∨ 10 = 14 ∨ 10 = 15 ∨ 10 = 16 ∨ 10 = 17 ∨ 10 = 18))) from by decide)) (fun c j h => hFτ c j (show ¬ ((c = 88 ∧ (j = 13 ∨ j = 14 ∨ j = 15 ∨ j = 16 ∨ j = 17 ∨ j = 18))) from by omega))) (by omega) (by omega) (by omega) (by omega) (by rw [← i5]; exact (run_n (show isL (fM σ (τ 88 13)) = false from decide_eq_false (by omega))).symm)))⟩
      · refine j_aload_n (pc := 103) dX12_next_103 rfl rfl ?_
        refine j_dup (pc := 104) dX12_next_104 rfl ?_
        refine j_getI (pc := 105) fl_X12_100 dX12_next_105 (a_88 hM) rfl ?_
        refine j_iconst (pc := 108) dX12_next_108 ?_
        refine j_iadd (pc := 109) dX12_next_109 ?_
        refine j_putI (pc := 110) fl_X12_100 fp_X12_13 dX12_next_110 (a_88 hM) rfl (j_nm (fun σ139 (eσ139 : σ139 = tw_up τ 88 13 ((τ 88 13) + 1)) => ?_))
        have hIσ139 : tw_I σ139 := tw_I_up hIτ eσ139 (show (0 : Int) ≤ (τ 88 13) + 1 ∧ (τ 88 13) + 1 ≤ 400 from ⟨by omega, by omega⟩)
        have hFσ139 : tw_F (fun c j => (c = 88 ∧ (j = 13 ∨ j = 14 ∨ j = 15 ∨ j = 16 ∨ j = 17 ∨ j = 18))) σ σ139 := tw_F_up hFτ eσ139 (show (88 = 88 ∧ (13 = 13 ∨ 13 = 14 ∨ 13 = 15 ∨ 13 = 16 ∨ 13 = 17 ∨ 13 = 18)) from ⟨rfl, (Or.inl rfl)⟩)
        refine j_goto (pc := 113) (tgt := 82) dX12_next_113 rfl ?_
        refine j_ls (ls' := [(0, vR 88)]) [0] rfl ?_
        have y140 : σ139 88 13 = (τ 88 13) + 1 := (tw_eq1 eσ139)
        have y141 : σ139 88 12 = τ 88 12 := (tw_ne1 eσ139 (by (first | decide | omega)))
        have f142 : (0 : Int) ≤ τ 88 12 ∧ τ 88 12 ≤ 400 := hIτ 88 12
        have y143 : σ139 98 ((σ139 88 13).toNat) = τ 98 ((σ139 88 13).toNat) := (tw_ne1 eσ139 (by (first | decide | omega)))
        have y144 : σ139 88 17 = τ 88 17 := (tw_ne1 eσ139 (by (first | decide | omega)))
        have f145 : (0 : Int) ≤ τ 88 17 ∧ τ 88 17 ≤ 5 := hIτ 88 17
        have y146 : σ139 88 15 = τ 88 15 := (tw_ne1 eσ139 (by (first | decide | omega)))
        have f147 : (-2147483648 : Int) ≤ τ 88 15 ∧ τ 88 15 ≤ 2147483647 := hIτ 88 15
        have y148 : σ139 88 14 = τ 88 14 := (tw_ne1 eσ139 (by (first | decide | omega)))
        have f149 : (0 : Int) ≤ τ 88 14 ∧ τ 88 14 ≤ 400 := hIτ 88 14
        have y150 : σ139 88 13 = (τ 88 13) + 1 := (tw_eq1 eσ139)
        have y151 : σ139 88 14 = τ 88 14 := (tw_ne1 eσ139 (by (first | decide | omega)))
        have y152 : σ139 88 14 = τ 88 14 := (tw_ne1 eσ139 (by (first | decide | omega)))
        have y153 : σ139 88 13 = (τ 88 13) + 1 := (tw_eq1 eσ139)
        exact ih.2.1 σ139 hIσ139 hFσ139 (show σ 88 13 < σ139 88 13 ∨ (σ 88 13 ≤ σ139 88 13 ∧ σ139 88 13 < σ139 88 12 ∧ 97 ≤ σ139 98 (σ139 88 13).toNat ∧ σ139 98 (σ139 88 13).toNat ≤ 122) from (by first | omega | (have y9 : σ139 98 (σ139 88 13).toNat = _ := tw_ne1 eσ139 (by (first | decide | omega)); rw [show σ139 88 13 = τ 88 13 from (tw_eq1 eσ139)] at y9 ⊢; omega))) (show σ 88 17 = 0 from by omega) (show σ139 88 17 = 0 from by omega) (show σ139 88 15 = 1 from by omega) (show σ139 88 14 = run isS (fM σ) (σ 88 13) from (by rw [show σ139 88 14 = _ from (tw_ne1 eσ139 (by (first | decide | omega)))]; first | exact i4 | exact rs)) (show run isL (fM σ) (σ139 88 13) = run isL (fM σ) (σ139 88 14) from (by first | (rw [show σ139 88 14 = _ from (tw_ne1 eσ139 (by (first | decide | omega))), show σ139 88 13 = _ from (tw_eq1 eσ139)]; exact (run_s (show isL (fM σ (τ 88 13)) = true from decide_eq_true (by omega)) (by omega)).symm.trans i5) | rw [show σ139 88 14 = _ from (tw_ne1 eσ139 (by (first | decide | omega))), show σ139 88 13 = _ from (tw_eq1 eσ139)])) (show 97 ≤ fM σ (σ139 88 14) ∧ fM σ (σ139 88 14) ≤ 122 from (by rw [show σ139 88 14 = _ from (tw_ne1 eσ139 (by (first | decide | omega)))]; first | exact i6 | omega)) (show (500 - σ139 88 13).toNat < N_ from by omega)
    · intro τ hIτ hFτ i0 i1 i2 i3 i4 i5 i6 i7 i8 i9 hm
      have f12 : (0 : Int) ≤ τ 88 12 ∧ τ 88 12 ≤ 400 := hIτ 88 12
      have fx : fM τ = fM σ := fM_F (hFτ 88 12 (show ¬ ((88 = 88 ∧ (12 = 13 ∨ 12 = 14 ∨ 12 = 15 ∨ 12 = 16 ∨ 12 = 17 ∨ 12 = 18))) from by decide)) (fun j => hFτ 98 j (show ¬ ((98 = 88 ∧ (j = 13 ∨ j = 14 ∨ j = 15 ∨ j = 16 ∨ j = 17 ∨ j = 18))) from fun h => absurd h.1 (by decide)))
      have f12s : (0 : Int) ≤ σ 88 12 ∧ σ 88 12 ≤ 400 := hI 88 12
      refine j_aload_n (pc := 140) dX12_next_140 rfl rfl ?_
      refine j_aload_n (pc := 141) dX12_next_141 rfl rfl ?_
      refine j_getI (pc := 142) fl_X12_100 dX12_next_142 (a_88 hM) rfl ?_
      have f154 : (0 : Int) ≤ τ 88 13 ∧ τ 88 13 ≤ 400 := hIτ 88 13
      refine j_callV (pc := 145) (As := [vI (τ 88 13)]) (st := []) (c_X12_look hM (τ 88 13) ⟨by omega, by omega⟩ τ hIτ) mv_X12_103 rfl rfl rfl (a_88 hM) dX12_next_145 ⟨Nat.le_of_ble_eq_true rfl, Nat.le_of_ble_eq_true rfl⟩ ⟨Nat.le_refl _, Nat.le_refl _⟩ rfl (Nat.le_of_ble_eq_true rfl) rfl (fun z155 σ156 hz155 => ?_)
      obtain ⟨r158, rfl, hr158, rfl, q157_0, q157_1⟩ := hz155
      replace q157_0 : ((τ 88 13) < τ 88 12 ∧ r158 = τ 98 (τ 88 13).toNat) ∨ (¬ (τ 88 13) < τ 88 12 ∧ r158 = -1) := q157_0
      replace q157_1 : r158 = fM τ (τ 88 13) := q157_1
      refine j_st (st' := [vI r158]) rfl ?_
      have b9 := q157_1; rw [fx] at b9
      refine j_i2l (pc := 148) dX12_next_148 ?_
      rw [w32_eq (a := r158) (by omega) (by omega)]
      refine j_ldc2 (pc := 149) (z := 48) dX12_next_149 (tw_inc tm_6 (i := 150) rfl rfl) ?_
      refine j_ldc2 (pc := 152) (z := 57) dX12_next_152 (tw_inc tm_6 (i := 151) rfl rfl) ?_
      refine j_callS (pc := 155) (As := [vL r158, vL 48, vL 57]) (st := []) (c_X12_in r158 ⟨by omega, by omega⟩ 48 (by (first | decide | exact ⟨by omega, by omega⟩)) 57 (by (first | decide | exact ⟨by omega, by omega⟩)) τ hIτ) ms_X12_82 rfl dX12_next_155 ⟨Nat.le_of_ble_eq_true rfl, Nat.le_of_ble_eq_true rfl⟩ ⟨Nat.le_refl _, Nat.le_refl _⟩ rfl (Nat.le_of_ble_eq_true rfl) rfl (fun z159 σ160 hz159 => ?_)
      obtain ⟨r162, rfl, hr162, rfl, q161_0⟩ := hz159
      replace q161_0 : (r162 = 1 ∧ (48 : Int) ≤ r158 ∧ r158 ≤ (57 : Int)) ∨ (r162 = 0 ∧ ¬ ((48 : Int) ≤ r158 ∧ r158 ≤ (57 : Int))) := q161_0
      refine j_st (st' := [vI r162]) rfl ?_
      refine j_ifR_eq (pc := 158) (tgt := 217) ⟨by omega, by omega⟩ dX12_next_158 rfl (fun h163 => ?_) (fun h163 => ?_)
      · have rg : τ 88 13 = run isG (fM σ) (τ 88 14) := by rw [← i5]; exact (run_n (show isG (fM σ (τ 88 13)) = false from decide_eq_false (by omega))).symm
        refine j_aload_n (pc := 217) dX12_next_217 rfl rfl ?_
        refine j_aload_n (pc := 218) dX12_next_218 rfl rfl ?_
        refine j_getI (pc := 219) fl_X12_100 dX12_next_219 (a_88 hM) rfl ?_
        refine j_aload_n (pc := 222) dX12_next_222 rfl rfl ?_
        refine j_getI (pc := 223) fl_X12_94 dX12_next_223 (a_88 hM) rfl ?_
        have f164 : (0 : Int) ≤ τ 88 14 ∧ τ 88 14 ≤ 400 := hIτ 88 14
        refine j_isub (pc := 226) dX12_next_226 ?_
        refine j_iconst (pc := 227) dX12_next_227 ?_
        refine j_icmpR_gt (pc := 228) (tgt := 235) ⟨by omega, by omega⟩ ⟨by omega, by omega⟩ dX12_next_228 rfl (fun h165 => ?_) (fun h165 => ?_)
        · refine j_iconst (pc := 235) dX12_next_235 ?_
          refine j_iconst (pc := 236) dX12_next_236 ?_
          refine j_callV (pc := 237) (As := [vI 0, vI 1]) (st := []) (c_X12_needs hM 0 (by (first | decide | exact ⟨by omega, by omega⟩)) 1 (by (first | decide | exact ⟨by omega, by omega⟩)) τ hIτ) mv_X12_129 rfl rfl rfl (a_88 hM) dX12_next_237 ⟨Nat.le_of_ble_eq_true rfl, Nat.le_of_ble_eq_true rfl⟩ ⟨Nat.le_refl _, Nat.le_refl _⟩ rfl (Nat.le_of_ble_eq_true rfl) rfl (fun z166 σ167 hz166 => ?_)
          obtain ⟨rfl, hIσ167, hGσ167, q168_0, q168_1, q168_2⟩ := hz166
          replace q168_0 : (¬ (0 : Int) = 0 ∧ σ167 88 17 = τ 88 17) ∨ ((0 : Int) = 0 ∧ τ 88 17 = 0 ∧ σ167 88 17 = (1 : Int)) ∨ ((0 : Int) = 0 ∧ ¬ τ 88 17 = 0 ∧ σ167 88 17 = τ 88 17) := q168_0
          replace q168_1 : (¬ (0 : Int) = 0 ∧ σ167 88 17 = τ 88 17 ∧ σ167 88 18 = τ 88 18) ∨ ((0 : Int) = 0 ∧ τ 88 17 = 0 ∧ σ167 88 17 = (1 : Int) ∧ σ167 88 18 = τ 88 14) ∨ ((0 : Int) = 0 ∧ ¬ τ 88 17 = 0 ∧ σ167 88 17 = τ 88 17 ∧ σ167 88 18 = τ 88 18) := q168_1
          replace q168_2 : aM σ167 = need (decide (¬ (0 : Int) = 0)) (1 : Int) (aM τ) := q168_2
          have hFσ167 : tw_F (fun c j => (c = 88 ∧ (j = 13 ∨ j = 14 ∨ j = 15 ∨ j = 16 ∨ j = 17 ∨ j = 18))) σ σ167 := tw_F_tr hFτ hGσ167 (fun c j q => (show (c = 88 ∧ (j = 13 ∨ j = 14 ∨ j = 15 ∨ j = 16 ∨ j = 17 ∨ j = 18)) from by replace q : (c = 88 ∧ (j = 17 ∨ j = 18)) := q; exact ⟨q.1, (q.2.elim (fun z => (Or.inr (Or.inr (Or.inr (Or.inr (Or.inl z)))))) (fun z => (Or.inr (Or.inr (Or.inr (Or.inr (Or.inr z)))))))⟩))
          refine j_st (st' := []) rfl ?_
          have y170 : σ167 88 13 = τ 88 13 := (hGσ167 88 13 (show ¬ ((88 = 88 ∧ (13 = 17 ∨ 13 = 18))) from by decide))
          have y171 : σ167 88 14 = τ 88 14 := (hGσ167 88 14 (show ¬ ((88 = 88 ∧ (14 = 17 ∨ 14 = 18))) from by decide))
          have y172 : σ167 88 15 = τ 88 15 := (hGσ167 88 15 (show ¬ ((88 = 88 ∧ (15 = 17 ∨ 15 = 18))) from by decide))
          have y173 : σ167 88 16 = τ 88 16 := (hGσ167 88 16 (show ¬ ((88 = 88 ∧ (16 = 17 ∨ 16 = 18))) from by decide))
          skip
          skip
          have ax : aM σ167 = tok (fM σ) (aM σ) := by (rcases (show τ 88 13 - τ 88 14 ≤ 3 ∨ 3 < τ 88 13 - τ 88 14 from by omega) with u | u); (exact madv_num (by omega) (drM_F (hFσ167 88 9 (show ¬ ((88 = 88 ∧ (9 = 13 ∨ 9 = 14 ∨ 9 = 15 ∨ 9 = 16 ∨ 9 = 17 ∨ 9 = 18))) from by decide)) (hFσ167 88 10 (show ¬ ((88 = 88 ∧ (10 = 13 ∨ 10 = 14 ∨ 10 = 15 ∨ 10 = 16 ∨ 10 = 17 ∨ 10 = 18))) from by decide)) (fun c j h => hFσ167 c j (show ¬ ((c = 88 ∧ (j = 13 ∨ j = 14 ∨ j = 15 ∨ j = 16 ∨ j = 17 ∨ j = 18))) from by omega))) (by omega) (by omega) (by rw [show σ167 88 14 = τ 88 14 from by omega]; omega) (by omega) (by rw [show σ167 88 14 = τ 88 14 from by omega, show σ167 88 13 = τ 88 13 from by omega]; exact rg) (by rw [show σ167 88 14 = τ 88 14 from by omega, show σ167 88 13 = τ 88 13 from by omega, show σ167 88 16 = τ 88 16 from by omega]; exact i9) (by omega)); (exact madv_long (by omega) (by omega) (by omega) (by omega) (by rw [show σ167 88 14 = τ 88 14 from by omega]; omega) (by rw [show σ167 88 14 = τ 88 14 from by omega, show σ167 88 13 = τ 88 13 from by omega]; exact rg) (by omega))
          refine j_goto (pc := 240) (tgt := 274) dX12_next_240 rfl ?_
          have y174 : σ167 88 13 = τ 88 13 := (hGσ167 88 13 (show ¬ ((88 = 88 ∧ (13 = 17 ∨ 13 = 18))) from by decide))
          have y175 : σ167 88 15 = τ 88 15 := (hGσ167 88 15 (show ¬ ((88 = 88 ∧ (15 = 17 ∨ 15 = 18))) from by decide))
          have f176 : (-2147483648 : Int) ≤ τ 88 15 ∧ τ 88 15 ≤ 2147483647 := hIτ 88 15
          have y177 : σ167 88 13 = τ 88 13 := (hGσ167 88 13 (show ¬ ((88 = 88 ∧ (13 = 17 ∨ 13 = 18))) from by decide))
          exact j_vret (pc := 274) ⟨rfl, rfl⟩ dX12_next_274 rfl ⟨rfl, hIσ167, hFσ167, by omega, by omega, by omega, (by first | exact ax | (rw [← show aM τ = _ from rfl]; exact madv_name (by omega) (drM_F (hFσ167 88 9 (show ¬ ((88 = 88 ∧ (9 = 13 ∨ 9 = 14 ∨ 9 = 15 ∨ 9 = 16 ∨ 9 = 17 ∨ 9 = 18))) from by decide)) (hFσ167 88 10 (show ¬ ((88 = 88 ∧ (10 = 13 ∨ 10 = 14 ∨ 10 = 15 ∨ 10 = 16 ∨ 10 = 17 ∨ 10 = 18))) from by decide)) (fun c j h => hFσ167 c j (show ¬ ((c = 88 ∧ (j = 13 ∨ j = 14 ∨ j = 15 ∨ j = 16 ∨ j = 17 ∨ j = 18))) from by omega))) (by omega) (by omega) (by omega) (by omega) (by rw [← i5]; exact (run_n (show isL (fM σ (τ 88 13)) = false from decide_eq_false (by omega))).symm)))⟩
        · refine j_iconst (pc := 231) dX12_next_231 ?_
          refine j_goto (pc := 232) (tgt := 236) dX12_next_232 rfl ?_
          refine j_iconst (pc := 236) dX12_next_236 ?_
          refine j_callV (pc := 237) (As := [vI 1, vI 1]) (st := []) (c_X12_needs hM 1 (by (first | decide | exact ⟨by omega, by omega⟩)) 1 (by (first | decide | exact ⟨by omega, by omega⟩)) τ hIτ) mv_X12_129 rfl rfl rfl (a_88 hM) dX12_next_237 ⟨Nat.le_of_ble_eq_true rfl, Nat.le_of_ble_eq_true rfl⟩ ⟨Nat.le_refl _, Nat.le_refl _⟩ rfl (Nat.le_of_ble_eq_true rfl) rfl (fun z178 σ179 hz178 => ?_)
          obtain ⟨rfl, hIσ179, hGσ179, q180_0, q180_1, q180_2⟩ := hz178
          replace q180_0 : (¬ (1 : Int) = 0 ∧ σ179 88 17 = τ 88 17) ∨ ((1 : Int) = 0 ∧ τ 88 17 = 0 ∧ σ179 88 17 = (1 : Int)) ∨ ((1 : Int) = 0 ∧ ¬ τ 88 17 = 0 ∧ σ179 88 17 = τ 88 17) := q180_0
          replace q180_1 : (¬ (1 : Int) = 0 ∧ σ179 88 17 = τ 88 17 ∧ σ179 88 18 = τ 88 18) ∨ ((1 : Int) = 0 ∧ τ 88 17 = 0 ∧ σ179 88 17 = (1 : Int) ∧ σ179 88 18 = τ 88 14) ∨ ((1 : Int) = 0 ∧ ¬ τ 88 17 = 0 ∧ σ179 88 17 = τ 88 17 ∧ σ179 88 18 = τ 88 18) := q180_1
          replace q180_2 : aM σ179 = need (decide (¬ (1 : Int) = 0)) (1 : Int) (aM τ) := q180_2
          have hFσ179 : tw_F (fun c j => (c = 88 ∧ (j = 13 ∨ j = 14 ∨ j = 15 ∨ j = 16 ∨ j = 17 ∨ j = 18))) σ σ179 := tw_F_tr hFτ hGσ179 (fun c j q => (show (c = 88 ∧ (j = 13 ∨ j = 14 ∨ j = 15 ∨ j = 16 ∨ j = 17 ∨ j = 18)) from by replace q : (c = 88 ∧ (j = 17 ∨ j = 18)) := q; exact ⟨q.1, (q.2.elim (fun z => (Or.inr (Or.inr (Or.inr (Or.inr (Or.inl z)))))) (fun z => (Or.inr (Or.inr (Or.inr (Or.inr (Or.inr z)))))))⟩))
          refine j_st (st' := []) rfl ?_
          have y182 : σ179 88 13 = τ 88 13 := (hGσ179 88 13 (show ¬ ((88 = 88 ∧ (13 = 17 ∨ 13 = 18))) from by decide))
          have y183 : σ179 88 14 = τ 88 14 := (hGσ179 88 14 (show ¬ ((88 = 88 ∧ (14 = 17 ∨ 14 = 18))) from by decide))
          have y184 : σ179 88 15 = τ 88 15 := (hGσ179 88 15 (show ¬ ((88 = 88 ∧ (15 = 17 ∨ 15 = 18))) from by decide))
          have y185 : σ179 88 16 = τ 88 16 := (hGσ179 88 16 (show ¬ ((88 = 88 ∧ (16 = 17 ∨ 16 = 18))) from by decide))
          skip
          skip
          have ax : aM σ179 = tok (fM σ) (aM σ) := by (rcases (show τ 88 13 - τ 88 14 ≤ 3 ∨ 3 < τ 88 13 - τ 88 14 from by omega) with u | u); (exact madv_num (by omega) (drM_F (hFσ179 88 9 (show ¬ ((88 = 88 ∧ (9 = 13 ∨ 9 = 14 ∨ 9 = 15 ∨ 9 = 16 ∨ 9 = 17 ∨ 9 = 18))) from by decide)) (hFσ179 88 10 (show ¬ ((88 = 88 ∧ (10 = 13 ∨ 10 = 14 ∨ 10 = 15 ∨ 10 = 16 ∨ 10 = 17 ∨ 10 = 18))) from by decide)) (fun c j h => hFσ179 c j (show ¬ ((c = 88 ∧ (j = 13 ∨ j = 14 ∨ j = 15 ∨ j = 16 ∨ j = 17 ∨ j = 18))) from by omega))) (by omega) (by omega) (by rw [show σ179 88 14 = τ 88 14 from by omega]; omega) (by omega) (by rw [show σ179 88 14 = τ 88 14 from by omega, show σ179 88 13 = τ 88 13 from by omega]; exact rg) (by rw [show σ179 88 14 = τ 88 14 from by omega, show σ179 88 13 = τ 88 13 from by omega, show σ179 88 16 = τ 88 16 from by omega]; exact i9) (by omega)); (exact madv_long (by omega) (by omega) (by omega) (by omega) (by rw [show σ179 88 14 = τ 88 14 from by omega]; omega) (by rw [show σ179 88 14 = τ 88 14 from by omega, show σ179 88 13 = τ 88 13 from by omega]; exact rg) (by omega))
          refine j_goto (pc := 240) (tgt := 274) dX12_next_240 rfl ?_
          have y186 : σ179 88 13 = τ 88 13 := (hGσ179 88 13 (show ¬ ((88 = 88 ∧ (13 = 17 ∨ 13 = 18))) from by decide))
          have y187 : σ179 88 15 = τ 88 15 := (hGσ179 88 15 (show ¬ ((88 = 88 ∧ (15 = 17 ∨ 15 = 18))) from by decide))
          have f188 : (-2147483648 : Int) ≤ τ 88 15 ∧ τ 88 15 ≤ 2147483647 := hIτ 88 15
          have y189 : σ179 88 13 = τ 88 13 := (hGσ179 88 13 (show ¬ ((88 = 88 ∧ (13 = 17 ∨ 13 = 18))) from by decide))
          exact j_vret (pc := 274) ⟨rfl, rfl⟩ dX12_next_274 rfl ⟨rfl, hIσ179, hFσ179, by omega, by omega, by omega, (by first | exact ax | (rw [← show aM τ = _ from rfl]; exact madv_name (by omega) (drM_F (hFσ179 88 9 (show ¬ ((88 = 88 ∧ (9 = 13 ∨ 9 = 14 ∨ 9 = 15 ∨ 9 = 16 ∨ 9 = 17 ∨ 9 = 18))) from by decide)) (hFσ179 88 10 (show ¬ ((88 = 88 ∧ (10 = 13 ∨ 10 = 14 ∨ 10 = 15 ∨ 10 = 16 ∨ 10 = 17 ∨ 10 = 18))) from by decide)) (fun c j h => hFσ179 c j (show ¬ ((c = 88 ∧ (j = 13 ∨ j = 14 ∨ j = 15 ∨ j = 16 ∨ j = 17 ∨ j = 18))) from by omega))) (by omega) (by omega) (by omega) (by omega) (by rw [← i5]; exact (run_n (show isL (fM σ (τ 88 13)) = false from decide_eq_false (by omega))).symm)))⟩
      · refine j_aload_n (pc := 161) dX12_next_161 rfl rfl ?_
        refine j_aload_n (pc := 162) dX12_next_162 rfl rfl ?_
        refine j_getI (pc := 163) fl_X12_100 dX12_next_163 (a_88 hM) rfl ?_
        refine j_aload_n (pc := 166) dX12_next_166 rfl rfl ?_
        refine j_getI (pc := 167) fl_X12_94 dX12_next_167 (a_88 hM) rfl ?_
        have f190 : (0 : Int) ≤ τ 88 14 ∧ τ 88 14 ≤ 400 := hIτ 88 14
        refine j_isub (pc := 170) dX12_next_170 ?_
        refine j_iconst (pc := 171) dX12_next_171 ?_
        refine j_icmpR_ge (pc := 172) (tgt := 197) ⟨by omega, by omega⟩ ⟨by omega, by omega⟩ dX12_next_172 rfl (fun h191 => ?_) (fun h191 => ?_)
        · refine j_aload_n (pc := 197) dX12_next_197 rfl rfl ?_
          refine j_getI (pc := 198) fl_X12_126 dX12_next_198 (a_88 hM) rfl ?_
          have f192 : (-2147483648 : Int) ≤ τ 88 16 ∧ τ 88 16 ≤ 2147483647 := hIτ 88 16
          refine j_putI (pc := 201) fl_X12_126 fp_X12_16 dX12_next_201 (a_88 hM) rfl (j_nm (fun σ193 (eσ193 : σ193 = tw_up τ 88 16 (τ 88 16)) => ?_))
          have hIσ193 : tw_I σ193 := tw_I_up hIτ eσ193 (show (-2147483648 : Int) ≤ τ 88 16 ∧ τ 88 16 ≤ 2147483647 from ⟨by omega, by omega⟩)
          have hFσ193 : tw_F (fun c j => (c = 88 ∧ (j = 13 ∨ j = 14 ∨ j = 15 ∨ j = 16 ∨ j = 17 ∨ j = 18))) σ σ193 := tw_F_up hFτ eσ193 (show (88 = 88 ∧ (16 = 13 ∨ 16 = 14 ∨ 16 = 15 ∨ 16 = 16 ∨ 16 = 17 ∨ 16 = 18)) from ⟨rfl, (Or.inr (Or.inr (Or.inr (Or.inl rfl))))⟩)
          refine j_aload_n (pc := 204) dX12_next_204 rfl rfl ?_
          refine j_dup (pc := 205) dX12_next_205 rfl ?_
          refine j_getI (pc := 206) fl_X12_100 dX12_next_206 (a_88 hM) rfl ?_
          refine j_topV (show σ193 88 13 = τ 88 13 from (tw_ne1 eσ193 (by (first | decide | omega)))) ?_
          refine j_iconst (pc := 209) dX12_next_209 ?_
          refine j_iadd (pc := 210) dX12_next_210 ?_
          refine j_putI (pc := 211) fl_X12_100 fp_X12_13 dX12_next_211 (a_88 hM) rfl (j_nm (fun σ194 (eσ194 : σ194 = tw_up σ193 88 13 ((τ 88 13) + 1)) => ?_))
          have hIσ194 : tw_I σ194 := tw_I_up hIσ193 eσ194 (show (0 : Int) ≤ (τ 88 13) + 1 ∧ (τ 88 13) + 1 ≤ 400 from ⟨by omega, by omega⟩)
          have hFσ194 : tw_F (fun c j => (c = 88 ∧ (j = 13 ∨ j = 14 ∨ j = 15 ∨ j = 16 ∨ j = 17 ∨ j = 18))) σ σ194 := tw_F_up hFσ193 eσ194 (show (88 = 88 ∧ (13 = 13 ∨ 13 = 14 ∨ 13 = 15 ∨ 13 = 16 ∨ 13 = 17 ∨ 13 = 18)) from ⟨rfl, (Or.inl rfl)⟩)
          refine j_goto (pc := 214) (tgt := 140) dX12_next_214 rfl ?_
          refine j_ls (ls' := [(0, vR 88)]) [0] rfl ?_
          have y195 : σ194 88 13 = (τ 88 13) + 1 := (tw_eq1 eσ194)
          have y196 : σ194 88 12 = τ 88 12 := ((tw_ne1 eσ194 (by (first | decide | omega)))).trans (tw_ne1 eσ193 (by (first | decide | omega)))
          have f197 : (0 : Int) ≤ τ 88 12 ∧ τ 88 12 ≤ 400 := hIτ 88 12
          have y198 : σ194 98 ((σ194 88 13).toNat) = τ 98 ((σ194 88 13).toNat) := ((tw_ne1 eσ194 (by (first | decide | omega)))).trans (tw_ne1 eσ193 (by (first | decide | omega)))
          have y199 : σ194 88 17 = τ 88 17 := ((tw_ne1 eσ194 (by (first | decide | omega)))).trans (tw_ne1 eσ193 (by (first | decide | omega)))
          have f200 : (0 : Int) ≤ τ 88 17 ∧ τ 88 17 ≤ 5 := hIτ 88 17
          have y201 : σ194 88 15 = τ 88 15 := ((tw_ne1 eσ194 (by (first | decide | omega)))).trans (tw_ne1 eσ193 (by (first | decide | omega)))
          have f202 : (-2147483648 : Int) ≤ τ 88 15 ∧ τ 88 15 ≤ 2147483647 := hIτ 88 15
          have y203 : σ194 88 14 = τ 88 14 := ((tw_ne1 eσ194 (by (first | decide | omega)))).trans (tw_ne1 eσ193 (by (first | decide | omega)))
          have y204 : σ194 88 13 = (τ 88 13) + 1 := (tw_eq1 eσ194)
          have y205 : σ194 88 14 = τ 88 14 := ((tw_ne1 eσ194 (by (first | decide | omega)))).trans (tw_ne1 eσ193 (by (first | decide | omega)))
          have y206 : σ194 88 14 = τ 88 14 := ((tw_ne1 eσ194 (by (first | decide | omega)))).trans (tw_ne1 eσ193 (by (first | decide | omega)))
          have y207 : σ194 88 14 = τ 88 14 := ((tw_ne1 eσ194 (by (first | decide | omega)))).trans (tw_ne1 eσ193 (by (first | decide | omega)))
          have y208 : σ194 88 13 = (τ 88 13) + 1 := (tw_eq1 eσ194)
          have y209 : σ194 88 16 = τ 88 16 := ((tw_ne1 eσ194 (by (first | decide | omega)))).trans (tw_eq1 eσ193)
          have y210 : σ194 88 13 = (τ 88 13) + 1 := (tw_eq1 eσ194)
          have y211 : σ194 88 14 = τ 88 14 := ((tw_ne1 eσ194 (by (first | decide | omega)))).trans (tw_ne1 eσ193 (by (first | decide | omega)))
          have y212 : σ194 88 16 = τ 88 16 := ((tw_ne1 eσ194 (by (first | decide | omega)))).trans (tw_eq1 eσ193)
          have y213 : σ194 88 14 = τ 88 14 := ((tw_ne1 eσ194 (by (first | decide | omega)))).trans (tw_ne1 eσ193 (by (first | decide | omega)))
          have y214 : σ194 88 13 = (τ 88 13) + 1 := (tw_eq1 eσ194)
          have y215 : σ194 88 13 = (τ 88 13) + 1 := (tw_eq1 eσ194)
          exact ih.2.2 σ194 hIσ194 hFσ194 (show σ 88 13 < σ194 88 13 ∨ (σ 88 13 ≤ σ194 88 13 ∧ σ194 88 13 < σ194 88 12 ∧ 48 ≤ σ194 98 (σ194 88 13).toNat ∧ σ194 98 (σ194 88 13).toNat ≤ 57) from (by first | omega | (have y9 : σ194 98 (σ194 88 13).toNat = _ := (tw_ne1 eσ194 (by (first | decide | omega))).trans (tw_ne1 eσ193 (by (first | decide | omega))); rw [show σ194 88 13 = τ 88 13 from (tw_eq1 eσ194)] at y9 ⊢; omega))) (show σ 88 17 = 0 from by omega) (show σ194 88 17 = 0 from by omega) (show σ194 88 15 = 2 from by omega) (show σ194 88 14 = run isS (fM σ) (σ 88 13) from (by rw [show σ194 88 14 = _ from ((tw_ne1 eσ194 (by (first | decide | omega)))).trans (tw_ne1 eσ193 (by (first | decide | omega)))]; first | exact i4 | exact rs)) (show run isG (fM σ) (σ194 88 13) = run isG (fM σ) (σ194 88 14) from (by first | (rw [show σ194 88 14 = _ from ((tw_ne1 eσ194 (by (first | decide | omega)))).trans (tw_ne1 eσ193 (by (first | decide | omega))), show σ194 88 13 = _ from (tw_eq1 eσ194)]; exact (run_s (show isG (fM σ (τ 88 13)) = true from decide_eq_true (by omega)) (by omega)).symm.trans i5) | rw [show σ194 88 14 = _ from ((tw_ne1 eσ194 (by (first | decide | omega)))).trans (tw_ne1 eσ193 (by (first | decide | omega))), show σ194 88 13 = _ from (tw_eq1 eσ194)])) (show 48 ≤ fM σ (σ194 88 14) ∧ fM σ (σ194 88 14) ≤ 57 from (by rw [show σ194 88 14 = _ from ((tw_ne1 eσ194 (by (first | decide | omega)))).trans (tw_ne1 eσ193 (by (first | decide | omega)))]; first | exact i6 | omega)) (show σ194 88 14 ≤ σ194 88 13 from by omega) (show 0 ≤ σ194 88 16 ∧ ((σ194 88 13 - σ194 88 14 = 0 ∧ σ194 88 16 = 0) ∨ (σ194 88 13 - σ194 88 14 = 1 ∧ σ194 88 16 ≤ 9) ∨ (σ194 88 13 - σ194 88 14 = 2 ∧ σ194 88 16 ≤ 99) ∨ (3 ≤ σ194 88 13 - σ194 88 14 ∧ σ194 88 16 ≤ 999)) from by omega) (show σ194 88 16 = nv (fM σ) (σ194 88 14) (σ194 88 13 - σ194 88 14).toNat from (by rw [show σ194 88 14 = _ from ((tw_ne1 eσ194 (by (first | decide | omega)))).trans (tw_ne1 eσ193 (by (first | decide | omega))), show σ194 88 13 = _ from (tw_eq1 eσ194), show σ194 88 16 = _ from ((tw_ne1 eσ194 (by (first | decide | omega)))).trans (tw_eq1 eσ193)]; first | (rw [show (τ 88 13 - τ 88 13).toNat = 0 from by omega]; rfl) | (rw [show τ 88 13 + 1 - τ 88 14 = (τ 88 13 - τ 88 14) + 1 from by omega, nv_lt ⟨by omega, by omega⟩, show τ 88 14 + (τ 88 13 - τ 88 14) = τ 88 13 from by omega]; omega) | (rw [show τ 88 13 + 1 - τ 88 14 = (τ 88 13 - τ 88 14) + 1 from by omega, nv_ge (by omega)]; exact i9))) (show (500 - σ194 88 13).toNat < N_ from by omega)
        · refine j_bipush (pc := 175) dX12_next_175 rfl ?_
          refine j_aload_n (pc := 177) dX12_next_177 rfl rfl ?_
          refine j_getI (pc := 178) fl_X12_126 dX12_next_178 (a_88 hM) rfl ?_
          have f216 : (-2147483648 : Int) ≤ τ 88 16 ∧ τ 88 16 ≤ 2147483647 := hIτ 88 16
          refine j_imul (pc := 181) dX12_next_181 ?_
          refine j_top (fun z217 ez217 hz217 => ?_)
          have gz217 : 10 * (τ 88 16) < -2147483648 ∨ 2147483647 < 10 * (τ 88 16) ∨ z217 = 10 * (τ 88 16) := by rw [ez217]; exact w32_or _
          refine j_aload_n (pc := 182) dX12_next_182 rfl rfl ?_
          refine j_aload_n (pc := 183) dX12_next_183 rfl rfl ?_
          refine j_getI (pc := 184) fl_X12_100 dX12_next_184 (a_88 hM) rfl ?_
          refine j_callV (pc := 187) (As := [vI (τ 88 13)]) (st := [vI z217, vR 88]) (c_X12_look hM (τ 88 13) ⟨by omega, by omega⟩ τ hIτ) mv_X12_103 rfl rfl rfl (a_88 hM) dX12_next_187 ⟨Nat.le_of_ble_eq_true rfl, Nat.le_of_ble_eq_true rfl⟩ ⟨Nat.le_refl _, Nat.le_refl _⟩ rfl (Nat.le_of_ble_eq_true rfl) rfl (fun z218 σ219 hz218 => ?_)
          obtain ⟨r221, rfl, hr221, rfl, q220_0, q220_1⟩ := hz218
          replace q220_0 : ((τ 88 13) < τ 88 12 ∧ r221 = τ 98 (τ 88 13).toNat) ∨ (¬ (τ 88 13) < τ 88 12 ∧ r221 = -1) := q220_0
          replace q220_1 : r221 = fM τ (τ 88 13) := q220_1
          refine j_st (st' := [vI r221, vI z217, vR 88]) rfl ?_
          have b8 := q220_1; rw [fx] at b8
          refine j_iadd (pc := 190) dX12_next_190 ?_
          refine j_top (fun z222 ez222 hz222 => ?_)
          have gz222 : z217 + r221 < -2147483648 ∨ 2147483647 < z217 + r221 ∨ z222 = z217 + r221 := by rw [ez222]; exact w32_or _
          refine j_bipush (pc := 191) dX12_next_191 rfl ?_
          refine j_isub (pc := 193) dX12_next_193 ?_
          refine j_top (fun z223 ez223 hz223 => ?_)
          have gz223 : z222 - 48 < -2147483648 ∨ 2147483647 < z222 - 48 ∨ z223 = z222 - 48 := by rw [ez223]; exact w32_or _
          refine j_goto (pc := 194) (tgt := 201) dX12_next_194 rfl ?_
          refine j_putI (pc := 201) fl_X12_126 fp_X12_16 dX12_next_201 (a_88 hM) rfl (j_nm (fun σ224 (eσ224 : σ224 = tw_up τ 88 16 z223) => ?_))
          have hIσ224 : tw_I σ224 := tw_I_up hIτ eσ224 (show (-2147483648 : Int) ≤ z223 ∧ z223 ≤ 2147483647 from ⟨by omega, by omega⟩)
          have hFσ224 : tw_F (fun c j => (c = 88 ∧ (j = 13 ∨ j = 14 ∨ j = 15 ∨ j = 16 ∨ j = 17 ∨ j = 18))) σ σ224 := tw_F_up hFτ eσ224 (show (88 = 88 ∧ (16 = 13 ∨ 16 = 14 ∨ 16 = 15 ∨ 16 = 16 ∨ 16 = 17 ∨ 16 = 18)) from ⟨rfl, (Or.inr (Or.inr (Or.inr (Or.inl rfl))))⟩)
          refine j_aload_n (pc := 204) dX12_next_204 rfl rfl ?_
          refine j_dup (pc := 205) dX12_next_205 rfl ?_
          refine j_getI (pc := 206) fl_X12_100 dX12_next_206 (a_88 hM) rfl ?_
          refine j_topV (show σ224 88 13 = τ 88 13 from (tw_ne1 eσ224 (by (first | decide | omega)))) ?_
          refine j_iconst (pc := 209) dX12_next_209 ?_
          refine j_iadd (pc := 210) dX12_next_210 ?_
          refine j_putI (pc := 211) fl_X12_100 fp_X12_13 dX12_next_211 (a_88 hM) rfl (j_nm (fun σ225 (eσ225 : σ225 = tw_up σ224 88 13 ((τ 88 13) + 1)) => ?_))
          have hIσ225 : tw_I σ225 := tw_I_up hIσ224 eσ225 (show (0 : Int) ≤ (τ 88 13) + 1 ∧ (τ 88 13) + 1 ≤ 400 from ⟨by omega, by omega⟩)
          have hFσ225 : tw_F (fun c j => (c = 88 ∧ (j = 13 ∨ j = 14 ∨ j = 15 ∨ j = 16 ∨ j = 17 ∨ j = 18))) σ σ225 := tw_F_up hFσ224 eσ225 (show (88 = 88 ∧ (13 = 13 ∨ 13 = 14 ∨ 13 = 15 ∨ 13 = 16 ∨ 13 = 17 ∨ 13 = 18)) from ⟨rfl, (Or.inl rfl)⟩)
          refine j_goto (pc := 214) (tgt := 140) dX12_next_214 rfl ?_
          refine j_ls (ls' := [(0, vR 88)]) [0] rfl ?_
          have y226 : σ225 88 13 = (τ 88 13) + 1 := (tw_eq1 eσ225)
          have y227 : σ225 88 12 = τ 88 12 := ((tw_ne1 eσ225 (by (first | decide | omega)))).trans (tw_ne1 eσ224 (by (first | decide | omega)))
          have f228 : (0 : Int) ≤ τ 88 12 ∧ τ 88 12 ≤ 400 := hIτ 88 12
          have y229 : σ225 98 ((σ225 88 13).toNat) = τ 98 ((σ225 88 13).toNat) := ((tw_ne1 eσ225 (by (first | decide | omega)))).trans (tw_ne1 eσ224 (by (first | decide | omega)))
          have y230 : σ225 88 17 = τ 88 17 := ((tw_ne1 eσ225 (by (first | decide | omega)))).trans (tw_ne1 eσ224 (by (first | decide | omega)))
          have f231 : (0 : Int) ≤ τ 88 17 ∧ τ 88 17 ≤ 5 := hIτ 88 17
          have y232 : σ225 88 15 = τ 88 15 := ((tw_ne1 eσ225 (by (first | decide | omega)))).trans (tw_ne1 eσ224 (by (first | decide | omega)))
          have f233 : (-2147483648 : Int) ≤ τ 88 15 ∧ τ 88 15 ≤ 2147483647 := hIτ 88 15
          have y234 : σ225 88 14 = τ 88 14 := ((tw_ne1 eσ225 (by (first | decide | omega)))).trans (tw_ne1 eσ224 (by (first | decide | omega)))
          have y235 : σ225 88 13 = (τ 88 13) + 1 := (tw_eq1 eσ225)
          have y236 : σ225 88 14 = τ 88 14 := ((tw_ne1 eσ225 (by (first | decide | omega)))).trans (tw_ne1 eσ224 (by (first | decide | omega)))
          have y237 : σ225 88 14 = τ 88 14 := ((tw_ne1 eσ225 (by (first | decide | omega)))).trans (tw_ne1 eσ224 (by (first | decide | omega)))
          have y238 : σ225 88 14 = τ 88 14 := ((tw_ne1 eσ225 (by (first | decide | omega)))).trans (tw_ne1 eσ224 (by (first | decide | omega)))
          have y239 : σ225 88 13 = (τ 88 13) + 1 := (tw_eq1 eσ225)
          have y240 : σ225 88 16 = z223 := ((tw_ne1 eσ225 (by (first | decide | omega)))).trans (tw_eq1 eσ224)
          have y241 : σ225 88 13 = (τ 88 13) + 1 := (tw_eq1 eσ225)
          have y242 : σ225 88 14 = τ 88 14 := ((tw_ne1 eσ225 (by (first | decide | omega)))).trans (tw_ne1 eσ224 (by (first | decide | omega)))
          have y243 : σ225 88 16 = z223 := ((tw_ne1 eσ225 (by (first | decide | omega)))).trans (tw_eq1 eσ224)
          have y244 : σ225 88 14 = τ 88 14 := ((tw_ne1 eσ225 (by (first | decide | omega)))).trans (tw_ne1 eσ224 (by (first | decide | omega)))
          have y245 : σ225 88 13 = (τ 88 13) + 1 := (tw_eq1 eσ225)
          have y246 : σ225 88 13 = (τ 88 13) + 1 := (tw_eq1 eσ225)
          exact ih.2.2 σ225 hIσ225 hFσ225 (show σ 88 13 < σ225 88 13 ∨ (σ 88 13 ≤ σ225 88 13 ∧ σ225 88 13 < σ225 88 12 ∧ 48 ≤ σ225 98 (σ225 88 13).toNat ∧ σ225 98 (σ225 88 13).toNat ≤ 57) from (by first | omega | (have y9 : σ225 98 (σ225 88 13).toNat = _ := (tw_ne1 eσ225 (by (first | decide | omega))).trans (tw_ne1 eσ224 (by (first | decide | omega))); rw [show σ225 88 13 = τ 88 13 from (tw_eq1 eσ225)] at y9 ⊢; omega))) (show σ 88 17 = 0 from by omega) (show σ225 88 17 = 0 from by omega) (show σ225 88 15 = 2 from by omega) (show σ225 88 14 = run isS (fM σ) (σ 88 13) from (by rw [show σ225 88 14 = _ from ((tw_ne1 eσ225 (by (first | decide | omega)))).trans (tw_ne1 eσ224 (by (first | decide | omega)))]; first | exact i4 | exact rs)) (show run isG (fM σ) (σ225 88 13) = run isG (fM σ) (σ225 88 14) from (by first | (rw [show σ225 88 14 = _ from ((tw_ne1 eσ225 (by (first | decide | omega)))).trans (tw_ne1 eσ224 (by (first | decide | omega))), show σ225 88 13 = _ from (tw_eq1 eσ225)]; exact (run_s (show isG (fM σ (τ 88 13)) = true from decide_eq_true (by omega)) (by omega)).symm.trans i5) | rw [show σ225 88 14 = _ from ((tw_ne1 eσ225 (by (first | decide | omega)))).trans (tw_ne1 eσ224 (by (first | decide | omega))), show σ225 88 13 = _ from (tw_eq1 eσ225)])) (show 48 ≤ fM σ (σ225 88 14) ∧ fM σ (σ225 88 14) ≤ 57 from (by rw [show σ225 88 14 = _ from ((tw_ne1 eσ225 (by (first | decide | omega)))).trans (tw_ne1 eσ224 (by (first | decide | omega)))]; first | exact i6 | omega)) (show σ225 88 14 ≤ σ225 88 13 from by omega) (show 0 ≤ σ225 88 16 ∧ ((σ225 88 13 - σ225 88 14 = 0 ∧ σ225 88 16 = 0) ∨ (σ225 88 13 - σ225 88 14 = 1 ∧ σ225 88 16 ≤ 9) ∨ (σ225 88 13 - σ225 88 14 = 2 ∧ σ225 88 16 ≤ 99) ∨ (3 ≤ σ225 88 13 - σ225 88 14 ∧ σ225 88 16 ≤ 999)) from by omega) (show σ225 88 16 = nv (fM σ) (σ225 88 14) (σ225 88 13 - σ225 88 14).toNat from (by rw [show σ225 88 14 = _ from ((tw_ne1 eσ225 (by (first | decide | omega)))).trans (tw_ne1 eσ224 (by (first | decide | omega))), show σ225 88 13 = _ from (tw_eq1 eσ225), show σ225 88 16 = _ from ((tw_ne1 eσ225 (by (first | decide | omega)))).trans (tw_eq1 eσ224)]; first | (rw [show (τ 88 13 - τ 88 13).toNat = 0 from by omega]; rfl) | (rw [show τ 88 13 + 1 - τ 88 14 = (τ 88 13 - τ 88 14) + 1 from by omega, nv_lt ⟨by omega, by omega⟩, show τ 88 14 + (τ 88 13 - τ 88 14) = τ 88 13 from by omega]; omega) | (rw [show τ 88 13 + 1 - τ 88 14 = (τ 88 13 - τ 88 14) + 1 from by omega, nv_ge (by omega)]; exact i9))) (show (500 - σ225 88 13).toNat < N_ from by omega)
set_option maxHeartbeats 4000000 in
set_option maxRecDepth 100000 in
theorem c_X12_next {G : tw_G} (hM : tw_isM G) (σ : tw_M) (hI : tw_I σ) : tw_C G yX12_next cX12_next 2 none 1 [vR 88] σ (q_X12_next σ) := by
  refine tw_met [(0, vR 88)] (by decide +kernel) rfl (Nat.le_of_ble_eq_true rfl) ?_
  refine j_aload_n (pc := 0) dX12_next_0 rfl rfl ?_
  refine j_getI (pc := 1) fl_X12_91 dX12_next_1 (a_88 hM) rfl ?_
  have f247 : (0 : Int) ≤ σ 88 17 ∧ σ 88 17 ≤ 5 := hI 88 17
  refine j_ifR_le (pc := 4) (tgt := 8) ⟨by omega, by omega⟩ dX12_next_4 rfl (fun h248 => ?_) (fun h248 => ?_)
  · refine j_ls (ls' := [(0, vR 88)]) [0] rfl ?_
    exact (l_X12_next hM σ hI (((1000 - σ 88 13).toNat) + 1)).1 σ hI (tw_F_rf) (show σ 88 13 ≤ σ 88 13 from by omega) (show σ 88 17 = 0 from by omega) (show σ 88 17 = 0 from by omega) (show run isS (fM σ) (σ 88 13) = run isS (fM σ) (σ 88 13) from (by first | (rw [rfl]; exact (run_s (show isS (fM σ (τ 88 13)) = true from decide_eq_true (by omega)) (by omega)).symm.trans i3) | rw [rfl] | rfl)) (show σ 88 18 = σ 88 18 from by omega) (Nat.lt_succ_self _)
  · have ax : aM σ = tok (fM σ) (aM σ) := madv_no (by omega)
    exact j_vret (pc := 7) ⟨rfl, rfl⟩ dX12_next_7 rfl ⟨rfl, hI, (tw_F_rf), by omega, by omega, by omega, (by first | exact ax | (rw [← show aM τ = _ from rfl]; exact madv_name (by omega) (drM_F ((tw_F_rf) 88 9 (show ¬ ((88 = 88 ∧ (9 = 13 ∨ 9 = 14 ∨ 9 = 15 ∨ 9 = 16 ∨ 9 = 17 ∨ 9 = 18))) from by decide)) ((tw_F_rf) 88 10 (show ¬ ((88 = 88 ∧ (10 = 13 ∨ 10 = 14 ∨ 10 = 15 ∨ 10 = 16 ∨ 10 = 17 ∨ 10 = 18))) from by decide)) (fun c j h => (tw_F_rf) c j (show ¬ ((c = 88 ∧ (j = 13 ∨ j = 14 ∨ j = 15 ∨ j = 16 ∨ j = 17 ∨ j = 18))) from by omega))) (by omega) (by omega) (by omega) (by omega) (by rw [← i5]; exact (run_n (show isL (fM σ (τ 88 13)) = false from decide_eq_false (by omega))).symm)))⟩
