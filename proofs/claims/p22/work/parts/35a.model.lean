/-! 35a.model -/
theorem dX12_readAt_0 : decode cX12_readAt 0 = .ok (.aload_n 0, 1) := by decide +kernel
theorem dX12_readAt_1 : decode cX12_readAt 1 = .ok (.iconst 1, 1) := by decide +kernel
theorem dX12_readAt_2 : decode cX12_readAt 2 = .ok (.bipush 40, 2) := by decide +kernel
theorem dX12_readAt_4 : decode cX12_readAt 4 = .ok (.invokevirtual 133, 3) := by decide +kernel
theorem dX12_readAt_7 : decode cX12_readAt 7 = .ok (.aload_n 0, 1) := by decide +kernel
theorem dX12_readAt_8 : decode cX12_readAt 8 = .ok (.getfield 91, 3) := by decide +kernel
theorem dX12_readAt_11 : decode cX12_readAt 11 = .ok (.ifCond .ne 10, 3) := by decide +kernel
theorem dX12_readAt_14 : decode cX12_readAt 14 = .ok (.aload_n 0, 1) := by decide +kernel
theorem dX12_readAt_15 : decode cX12_readAt 15 = .ok (.getfield 126, 3) := by decide +kernel
theorem dX12_readAt_18 : decode cX12_readAt 18 = .ok (.goto 4, 3) := by decide +kernel
theorem dX12_readAt_21 : decode cX12_readAt 21 = .ok (.iconst 0, 1) := by decide +kernel
theorem dX12_readAt_22 : decode cX12_readAt 22 = .ok (.istore_n 1, 1) := by decide +kernel
theorem dX12_readAt_23 : decode cX12_readAt 23 = .ok (.aload_n 0, 1) := by decide +kernel
theorem dX12_readAt_24 : decode cX12_readAt 24 = .ok (.getfield 91, 3) := by decide +kernel
theorem dX12_readAt_27 : decode cX12_readAt 27 = .ok (.ifCond .ne 49, 3) := by decide +kernel
theorem dX12_readAt_30 : decode cX12_readAt 30 = .ok (.aload_n 0, 1) := by decide +kernel
theorem dX12_readAt_31 : decode cX12_readAt 31 = .ok (.aload_n 0, 1) := by decide +kernel
theorem dX12_readAt_32 : decode cX12_readAt 32 = .ok (.getfield 32, 3) := by decide +kernel
theorem dX12_readAt_35 : decode cX12_readAt 35 = .ok (.iload_n 1, 1) := by decide +kernel
theorem dX12_readAt_36 : decode cX12_readAt 36 = .ok (.baload, 1) := by decide +kernel
theorem dX12_readAt_37 : decode cX12_readAt 37 = .ok (.ifCond .ne 7, 3) := by decide +kernel
theorem dX12_readAt_40 : decode cX12_readAt 40 = .ok (.iconst 1, 1) := by decide +kernel
theorem dX12_readAt_41 : decode cX12_readAt 41 = .ok (.goto 4, 3) := by decide +kernel
theorem dX12_readAt_44 : decode cX12_readAt 44 = .ok (.iconst 0, 1) := by decide +kernel
theorem dX12_readAt_45 : decode cX12_readAt 45 = .ok (.iconst 4, 1) := by decide +kernel
theorem dX12_readAt_46 : decode cX12_readAt 46 = .ok (.invokevirtual 129, 3) := by decide +kernel
theorem dX12_readAt_49 : decode cX12_readAt 49 = .ok (.aload_n 0, 1) := by decide +kernel
theorem dX12_readAt_50 : decode cX12_readAt 50 = .ok (.getfield 32, 3) := by decide +kernel
theorem dX12_readAt_53 : decode cX12_readAt 53 = .ok (.iload_n 1, 1) := by decide +kernel
theorem dX12_readAt_54 : decode cX12_readAt 54 = .ok (.iconst 1, 1) := by decide +kernel
theorem dX12_readAt_55 : decode cX12_readAt 55 = .ok (.bastore, 1) := by decide +kernel
theorem dX12_readAt_56 : decode cX12_readAt 56 = .ok (.aload_n 0, 1) := by decide +kernel
theorem dX12_readAt_57 : decode cX12_readAt 57 = .ok (.iload_n 1, 1) := by decide +kernel
theorem dX12_readAt_58 : decode cX12_readAt 58 = .ok (.aload_n 0, 1) := by decide +kernel
theorem dX12_readAt_59 : decode cX12_readAt 59 = .ok (.getfield 75, 3) := by decide +kernel
theorem dX12_readAt_62 : decode cX12_readAt 62 = .ok (.if_icmp .le 7, 3) := by decide +kernel
theorem dX12_readAt_65 : decode cX12_readAt 65 = .ok (.iload_n 1, 1) := by decide +kernel
theorem dX12_readAt_66 : decode cX12_readAt 66 = .ok (.goto 7, 3) := by decide +kernel
theorem dX12_readAt_69 : decode cX12_readAt 69 = .ok (.aload_n 0, 1) := by decide +kernel
theorem dX12_readAt_70 : decode cX12_readAt 70 = .ok (.getfield 75, 3) := by decide +kernel
theorem dX12_readAt_73 : decode cX12_readAt 73 = .ok (.putfield 75, 3) := by decide +kernel
theorem dX12_readAt_76 : decode cX12_readAt 76 = .ok (.aload_n 0, 1) := by decide +kernel
theorem dX12_readAt_77 : decode cX12_readAt 77 = .ok (.invokevirtual 137, 3) := by decide +kernel
theorem dX12_readAt_80 : decode cX12_readAt 80 = .ok (.aload_n 0, 1) := by decide +kernel
theorem dX12_readAt_81 : decode cX12_readAt 81 = .ok (.getfield 26, 3) := by decide +kernel
theorem dX12_readAt_84 : decode cX12_readAt 84 = .ok (.iconst 5, 1) := by decide +kernel
theorem dX12_readAt_85 : decode cX12_readAt 85 = .ok (.iload_n 1, 1) := by decide +kernel
theorem dX12_readAt_86 : decode cX12_readAt 86 = .ok (.imul, 1) := by decide +kernel
theorem dX12_readAt_87 : decode cX12_readAt 87 = .ok (.iconst 0, 1) := by decide +kernel
theorem dX12_readAt_88 : decode cX12_readAt 88 = .ok (.iadd, 1) := by decide +kernel
theorem dX12_readAt_89 : decode cX12_readAt 89 = .ok (.aload_n 0, 1) := by decide +kernel
theorem dX12_readAt_90 : decode cX12_readAt 90 = .ok (.iconst 0, 1) := by decide +kernel
theorem dX12_readAt_91 : decode cX12_readAt 91 = .ok (.bipush 9, 2) := by decide +kernel
theorem dX12_readAt_93 : decode cX12_readAt 93 = .ok (.invokevirtual 140, 3) := by decide +kernel
theorem dX12_readAt_96 : decode cX12_readAt 96 = .ok (.iastore, 1) := by decide +kernel
theorem dX12_readAt_97 : decode cX12_readAt 97 = .ok (.iconst 0, 1) := by decide +kernel
theorem dX12_readAt_98 : decode cX12_readAt 98 = .ok (.istore_n 2, 1) := by decide +kernel
theorem dX12_readAt_99 : decode cX12_readAt 99 = .ok (.aload_n 0, 1) := by decide +kernel
theorem dX12_readAt_100 : decode cX12_readAt 100 = .ok (.getfield 91, 3) := by decide +kernel
theorem dX12_readAt_103 : decode cX12_readAt 103 = .ok (.ifCond .ne 149, 3) := by decide +kernel
theorem dX12_readAt_106 : decode cX12_readAt 106 = .ok (.aload_n 0, 1) := by decide +kernel
theorem dX12_readAt_107 : decode cX12_readAt 107 = .ok (.getfield 115, 3) := by decide +kernel
theorem dX12_readAt_110 : decode cX12_readAt 110 = .ok (.iconst 1, 1) := by decide +kernel
theorem dX12_readAt_111 : decode cX12_readAt 111 = .ok (.if_icmp .ne 141, 3) := by decide +kernel
theorem dX12_readAt_114 : decode cX12_readAt 114 = .ok (.aload_n 0, 1) := by decide +kernel
theorem dX12_readAt_115 : decode cX12_readAt 115 = .ok (.invokevirtual 111, 3) := by decide +kernel
theorem dX12_readAt_118 : decode cX12_readAt 118 = .ok (.istore_n 3, 1) := by decide +kernel
theorem dX12_readAt_119 : decode cX12_readAt 119 = .ok (.aload_n 0, 1) := by decide +kernel
theorem dX12_readAt_120 : decode cX12_readAt 120 = .ok (.iload_n 3, 1) := by decide +kernel
theorem dX12_readAt_121 : decode cX12_readAt 121 = .ok (.bipush (-4), 2) := by decide +kernel
theorem dX12_readAt_123 : decode cX12_readAt 123 = .ok (.if_icmp .eq 7, 3) := by decide +kernel
theorem dX12_readAt_126 : decode cX12_readAt 126 = .ok (.iconst 1, 1) := by decide +kernel
theorem dX12_readAt_127 : decode cX12_readAt 127 = .ok (.goto 4, 3) := by decide +kernel
theorem dX12_readAt_130 : decode cX12_readAt 130 = .ok (.iconst 0, 1) := by decide +kernel
theorem dX12_readAt_131 : decode cX12_readAt 131 = .ok (.iconst 2, 1) := by decide +kernel
theorem dX12_readAt_132 : decode cX12_readAt 132 = .ok (.invokevirtual 129, 3) := by decide +kernel
theorem dX12_readAt_135 : decode cX12_readAt 135 = .ok (.aload_n 0, 1) := by decide +kernel
theorem dX12_readAt_136 : decode cX12_readAt 136 = .ok (.getfield 91, 3) := by decide +kernel
theorem dX12_readAt_139 : decode cX12_readAt 139 = .ok (.ifCond .ne 110, 3) := by decide +kernel
theorem dX12_readAt_142 : decode cX12_readAt 142 = .ok (.aload_n 0, 1) := by decide +kernel
theorem dX12_readAt_143 : decode cX12_readAt 143 = .ok (.iload_n 2, 1) := by decide +kernel
theorem dX12_readAt_144 : decode cX12_readAt 144 = .ok (.iload_n 3, 1) := by decide +kernel
theorem dX12_readAt_145 : decode cX12_readAt 145 = .ok (.bipush 20, 2) := by decide +kernel
theorem dX12_readAt_147 : decode cX12_readAt 147 = .ok (.isub, 1) := by decide +kernel
theorem dX12_readAt_148 : decode cX12_readAt 148 = .ok (.ishr, 1) := by decide +kernel
theorem dX12_readAt_149 : decode cX12_readAt 149 = .ok (.iconst 1, 1) := by decide +kernel
theorem dX12_readAt_150 : decode cX12_readAt 150 = .ok (.iand, 1) := by decide +kernel
theorem dX12_readAt_151 : decode cX12_readAt 151 = .ok (.ifCond .ne 7, 3) := by decide +kernel
theorem dX12_readAt_154 : decode cX12_readAt 154 = .ok (.iconst 1, 1) := by decide +kernel
theorem dX12_readAt_155 : decode cX12_readAt 155 = .ok (.goto 4, 3) := by decide +kernel
theorem dX12_readAt_158 : decode cX12_readAt 158 = .ok (.iconst 0, 1) := by decide +kernel
theorem dX12_readAt_159 : decode cX12_readAt 159 = .ok (.iconst 4, 1) := by decide +kernel
theorem dX12_readAt_160 : decode cX12_readAt 160 = .ok (.invokevirtual 129, 3) := by decide +kernel
theorem dX12_readAt_163 : decode cX12_readAt 163 = .ok (.iload_n 2, 1) := by decide +kernel
theorem dX12_readAt_164 : decode cX12_readAt 164 = .ok (.iconst 1, 1) := by decide +kernel
theorem dX12_readAt_165 : decode cX12_readAt 165 = .ok (.iload_n 3, 1) := by decide +kernel
theorem dX12_readAt_166 : decode cX12_readAt 166 = .ok (.bipush 20, 2) := by decide +kernel
theorem dX12_readAt_168 : decode cX12_readAt 168 = .ok (.isub, 1) := by decide +kernel
theorem dX12_readAt_169 : decode cX12_readAt 169 = .ok (.ishl, 1) := by decide +kernel
theorem dX12_readAt_170 : decode cX12_readAt 170 = .ok (.ior, 1) := by decide +kernel
theorem dX12_readAt_171 : decode cX12_readAt 171 = .ok (.istore_n 2, 1) := by decide +kernel
theorem dX12_readAt_172 : decode cX12_readAt 172 = .ok (.aload_n 0, 1) := by decide +kernel
theorem dX12_readAt_173 : decode cX12_readAt 173 = .ok (.invokevirtual 137, 3) := by decide +kernel
theorem dX12_readAt_176 : decode cX12_readAt 176 = .ok (.iload_n 3, 1) := by decide +kernel
theorem dX12_readAt_177 : decode cX12_readAt 177 = .ok (.bipush 20, 2) := by decide +kernel
theorem dX12_readAt_179 : decode cX12_readAt 179 = .ok (.if_icmp .ne 23, 3) := by decide +kernel
theorem dX12_readAt_182 : decode cX12_readAt 182 = .ok (.aload_n 0, 1) := by decide +kernel
theorem dX12_readAt_183 : decode cX12_readAt 183 = .ok (.getfield 26, 3) := by decide +kernel
theorem dX12_readAt_186 : decode cX12_readAt 186 = .ok (.iconst 5, 1) := by decide +kernel
theorem dX12_readAt_187 : decode cX12_readAt 187 = .ok (.iload_n 1, 1) := by decide +kernel
theorem dX12_readAt_188 : decode cX12_readAt 188 = .ok (.imul, 1) := by decide +kernel
theorem dX12_readAt_189 : decode cX12_readAt 189 = .ok (.iconst 1, 1) := by decide +kernel
theorem dX12_readAt_190 : decode cX12_readAt 190 = .ok (.iadd, 1) := by decide +kernel
theorem dX12_readAt_191 : decode cX12_readAt 191 = .ok (.aload_n 0, 1) := by decide +kernel
theorem dX12_readAt_192 : decode cX12_readAt 192 = .ok (.iconst 1, 1) := by decide +kernel
theorem dX12_readAt_193 : decode cX12_readAt 193 = .ok (.bipush 10, 2) := by decide +kernel
theorem dX12_readAt_195 : decode cX12_readAt 195 = .ok (.invokevirtual 140, 3) := by decide +kernel
theorem dX12_readAt_198 : decode cX12_readAt 198 = .ok (.iastore, 1) := by decide +kernel
theorem dX12_readAt_199 : decode cX12_readAt 199 = .ok (.goto 50, 3) := by decide +kernel
theorem dX12_readAt_202 : decode cX12_readAt 202 = .ok (.iload_n 3, 1) := by decide +kernel
theorem dX12_readAt_203 : decode cX12_readAt 203 = .ok (.bipush 23, 2) := by decide +kernel
theorem dX12_readAt_205 : decode cX12_readAt 205 = .ok (.if_icmp .ne 23, 3) := by decide +kernel
theorem dX12_readAt_208 : decode cX12_readAt 208 = .ok (.aload_n 0, 1) := by decide +kernel
theorem dX12_readAt_209 : decode cX12_readAt 209 = .ok (.getfield 26, 3) := by decide +kernel
theorem dX12_readAt_212 : decode cX12_readAt 212 = .ok (.iconst 5, 1) := by decide +kernel
theorem dX12_readAt_213 : decode cX12_readAt 213 = .ok (.iload_n 1, 1) := by decide +kernel
theorem dX12_readAt_214 : decode cX12_readAt 214 = .ok (.imul, 1) := by decide +kernel
theorem dX12_readAt_215 : decode cX12_readAt 215 = .ok (.iconst 4, 1) := by decide +kernel
theorem dX12_readAt_216 : decode cX12_readAt 216 = .ok (.iadd, 1) := by decide +kernel
theorem dX12_readAt_217 : decode cX12_readAt 217 = .ok (.aload_n 0, 1) := by decide +kernel
theorem dX12_readAt_218 : decode cX12_readAt 218 = .ok (.iconst 0, 1) := by decide +kernel
theorem dX12_readAt_219 : decode cX12_readAt 219 = .ok (.bipush 9, 2) := by decide +kernel
theorem dX12_readAt_221 : decode cX12_readAt 221 = .ok (.invokevirtual 140, 3) := by decide +kernel
theorem dX12_readAt_224 : decode cX12_readAt 224 = .ok (.iastore, 1) := by decide +kernel
theorem dX12_readAt_225 : decode cX12_readAt 225 = .ok (.goto 24, 3) := by decide +kernel
theorem dX12_readAt_228 : decode cX12_readAt 228 = .ok (.aload_n 0, 1) := by decide +kernel
theorem dX12_readAt_229 : decode cX12_readAt 229 = .ok (.getfield 26, 3) := by decide +kernel
theorem dX12_readAt_232 : decode cX12_readAt 232 = .ok (.iconst 5, 1) := by decide +kernel
theorem dX12_readAt_233 : decode cX12_readAt 233 = .ok (.iload_n 1, 1) := by decide +kernel
theorem dX12_readAt_234 : decode cX12_readAt 234 = .ok (.imul, 1) := by decide +kernel
theorem dX12_readAt_235 : decode cX12_readAt 235 = .ok (.iload_n 3, 1) := by decide +kernel
theorem dX12_readAt_236 : decode cX12_readAt 236 = .ok (.bipush 21, 2) := by decide +kernel
theorem dX12_readAt_238 : decode cX12_readAt 238 = .ok (.if_icmp .ne 7, 3) := by decide +kernel
theorem dX12_readAt_241 : decode cX12_readAt 241 = .ok (.iconst 2, 1) := by decide +kernel
theorem dX12_readAt_242 : decode cX12_readAt 242 = .ok (.goto 4, 3) := by decide +kernel
theorem dX12_readAt_245 : decode cX12_readAt 245 = .ok (.iconst 3, 1) := by decide +kernel
theorem dX12_readAt_246 : decode cX12_readAt 246 = .ok (.iadd, 1) := by decide +kernel
theorem dX12_readAt_247 : decode cX12_readAt 247 = .ok (.iconst 1, 1) := by decide +kernel
theorem dX12_readAt_248 : decode cX12_readAt 248 = .ok (.iastore, 1) := by decide +kernel
theorem dX12_readAt_249 : decode cX12_readAt 249 = .ok (.goto (-150), 3) := by decide +kernel
theorem dX12_readAt_252 : decode cX12_readAt 252 = .ok (.return_, 1) := by decide +kernel
abbrev q_X12_readAt  (σ : tw_M) : Option tw_V → tw_M → Prop := fun z τ => z = none ∧ tw_I τ ∧ tw_F (fun c j => (c = 88 ∧ (j = 10 ∨ j = 13 ∨ j = 14 ∨ j = 15 ∨ j = 16 ∨ j = 17 ∨ j = 18)) ∨ c = 94 ∨ c = 96) σ τ ∧ (DQ τ) ∧ (¬ τ 88 17 = 0 ∨ σ 88 17 = 0) ∧ (σ 88 13 ≤ τ 88 13) ∧ (aM τ = footM (fM σ) (aM σ))
set_option maxHeartbeats 4000000 in
set_option maxRecDepth 100000 in
theorem l_X12_readAt {G : tw_G} (hM : tw_isM G) (σ : tw_M) (hI : tw_I σ) (hq0 : DQ σ) (hq1 : FB (fM σ)) : ∀ N_ : Nat, (∀ (h : Int) (hh : 0 ≤ h ∧ h ≤ 40) (d : Int) (hd : -2147483648 ≤ d ∧ d ≤ 2147483647) (τ : tw_M) (hIτ : tw_I τ) (hFτ : tw_F (fun c j => (c = 88 ∧ (j = 10 ∨ j = 13 ∨ j = 14 ∨ j = 15 ∨ j = 16 ∨ j = 17 ∨ j = 18)) ∨ c = 94 ∨ c = 96) σ τ) (i0 : DQ τ) (i1 : ¬ τ 88 17 = 0 ∨ σ 88 17 = 0) (i2 : σ 88 13 ≤ τ 88 13) (i3 : (it wstopM (wstepM (fM σ) h) wmes (aM τ, d)).1 = footM (fM σ) (aM σ)) (hm : (mMu (τ 88 17) (τ 88 15) (τ 88 13)).toNat < N_), tw_J G (tw_mt RX12 cX12_readAt 4 none 3) (tw_E G (q_X12_readAt σ)) 99 [(0, vR 88), (1, vI h), (2, vI d)] [] τ) := by
  intro N_
  induction N_ with
  | zero => exact fun h hh d hd τ hIτ hFτ i0 i1 i2 i3 hm => absurd hm (Nat.not_lt_zero _)
  | succ N_ ih =>
    intro h hh d hd τ hIτ hFτ i0 i1 i2 i3 hm
    have fx : fM τ = fM σ := fM_F (hFτ 88 12 (show ¬ ((88 = 88 ∧ (12 = 10 ∨ 12 = 13 ∨ 12 = 14 ∨ 12 = 15 ∨ 12 = 16 ∨ 12 = 17 ∨ 12 = 18)) ∨ 88 = 94 ∨ 88 = 96) from by decide)) (fun j => hFτ 98 j (show ¬ ((98 = 88 ∧ (j = 10 ∨ j = 13 ∨ j = 14 ∨ j = 15 ∨ j = 16 ∨ j = 17 ∨ j = 18)) ∨ 98 = 94 ∨ 98 = 96) from fun h => h.elim (fun h => absurd h.1 (by decide)) (fun h => h.elim (fun h => absurd h (by decide)) (fun h => absurd h (by decide)))))
    refine j_aload_n (pc := 99) dX12_readAt_99 rfl rfl ?_
    refine j_getI (pc := 100) fl_X12_91 dX12_readAt_100 (a_88 hM) rfl ?_
    have f1 : (0 : Int) ≤ τ 88 17 ∧ τ 88 17 ≤ 5 := hIτ 88 17
    refine j_ifR_ne (pc := 103) (tgt := 252) ⟨by omega, by omega⟩ dX12_readAt_103 rfl (fun h2 => ?_) (fun h2 => ?_)
    · exact j_vret (pc := 252) ⟨rfl, rfl⟩ dX12_readAt_252 rfl ⟨rfl, hIτ, hFτ, i0, (by skip; omega), (by skip; omega), (by rw [← i3, it_n (mw_t (by omega))])⟩
    · refine j_aload_n (pc := 106) dX12_readAt_106 rfl rfl ?_
      refine j_getI (pc := 107) fl_X12_115 dX12_readAt_107 (a_88 hM) rfl ?_
      have f3 : (-2147483648 : Int) ≤ τ 88 15 ∧ τ 88 15 ≤ 2147483647 := hIτ 88 15
      refine j_iconst (pc := 110) dX12_readAt_110 ?_
      refine j_icmpR_ne (pc := 111) (tgt := 252) ⟨by omega, by omega⟩ ⟨by omega, by omega⟩ dX12_readAt_111 rfl (fun h4 => ?_) (fun h4 => ?_)
      · exact j_vret (pc := 252) ⟨rfl, rfl⟩ dX12_readAt_252 rfl ⟨rfl, hIτ, hFτ, i0, (by skip; omega), (by skip; omega), (by rw [← i3, it_n (mw_t (by omega))])⟩
      · have hs := mw_f (τ := τ) (t := d) (by omega) (by omega)
        refine j_aload_n (pc := 114) dX12_readAt_114 rfl rfl ?_
        refine j_callV (pc := 115) (As := []) (st := []) (c_X12_withNow hM τ hIτ) mv_X12_111 rfl rfl rfl (a_88 hM) dX12_readAt_115 ⟨Nat.le_of_ble_eq_true rfl, Nat.le_of_ble_eq_true rfl⟩ ⟨Nat.le_refl _, Nat.le_refl _⟩ rfl (Nat.le_of_ble_eq_true rfl) rfl (fun z5 σ6 hz5 => ?_)
        obtain ⟨r8, rfl, hr8, rfl, q7_0, q7_1⟩ := hz5
        replace q7_0 : r8 = -4 ∨ 20 ≤ r8 := q7_0
        replace q7_1 : (r8 = -4 ∧ wnm (fM τ) 1 (τ 88 14) (τ 88 13) = -1) ∨ (r8 = 20 + wnm (fM τ) 1 (τ 88 14) (τ 88 13) ∧ 0 ≤ wnm (fM τ) 1 (τ 88 14) (τ 88 13) ∧ wnm (fM τ) 1 (τ 88 14) (τ 88 13) ≤ 3) := q7_1
        refine j_st (st' := [vI r8]) rfl ?_
        have w1 := q7_1; rw [fx] at w1
        have w2 : wnm (fM σ) ((aM τ) 2) ((aM τ) 1) ((aM τ) 0) = wnm (fM σ) 1 (τ 88 14) (τ 88 13) := by rw [aM_2 (by omega), aM_1 (by omega), aM_0 (by omega), show τ 88 15 = 1 from by omega]
        refine j_istore_n (pc := 118) (i := 3) (ls' := [(0, vR 88), (1, vI h), (2, vI d), (3, vI r8)]) [1, 2, 3, 0] dX12_readAt_118 rfl (Nat.le_of_ble_eq_true rfl) rfl rfl ?_
        refine j_aload_n (pc := 119) dX12_readAt_119 rfl rfl ?_
        refine j_iload_n (pc := 120) dX12_readAt_120 rfl rfl ?_
        refine j_bipush (pc := 121) dX12_readAt_121 rfl ?_
        refine j_icmpR_eq (pc := 123) (tgt := 130) ⟨by omega, by omega⟩ ⟨by omega, by omega⟩ dX12_readAt_123 rfl (fun h9 => ?_) (fun h9 => ?_)
        · refine j_iconst (pc := 130) dX12_readAt_130 ?_
          refine j_iconst (pc := 131) dX12_readAt_131 ?_
          refine j_callV (pc := 132) (As := [vI 0, vI 2]) (st := []) (c_X12_needs hM 0 (by (first | decide | exact ⟨by omega, by omega⟩)) 2 (by (first | decide | exact ⟨by omega, by omega⟩)) τ hIτ) mv_X12_129 rfl rfl rfl (a_88 hM) dX12_readAt_132 ⟨Nat.le_of_ble_eq_true rfl, Nat.le_of_ble_eq_true rfl⟩ ⟨Nat.le_refl _, Nat.le_refl _⟩ rfl (Nat.le_of_ble_eq_true rfl) rfl (fun z10 σ11 hz10 => ?_)
          obtain ⟨rfl, hIσ11, hGσ11, q12_0, q12_1, q12_2⟩ := hz10
          replace q12_0 : (¬ (0 : Int) = 0 ∧ σ11 88 17 = τ 88 17) ∨ ((0 : Int) = 0 ∧ τ 88 17 = 0 ∧ σ11 88 17 = (2 : Int)) ∨ ((0 : Int) = 0 ∧ ¬ τ 88 17 = 0 ∧ σ11 88 17 = τ 88 17) := q12_0
          replace q12_1 : (¬ (0 : Int) = 0 ∧ σ11 88 17 = τ 88 17 ∧ σ11 88 18 = τ 88 18) ∨ ((0 : Int) = 0 ∧ τ 88 17 = 0 ∧ σ11 88 17 = (2 : Int) ∧ σ11 88 18 = τ 88 14) ∨ ((0 : Int) = 0 ∧ ¬ τ 88 17 = 0 ∧ σ11 88 17 = τ 88 17 ∧ σ11 88 18 = τ 88 18) := q12_1
          replace q12_2 : aM σ11 = need (decide (¬ (0 : Int) = 0)) (2 : Int) (aM τ) := q12_2
          have hFσ11 : tw_F (fun c j => (c = 88 ∧ (j = 10 ∨ j = 13 ∨ j = 14 ∨ j = 15 ∨ j = 16 ∨ j = 17 ∨ j = 18)) ∨ c = 94 ∨ c = 96) σ σ11 := tw_F_tr hFτ hGσ11 (fun c j q => (show (c = 88 ∧ (j = 10 ∨ j = 13 ∨ j = 14 ∨ j = 15 ∨ j = 16 ∨ j = 17 ∨ j = 18)) ∨ c = 94 ∨ c = 96 from by replace q : (c = 88 ∧ (j = 17 ∨ j = 18)) := q; exact (Or.inl ⟨q.1, (q.2.elim (fun z => (Or.inr (Or.inr (Or.inr (Or.inr (Or.inr (Or.inl z))))))) (fun z => (Or.inr (Or.inr (Or.inr (Or.inr (Or.inr (Or.inr z))))))))⟩)))
          refine j_st (st' := []) rfl ?_
          have c1 := q12_2
          refine j_aload_n (pc := 135) dX12_readAt_135 rfl rfl ?_
          refine j_getI (pc := 136) fl_X12_91 dX12_readAt_136 (a_88 hM) rfl ?_
          have f14 : (0 : Int) ≤ σ11 88 17 ∧ σ11 88 17 ≤ 5 := hIσ11 88 17
          refine j_ifR_ne (pc := 139) (tgt := 249) ⟨by omega, by omega⟩ dX12_readAt_139 rfl (fun h15 => ?_) (fun h15 => ?_)
          · have nx : (it wstopM (wstepM (fM σ) h) wmes (aM σ11, d)).1 = footM (fM σ) (aM σ) := by first | (exfalso; omega) | (rw [c1.trans (need_cg (g' := false) (fun _ => decide_eq_false (by omega))), ← wstepM_no (f := fM σ) (h := h) (t := d) (by rw [w2]; omega), ← it_s (wstepM_go hq1) hs]; exact i3)
            have y16 : σ11 88 13 = τ 88 13 := (hGσ11 88 13 (show ¬ ((88 = 88 ∧ (13 = 17 ∨ 13 = 18))) from by decide))
            skip
            have y17 : σ11 88 15 = τ 88 15 := (hGσ11 88 15 (show ¬ ((88 = 88 ∧ (15 = 17 ∨ 15 = 18))) from by decide))
            have y1 : σ11 88 17 = σ11 88 17 := by first | rfl | exact tw_ne1 _ (by omega)
            have y2 : σ11 88 15 = σ11 88 15 := by first | rfl | exact tw_ne1 _ (by omega)
            have y3 : σ11 88 13 = σ11 88 13 := by first | rfl | exact tw_ne1 _ (by omega)
            have y4 : (0 : Int) ≤ σ11 88 13 ∧ σ11 88 13 ≤ 400 := hIσ11 88 13
            have lt9 := mMu_lt (f := τ 88 17) (s := τ 88 15) (p := τ 88 13) (f2 := σ11 88 17) (s2 := σ11 88 15) (p2 := σ11 88 13) (by omega) (by omega) (by omega) (by omega) (by omega)
            refine j_goto (pc := 249) (tgt := 99) dX12_readAt_249 rfl ?_
            refine j_ls (ls' := [(0, vR 88), (1, vI h), (2, vI d)]) [0, 1, 2] rfl ?_
            have y18 : σ11 88 13 = τ 88 13 := (hGσ11 88 13 (show ¬ ((88 = 88 ∧ (13 = 17 ∨ 13 = 18))) from by decide))
            have f19 : (0 : Int) ≤ τ 88 13 ∧ τ 88 13 ≤ 400 := hIτ 88 13
            have y20 : σ11 88 15 = τ 88 15 := (hGσ11 88 15 (show ¬ ((88 = 88 ∧ (15 = 17 ∨ 15 = 18))) from by decide))
            have y21 : σ11 88 13 = τ 88 13 := (hGσ11 88 13 (show ¬ ((88 = 88 ∧ (13 = 17 ∨ 13 = 18))) from by decide))
            exact ih h ⟨by omega, by omega⟩ d ⟨by omega, by omega⟩ σ11 hIσ11 hFσ11 (show DQ σ11 from (by first | exact DQ_put (DQ_F i0 (fun j => rfl) (fun j => rfl) (by omega)) _ (by clear q7_0 q7_1 q12_0 q12_1 q12_2; first | exact Or.inr (w92 (by omega) (by omega) (by omega)) | (rcases q12_0 with q | q; exact Or.inl (by omega); (first | exact Or.inr (w92 (by omega) (by omega) (by omega)) | exact Or.inr (w92 (h := 0) (k := 0) (by omega) (by omega) (by omega))))) | exact DQ_F i0 (fun j => (hGσ11 93 j (show ¬ ((93 = 88 ∧ (j = 17 ∨ j = 18))) from fun h => absurd h.1 (by decide)))) (fun j => (hGσ11 94 j (show ¬ ((94 = 88 ∧ (j = 17 ∨ j = 18))) from fun h => absurd h.1 (by decide)))) (by omega))) (show ¬ σ11 88 17 = 0 ∨ σ 88 17 = 0 from (by clear q7_0 q7_1 q12_1 q12_2; omega)) (show σ 88 13 ≤ σ11 88 13 from (by clear q7_0 q7_1 q12_0 q12_1 q12_2; omega)) (show (it wstopM (wstepM (fM σ) h) wmes (aM σ11, d)).1 = footM (fM σ) (aM σ) from nx) (show (mMu (σ11 88 17) (σ11 88 15) (σ11 88 13)).toNat < N_ from by omega)
          · have e1 : aM σ11 = aM τ := c1.trans ((need_cg (fun _ => decide_eq_true (by omega))).trans need_t)
            have w3 : r8 - 20 = wnm (fM σ) ((aM τ) 2) ((aM τ) 1) ((aM τ) 0) := by rw [w2]; omega
            refine j_aload_n (pc := 142) dX12_readAt_142 rfl rfl ?_
            refine j_iload_n (pc := 143) dX12_readAt_143 rfl rfl ?_
            refine j_iload_n (pc := 144) dX12_readAt_144 rfl rfl ?_
            refine j_bipush (pc := 145) dX12_readAt_145 rfl ?_
            refine j_isub (pc := 147) dX12_readAt_147 ?_
            refine j_ishr (pc := 148) dX12_readAt_148 (fun z22 ez22 => ?_)
            have hz22 : (-2147483648 : Int) ≤ z22 ∧ z22 ≤ 2147483647 := by rw [ez22]; exact shr_in _ _
            have b1 := ez22
            refine j_iconst (pc := 149) dX12_readAt_149 ?_
            refine j_iand (pc := 150) dX12_readAt_150 (fun z23 ez23 => ?_)
            have hz23 : (-2147483648 : Int) ≤ z23 ∧ z23 ≤ 2147483647 := by rw [ez23]; exact and_in _ _
            have b2 := ez23; rw [b1] at b2
            refine j_ifR_ne (pc := 151) (tgt := 158) ⟨by omega, by omega⟩ dX12_readAt_151 rfl (fun h24 => ?_) (fun h24 => ?_)
            · refine j_iconst (pc := 158) dX12_readAt_158 ?_
              refine j_iconst (pc := 159) dX12_readAt_159 ?_
              refine j_callV (pc := 160) (As := [vI 0, vI 4]) (st := []) (c_X12_needs hM 0 (by (first | decide | exact ⟨by omega, by omega⟩)) 4 (by (first | decide | exact ⟨by omega, by omega⟩)) σ11 hIσ11) mv_X12_129 rfl rfl rfl (a_88 hM) dX12_readAt_160 ⟨Nat.le_of_ble_eq_true rfl, Nat.le_of_ble_eq_true rfl⟩ ⟨Nat.le_refl _, Nat.le_refl _⟩ rfl (Nat.le_of_ble_eq_true rfl) rfl (fun z25 σ26 hz25 => ?_)
              obtain ⟨rfl, hIσ26, hGσ26, q27_0, q27_1, q27_2⟩ := hz25
              replace q27_0 : (¬ (0 : Int) = 0 ∧ σ26 88 17 = σ11 88 17) ∨ ((0 : Int) = 0 ∧ σ11 88 17 = 0 ∧ σ26 88 17 = (4 : Int)) ∨ ((0 : Int) = 0 ∧ ¬ σ11 88 17 = 0 ∧ σ26 88 17 = σ11 88 17) := q27_0
              replace q27_1 : (¬ (0 : Int) = 0 ∧ σ26 88 17 = σ11 88 17 ∧ σ26 88 18 = σ11 88 18) ∨ ((0 : Int) = 0 ∧ σ11 88 17 = 0 ∧ σ26 88 17 = (4 : Int) ∧ σ26 88 18 = σ11 88 14) ∨ ((0 : Int) = 0 ∧ ¬ σ11 88 17 = 0 ∧ σ26 88 17 = σ11 88 17 ∧ σ26 88 18 = σ11 88 18) := q27_1
              have y29 : σ11 88 14 = τ 88 14 := (hGσ11 88 14 (show ¬ ((88 = 88 ∧ (14 = 17 ∨ 14 = 18))) from by decide))
              have f30 : (0 : Int) ≤ τ 88 14 ∧ τ 88 14 ≤ 400 := hIτ 88 14
              replace q27_2 : aM σ26 = need (decide (¬ (0 : Int) = 0)) (4 : Int) (aM σ11) := q27_2
              have hFσ26 : tw_F (fun c j => (c = 88 ∧ (j = 10 ∨ j = 13 ∨ j = 14 ∨ j = 15 ∨ j = 16 ∨ j = 17 ∨ j = 18)) ∨ c = 94 ∨ c = 96) σ σ26 := tw_F_tr hFσ11 hGσ26 (fun c j q => (show (c = 88 ∧ (j = 10 ∨ j = 13 ∨ j = 14 ∨ j = 15 ∨ j = 16 ∨ j = 17 ∨ j = 18)) ∨ c = 94 ∨ c = 96 from by replace q : (c = 88 ∧ (j = 17 ∨ j = 18)) := q; exact (Or.inl ⟨q.1, (q.2.elim (fun z => (Or.inr (Or.inr (Or.inr (Or.inr (Or.inr (Or.inl z))))))) (fun z => (Or.inr (Or.inr (Or.inr (Or.inr (Or.inr (Or.inr z))))))))⟩)))
              refine j_st (st' := []) rfl ?_
              have e2 : aM σ26 = need (decide (tw_and (tw_shr d (r8 - 20)) 1 = 0)) 4 (aM τ) := by (have q := q27_2); rw [e1] at q; exact q.trans (need_cg (fun _ => by rw [← b2]; first | exact (decide_eq_true (by omega)).trans (decide_eq_true (by omega)).symm | exact (decide_eq_false (by omega)).trans (decide_eq_false (by omega)).symm))
              refine j_iload_n (pc := 163) dX12_readAt_163 rfl rfl ?_
              refine j_iconst (pc := 164) dX12_readAt_164 ?_
              refine j_iload_n (pc := 165) dX12_readAt_165 rfl rfl ?_
              refine j_bipush (pc := 166) dX12_readAt_166 rfl ?_
              refine j_isub (pc := 168) dX12_readAt_168 ?_
              refine j_ishl (pc := 169) dX12_readAt_169 (fun z31 ez31 => ?_)
              have hz31 : (-2147483648 : Int) ≤ z31 ∧ z31 ≤ 2147483647 := by rw [ez31]; exact shl_in _ _
              have t1 := ez31
              refine j_ior (pc := 170) dX12_readAt_170 (fun z32 ez32 => ?_)
              have hz32 : (-2147483648 : Int) ≤ z32 ∧ z32 ≤ 2147483647 := by rw [ez32]; exact or_in _ _
              have t2 := ez32; rw [t1] at t2
              refine j_istore_n (pc := 171) (i := 2) (ls' := [(0, vR 88), (1, vI h), (2, vI z32), (3, vI r8)]) [1, 2, 0, 3] dX12_readAt_171 rfl (Nat.le_of_ble_eq_true rfl) rfl rfl ?_
              refine j_aload_n (pc := 172) dX12_readAt_172 rfl rfl ?_
              have fz : fM σ26 = fM σ := fM_F (hFσ26 88 12 (show ¬ ((88 = 88 ∧ (12 = 10 ∨ 12 = 13 ∨ 12 = 14 ∨ 12 = 15 ∨ 12 = 16 ∨ 12 = 17 ∨ 12 = 18)) ∨ 88 = 94 ∨ 88 = 96) from by decide)) (fun j => hFσ26 98 j (show ¬ ((98 = 88 ∧ (j = 10 ∨ j = 13 ∨ j = 14 ∨ j = 15 ∨ j = 16 ∨ j = 17 ∨ j = 18)) ∨ 98 = 94 ∨ 98 = 96) from fun h => h.elim (fun h => absurd h.1 (by decide)) (fun h => h.elim (fun h => absurd h (by decide)) (fun h => absurd h (by decide)))))
              refine j_callV (pc := 173) (As := []) (st := []) (c_X12_next hM σ26 hIσ26) mv_X12_137 rfl rfl rfl (a_88 hM) dX12_readAt_173 ⟨Nat.le_of_ble_eq_true rfl, Nat.le_of_ble_eq_true rfl⟩ ⟨Nat.le_refl _, Nat.le_refl _⟩ rfl (Nat.le_of_ble_eq_true rfl) rfl (fun z33 σ34 hz33 => ?_)
              obtain ⟨rfl, hIσ34, hGσ34, q35_0, q35_1, q35_2, q35_3⟩ := hz33
              replace q35_0 : ¬ σ34 88 17 = 0 ∨ σ26 88 17 = 0 := q35_0
              replace q35_1 : σ26 88 13 ≤ σ34 88 13 := q35_1
              have y37 : σ26 88 13 = τ 88 13 := ((hGσ26 88 13 (show ¬ ((88 = 88 ∧ (13 = 17 ∨ 13 = 18))) from by decide))).trans (hGσ11 88 13 (show ¬ ((88 = 88 ∧ (13 = 17 ∨ 13 = 18))) from by decide))
              have f38 : (0 : Int) ≤ τ 88 13 ∧ τ 88 13 ≤ 400 := hIτ 88 13
              replace q35_2 : ¬ σ34 88 17 = 0 ∨ σ34 88 15 = 0 ∨ σ26 88 13 < σ34 88 13 := q35_2
              have y39 : σ26 88 13 = τ 88 13 := ((hGσ26 88 13 (show ¬ ((88 = 88 ∧ (13 = 17 ∨ 13 = 18))) from by decide))).trans (hGσ11 88 13 (show ¬ ((88 = 88 ∧ (13 = 17 ∨ 13 = 18))) from by decide))
              replace q35_3 : aM σ34 = tok (fM σ26) (aM σ26) := q35_3
              have hFσ34 : tw_F (fun c j => (c = 88 ∧ (j = 10 ∨ j = 13 ∨ j = 14 ∨ j = 15 ∨ j = 16 ∨ j = 17 ∨ j = 18)) ∨ c = 94 ∨ c = 96) σ σ34 := tw_F_tr hFσ26 hGσ34 (fun c j q => (show (c = 88 ∧ (j = 10 ∨ j = 13 ∨ j = 14 ∨ j = 15 ∨ j = 16 ∨ j = 17 ∨ j = 18)) ∨ c = 94 ∨ c = 96 from by replace q : (c = 88 ∧ (j = 13 ∨ j = 14 ∨ j = 15 ∨ j = 16 ∨ j = 17 ∨ j = 18)) := q; exact (Or.inl ⟨q.1, (q.2.elim (fun z => (Or.inr (Or.inl z))) (fun z => (z.elim (fun z => (Or.inr (Or.inr (Or.inl z)))) (fun z => (z.elim (fun z => (Or.inr (Or.inr (Or.inr (Or.inl z))))) (fun z => (z.elim (fun z => (Or.inr (Or.inr (Or.inr (Or.inr (Or.inl z)))))) (fun z => (z.elim (fun z => (Or.inr (Or.inr (Or.inr (Or.inr (Or.inr (Or.inl z))))))) (fun z => (Or.inr (Or.inr (Or.inr (Or.inr (Or.inr (Or.inr z))))))))))))))))⟩)))
              refine j_st (st' := []) rfl ?_
              have d1 := q35_3; rw [fz] at d1
              refine j_iload_n (pc := 176) dX12_readAt_176 rfl rfl ?_
              refine j_bipush (pc := 177) dX12_readAt_177 rfl ?_
              refine j_icmpR_ne (pc := 179) (tgt := 202) ⟨by omega, by omega⟩ ⟨by omega, by omega⟩ dX12_readAt_179 rfl (fun h40 => ?_) (fun h40 => by exfalso; omega)
              refine j_iload_n (pc := 202) dX12_readAt_202 rfl rfl ?_
              refine j_bipush (pc := 203) dX12_readAt_203 rfl ?_
              refine j_icmpR_ne (pc := 205) (tgt := 228) ⟨by omega, by omega⟩ ⟨by omega, by omega⟩ dX12_readAt_205 rfl (fun h41 => ?_) (fun h41 => by exfalso; omega)
              refine j_aload_n (pc := 228) dX12_readAt_228 rfl rfl ?_
              refine j_getR (pc := 229) (r := 94) fl_X12_26 dX12_readAt_229 (a_88 hM) rfl ?_
              refine j_iconst (pc := 232) dX12_readAt_232 ?_
              refine j_iload_n (pc := 233) dX12_readAt_233 rfl rfl ?_
              refine j_imul (pc := 234) dX12_readAt_234 ?_
              refine j_iload_n (pc := 235) dX12_readAt_235 rfl rfl ?_
              refine j_bipush (pc := 236) dX12_readAt_236 rfl ?_
              refine j_icmpR_ne (pc := 238) (tgt := 245) ⟨by omega, by omega⟩ ⟨by omega, by omega⟩ dX12_readAt_238 rfl (fun h42 => ?_) (fun h42 => by exfalso; omega)
              refine j_iconst (pc := 245) dX12_readAt_245 ?_
              refine j_iadd (pc := 246) dX12_readAt_246 ?_
              refine j_iconst (pc := 247) dX12_readAt_247 ?_
              refine j_iast (pc := 248) dX12_readAt_248 (a_94 hM) (by omega) (by omega) (by decide) (j_nm (fun σ43 (eσ43 : σ43 = tw_up σ34 94 (((5 * h) + 3).toNat) 1) => ?_))
              have hIσ43 : tw_I σ43 := tw_I_up hIσ34 eσ43 (show (-2147483648 : Int) ≤ 1 ∧ 1 ≤ 2147483647 from by decide)
              have hFσ43 : tw_F (fun c j => (c = 88 ∧ (j = 10 ∨ j = 13 ∨ j = 14 ∨ j = 15 ∨ j = 16 ∨ j = 17 ∨ j = 18)) ∨ c = 94 ∨ c = 96) σ σ43 := tw_F_up hFσ34 eσ43 (show (94 = 88 ∧ (((5 * h) + 3).toNat = 10 ∨ ((5 * h) + 3).toNat = 13 ∨ ((5 * h) + 3).toNat = 14 ∨ ((5 * h) + 3).toNat = 15 ∨ ((5 * h) + 3).toNat = 16 ∨ ((5 * h) + 3).toNat = 17 ∨ ((5 * h) + 3).toNat = 18)) ∨ 94 = 94 ∨ 94 = 96 from (Or.inr (Or.inl rfl)))
              have d2 : aM σ43 = wr (ci 303 (5 * h)) 1 (aM σ34) := by rw [show ci 303 (5 * h) = 300 + (5 * h + 3).toNat from by unfold ci; omega]; exact aM_wr eσ43 (Or.inr (Or.inr (Or.inr (Or.inr (Or.inl ⟨rfl, by omega, by omega⟩)))))
              have d4 := withM_2 (f := fM σ) (h := h) (w := r8 - 20) (by omega) d1 d2
              have nx : (it wstopM (wstepM (fM σ) h) wmes (aM σ43, z32)).1 = footM (fM σ) (aM σ) := by rw [t2, ← wstepM_yes (f := fM σ) (h := h) (t := d) w3 (by omega) e2 d4, ← it_s (wstepM_go hq1) hs]; exact i3
              have y44 : σ43 88 13 = σ34 88 13 := (tw_ne1 eσ43 (by (first | decide | omega)))
              have y45 : σ43 88 17 = σ34 88 17 := (tw_ne1 eσ43 (by (first | decide | omega)))
              have y46 : σ43 88 15 = σ34 88 15 := (tw_ne1 eσ43 (by (first | decide | omega)))
              have y1 : σ43 88 17 = σ34 88 17 := by first | rfl | exact tw_ne1 eσ43 (by (first | decide | omega))
              have y2 : σ43 88 15 = σ34 88 15 := by first | rfl | exact tw_ne1 eσ43 (by (first | decide | omega))
              have y3 : σ43 88 13 = σ34 88 13 := by first | rfl | exact tw_ne1 eσ43 (by (first | decide | omega))
              have y4 : (0 : Int) ≤ σ43 88 13 ∧ σ43 88 13 ≤ 400 := hIσ43 88 13
              have lt9 := mMu_lt (f := τ 88 17) (s := τ 88 15) (p := τ 88 13) (f2 := σ43 88 17) (s2 := σ43 88 15) (p2 := σ43 88 13) (by omega) (by omega) (by omega) (by omega) (by omega)
              refine j_goto (pc := 249) (tgt := 99) dX12_readAt_249 rfl ?_
              refine j_ls (ls' := [(0, vR 88), (1, vI h), (2, vI z32)]) [0, 1, 2] rfl ?_
              have y47 : σ43 88 17 = σ34 88 17 := (tw_ne1 eσ43 (by (first | decide | omega)))
              have f48 : (0 : Int) ≤ σ34 88 17 ∧ σ34 88 17 ≤ 5 := hIσ34 88 17
              have y49 : σ43 88 13 = σ34 88 13 := (tw_ne1 eσ43 (by (first | decide | omega)))
              have f50 : (0 : Int) ≤ σ34 88 13 ∧ σ34 88 13 ≤ 400 := hIσ34 88 13
              have y51 : σ43 88 17 = σ34 88 17 := (tw_ne1 eσ43 (by (first | decide | omega)))
              have y52 : σ43 88 15 = σ34 88 15 := (tw_ne1 eσ43 (by (first | decide | omega)))
              have f53 : (-2147483648 : Int) ≤ σ34 88 15 ∧ σ34 88 15 ≤ 2147483647 := hIσ34 88 15
              have y54 : σ43 88 13 = σ34 88 13 := (tw_ne1 eσ43 (by (first | decide | omega)))
              exact ih h ⟨by omega, by omega⟩ z32 ⟨by omega, by omega⟩ σ43 hIσ43 hFσ43 (show DQ σ43 from (by first | exact DQ_put (DQ_F i0 (fun j => (((hGσ34 93 j (show ¬ ((93 = 88 ∧ (j = 13 ∨ j = 14 ∨ j = 15 ∨ j = 16 ∨ j = 17 ∨ j = 18))) from fun h => absurd h.1 (by decide)))).trans (hGσ26 93 j (show ¬ ((93 = 88 ∧ (j = 17 ∨ j = 18))) from fun h => absurd h.1 (by decide)))).trans (hGσ11 93 j (show ¬ ((93 = 88 ∧ (j = 17 ∨ j = 18))) from fun h => absurd h.1 (by decide)))) (fun j => (((hGσ34 94 j (show ¬ ((94 = 88 ∧ (j = 13 ∨ j = 14 ∨ j = 15 ∨ j = 16 ∨ j = 17 ∨ j = 18))) from fun h => absurd h.1 (by decide)))).trans (hGσ26 94 j (show ¬ ((94 = 88 ∧ (j = 17 ∨ j = 18))) from fun h => absurd h.1 (by decide)))).trans (hGσ11 94 j (show ¬ ((94 = 88 ∧ (j = 17 ∨ j = 18))) from fun h => absurd h.1 (by decide)))) (by omega)) eσ43 (by clear q7_0 q7_1 q12_0 q12_1 q12_2 q27_0 q27_1 q27_2 q35_0 q35_1 q35_2 q35_3; first | exact Or.inr (w92 (by omega) (by omega) (by omega)) | (rcases q35_0 with q | q; exact Or.inl (by omega); (first | exact Or.inr (w92 (by omega) (by omega) (by omega)) | exact Or.inr (w92 (h := 0) (k := 0) (by omega) (by omega) (by omega))))) | exact DQ_F i0 (fun j => ((((tw_ne1 eσ43 (by (first | decide | omega)))).trans (hGσ34 93 j (show ¬ ((93 = 88 ∧ (j = 13 ∨ j = 14 ∨ j = 15 ∨ j = 16 ∨ j = 17 ∨ j = 18))) from fun h => absurd h.1 (by decide)))).trans (hGσ26 93 j (show ¬ ((93 = 88 ∧ (j = 17 ∨ j = 18))) from fun h => absurd h.1 (by decide)))).trans (hGσ11 93 j (show ¬ ((93 = 88 ∧ (j = 17 ∨ j = 18))) from fun h => absurd h.1 (by decide)))) (fun j => rfl) (by omega))) (show ¬ σ43 88 17 = 0 ∨ σ 88 17 = 0 from (by clear q7_0 q7_1 q12_1 q12_2 q27_1 q27_2 q35_1 q35_2 q35_3; omega)) (show σ 88 13 ≤ σ43 88 13 from (by clear q7_0 q7_1 q12_0 q12_1 q12_2 q27_0 q27_1 q27_2 q35_0 q35_2 q35_3; omega)) (show (it wstopM (wstepM (fM σ) h) wmes (aM σ43, z32)).1 = footM (fM σ) (aM σ) from nx) (show (mMu (σ43 88 17) (σ43 88 15) (σ43 88 13)).toNat < N_ from by omega)
            · refine j_iconst (pc := 154) dX12_readAt_154 ?_
              refine j_goto (pc := 155) (tgt := 159) dX12_readAt_155 rfl ?_
              refine j_iconst (pc := 159) dX12_readAt_159 ?_
              refine j_callV (pc := 160) (As := [vI 1, vI 4]) (st := []) (c_X12_needs hM 1 (by (first | decide | exact ⟨by omega, by omega⟩)) 4 (by (first | decide | exact ⟨by omega, by omega⟩)) σ11 hIσ11) mv_X12_129 rfl rfl rfl (a_88 hM) dX12_readAt_160 ⟨Nat.le_of_ble_eq_true rfl, Nat.le_of_ble_eq_true rfl⟩ ⟨Nat.le_refl _, Nat.le_refl _⟩ rfl (Nat.le_of_ble_eq_true rfl) rfl (fun z55 σ56 hz55 => ?_)
              obtain ⟨rfl, hIσ56, hGσ56, q57_0, q57_1, q57_2⟩ := hz55
              replace q57_0 : (¬ (1 : Int) = 0 ∧ σ56 88 17 = σ11 88 17) ∨ ((1 : Int) = 0 ∧ σ11 88 17 = 0 ∧ σ56 88 17 = (4 : Int)) ∨ ((1 : Int) = 0 ∧ ¬ σ11 88 17 = 0 ∧ σ56 88 17 = σ11 88 17) := q57_0
              replace q57_1 : (¬ (1 : Int) = 0 ∧ σ56 88 17 = σ11 88 17 ∧ σ56 88 18 = σ11 88 18) ∨ ((1 : Int) = 0 ∧ σ11 88 17 = 0 ∧ σ56 88 17 = (4 : Int) ∧ σ56 88 18 = σ11 88 14) ∨ ((1 : Int) = 0 ∧ ¬ σ11 88 17 = 0 ∧ σ56 88 17 = σ11 88 17 ∧ σ56 88 18 = σ11 88 18) := q57_1
              have y59 : σ11 88 14 = τ 88 14 := (hGσ11 88 14 (show ¬ ((88 = 88 ∧ (14 = 17 ∨ 14 = 18))) from by decide))
              have f60 : (0 : Int) ≤ τ 88 14 ∧ τ 88 14 ≤ 400 := hIτ 88 14
              replace q57_2 : aM σ56 = need (decide (¬ (1 : Int) = 0)) (4 : Int) (aM σ11) := q57_2
              have hFσ56 : tw_F (fun c j => (c = 88 ∧ (j = 10 ∨ j = 13 ∨ j = 14 ∨ j = 15 ∨ j = 16 ∨ j = 17 ∨ j = 18)) ∨ c = 94 ∨ c = 96) σ σ56 := tw_F_tr hFσ11 hGσ56 (fun c j q => (show (c = 88 ∧ (j = 10 ∨ j = 13 ∨ j = 14 ∨ j = 15 ∨ j = 16 ∨ j = 17 ∨ j = 18)) ∨ c = 94 ∨ c = 96 from by replace q : (c = 88 ∧ (j = 17 ∨ j = 18)) := q; exact (Or.inl ⟨q.1, (q.2.elim (fun z => (Or.inr (Or.inr (Or.inr (Or.inr (Or.inr (Or.inl z))))))) (fun z => (Or.inr (Or.inr (Or.inr (Or.inr (Or.inr (Or.inr z))))))))⟩)))
              refine j_st (st' := []) rfl ?_
              have e2 : aM σ56 = need (decide (tw_and (tw_shr d (r8 - 20)) 1 = 0)) 4 (aM τ) := by (have q := q57_2); rw [e1] at q; exact q.trans (need_cg (fun _ => by rw [← b2]; first | exact (decide_eq_true (by omega)).trans (decide_eq_true (by omega)).symm | exact (decide_eq_false (by omega)).trans (decide_eq_false (by omega)).symm))
              refine j_iload_n (pc := 163) dX12_readAt_163 rfl rfl ?_
              refine j_iconst (pc := 164) dX12_readAt_164 ?_
              refine j_iload_n (pc := 165) dX12_readAt_165 rfl rfl ?_
              refine j_bipush (pc := 166) dX12_readAt_166 rfl ?_
              refine j_isub (pc := 168) dX12_readAt_168 ?_
              refine j_ishl (pc := 169) dX12_readAt_169 (fun z61 ez61 => ?_)
              have hz61 : (-2147483648 : Int) ≤ z61 ∧ z61 ≤ 2147483647 := by rw [ez61]; exact shl_in _ _
              have t1 := ez61
              refine j_ior (pc := 170) dX12_readAt_170 (fun z62 ez62 => ?_)
              have hz62 : (-2147483648 : Int) ≤ z62 ∧ z62 ≤ 2147483647 := by rw [ez62]; exact or_in _ _
              have t2 := ez62; rw [t1] at t2
              refine j_istore_n (pc := 171) (i := 2) (ls' := [(0, vR 88), (1, vI h), (2, vI z62), (3, vI r8)]) [1, 2, 0, 3] dX12_readAt_171 rfl (Nat.le_of_ble_eq_true rfl) rfl rfl ?_
              refine j_aload_n (pc := 172) dX12_readAt_172 rfl rfl ?_
              have fz : fM σ56 = fM σ := fM_F (hFσ56 88 12 (show ¬ ((88 = 88 ∧ (12 = 10 ∨ 12 = 13 ∨ 12 = 14 ∨ 12 = 15 ∨ 12 = 16 ∨ 12 = 17 ∨ 12 = 18)) ∨ 88 = 94 ∨ 88 = 96) from by decide)) (fun j => hFσ56 98 j (show ¬ ((98 = 88 ∧ (j = 10 ∨ j = 13 ∨ j = 14 ∨ j = 15 ∨ j = 16 ∨ j = 17 ∨ j = 18)) ∨ 98 = 94 ∨ 98 = 96) from fun h => h.elim (fun h => absurd h.1 (by decide)) (fun h => h.elim (fun h => absurd h (by decide)) (fun h => absurd h (by decide)))))
              refine j_callV (pc := 173) (As := []) (st := []) (c_X12_next hM σ56 hIσ56) mv_X12_137 rfl rfl rfl (a_88 hM) dX12_readAt_173 ⟨Nat.le_of_ble_eq_true rfl, Nat.le_of_ble_eq_true rfl⟩ ⟨Nat.le_refl _, Nat.le_refl _⟩ rfl (Nat.le_of_ble_eq_true rfl) rfl (fun z63 σ64 hz63 => ?_)
              obtain ⟨rfl, hIσ64, hGσ64, q65_0, q65_1, q65_2, q65_3⟩ := hz63
              replace q65_0 : ¬ σ64 88 17 = 0 ∨ σ56 88 17 = 0 := q65_0
              replace q65_1 : σ56 88 13 ≤ σ64 88 13 := q65_1
              have y67 : σ56 88 13 = τ 88 13 := ((hGσ56 88 13 (show ¬ ((88 = 88 ∧ (13 = 17 ∨ 13 = 18))) from by decide))).trans (hGσ11 88 13 (show ¬ ((88 = 88 ∧ (13 = 17 ∨ 13 = 18))) from by decide))
              have f68 : (0 : Int) ≤ τ 88 13 ∧ τ 88 13 ≤ 400 := hIτ 88 13
              replace q65_2 : ¬ σ64 88 17 = 0 ∨ σ64 88 15 = 0 ∨ σ56 88 13 < σ64 88 13 := q65_2
              have y69 : σ56 88 13 = τ 88 13 := ((hGσ56 88 13 (show ¬ ((88 = 88 ∧ (13 = 17 ∨ 13 = 18))) from by decide))).trans (hGσ11 88 13 (show ¬ ((88 = 88 ∧ (13 = 17 ∨ 13 = 18))) from by decide))
              replace q65_3 : aM σ64 = tok (fM σ56) (aM σ56) := q65_3
              have hFσ64 : tw_F (fun c j => (c = 88 ∧ (j = 10 ∨ j = 13 ∨ j = 14 ∨ j = 15 ∨ j = 16 ∨ j = 17 ∨ j = 18)) ∨ c = 94 ∨ c = 96) σ σ64 := tw_F_tr hFσ56 hGσ64 (fun c j q => (show (c = 88 ∧ (j = 10 ∨ j = 13 ∨ j = 14 ∨ j = 15 ∨ j = 16 ∨ j = 17 ∨ j = 18)) ∨ c = 94 ∨ c = 96 from by replace q : (c = 88 ∧ (j = 13 ∨ j = 14 ∨ j = 15 ∨ j = 16 ∨ j = 17 ∨ j = 18)) := q; exact (Or.inl ⟨q.1, (q.2.elim (fun z => (Or.inr (Or.inl z))) (fun z => (z.elim (fun z => (Or.inr (Or.inr (Or.inl z)))) (fun z => (z.elim (fun z => (Or.inr (Or.inr (Or.inr (Or.inl z))))) (fun z => (z.elim (fun z => (Or.inr (Or.inr (Or.inr (Or.inr (Or.inl z)))))) (fun z => (z.elim (fun z => (Or.inr (Or.inr (Or.inr (Or.inr (Or.inr (Or.inl z))))))) (fun z => (Or.inr (Or.inr (Or.inr (Or.inr (Or.inr (Or.inr z))))))))))))))))⟩)))
              refine j_st (st' := []) rfl ?_
              have d1 := q65_3; rw [fz] at d1
              refine j_iload_n (pc := 176) dX12_readAt_176 rfl rfl ?_
              refine j_bipush (pc := 177) dX12_readAt_177 rfl ?_
              refine j_icmpR_ne (pc := 179) (tgt := 202) ⟨by omega, by omega⟩ ⟨by omega, by omega⟩ dX12_readAt_179 rfl (fun h70 => ?_) (fun h70 => by exfalso; omega)
              refine j_iload_n (pc := 202) dX12_readAt_202 rfl rfl ?_
              refine j_bipush (pc := 203) dX12_readAt_203 rfl ?_
              refine j_icmpR_ne (pc := 205) (tgt := 228) ⟨by omega, by omega⟩ ⟨by omega, by omega⟩ dX12_readAt_205 rfl (fun h71 => ?_) (fun h71 => by exfalso; omega)
              refine j_aload_n (pc := 228) dX12_readAt_228 rfl rfl ?_
              refine j_getR (pc := 229) (r := 94) fl_X12_26 dX12_readAt_229 (a_88 hM) rfl ?_
              refine j_iconst (pc := 232) dX12_readAt_232 ?_
              refine j_iload_n (pc := 233) dX12_readAt_233 rfl rfl ?_
              refine j_imul (pc := 234) dX12_readAt_234 ?_
              refine j_iload_n (pc := 235) dX12_readAt_235 rfl rfl ?_
              refine j_bipush (pc := 236) dX12_readAt_236 rfl ?_
              refine j_icmpR_ne (pc := 238) (tgt := 245) ⟨by omega, by omega⟩ ⟨by omega, by omega⟩ dX12_readAt_238 rfl (fun h72 => ?_) (fun h72 => by exfalso; omega)
              refine j_iconst (pc := 245) dX12_readAt_245 ?_
              refine j_iadd (pc := 246) dX12_readAt_246 ?_
              refine j_iconst (pc := 247) dX12_readAt_247 ?_
              refine j_iast (pc := 248) dX12_readAt_248 (a_94 hM) (by omega) (by omega) (by decide) (j_nm (fun σ73 (eσ73 : σ73 = tw_up σ64 94 (((5 * h) + 3).toNat) 1) => ?_))
              have hIσ73 : tw_I σ73 := tw_I_up hIσ64 eσ73 (show (-2147483648 : Int) ≤ 1 ∧ 1 ≤ 2147483647 from by decide)
              have hFσ73 : tw_F (fun c j => (c = 88 ∧ (j = 10 ∨ j = 13 ∨ j = 14 ∨ j = 15 ∨ j = 16 ∨ j = 17 ∨ j = 18)) ∨ c = 94 ∨ c = 96) σ σ73 := tw_F_up hFσ64 eσ73 (show (94 = 88 ∧ (((5 * h) + 3).toNat = 10 ∨ ((5 * h) + 3).toNat = 13 ∨ ((5 * h) + 3).toNat = 14 ∨ ((5 * h) + 3).toNat = 15 ∨ ((5 * h) + 3).toNat = 16 ∨ ((5 * h) + 3).toNat = 17 ∨ ((5 * h) + 3).toNat = 18)) ∨ 94 = 94 ∨ 94 = 96 from (Or.inr (Or.inl rfl)))
              have d2 : aM σ73 = wr (ci 303 (5 * h)) 1 (aM σ64) := by rw [show ci 303 (5 * h) = 300 + (5 * h + 3).toNat from by unfold ci; omega]; exact aM_wr eσ73 (Or.inr (Or.inr (Or.inr (Or.inr (Or.inl ⟨rfl, by omega, by omega⟩)))))
              have d4 := withM_2 (f := fM σ) (h := h) (w := r8 - 20) (by omega) d1 d2
              have nx : (it wstopM (wstepM (fM σ) h) wmes (aM σ73, z62)).1 = footM (fM σ) (aM σ) := by rw [t2, ← wstepM_yes (f := fM σ) (h := h) (t := d) w3 (by omega) e2 d4, ← it_s (wstepM_go hq1) hs]; exact i3
              have y74 : σ73 88 13 = σ64 88 13 := (tw_ne1 eσ73 (by (first | decide | omega)))
              have y75 : σ73 88 17 = σ64 88 17 := (tw_ne1 eσ73 (by (first | decide | omega)))
              have y76 : σ73 88 15 = σ64 88 15 := (tw_ne1 eσ73 (by (first | decide | omega)))
              have y1 : σ73 88 17 = σ64 88 17 := by first | rfl | exact tw_ne1 eσ73 (by (first | decide | omega))
              have y2 : σ73 88 15 = σ64 88 15 := by first | rfl | exact tw_ne1 eσ73 (by (first | decide | omega))
              have y3 : σ73 88 13 = σ64 88 13 := by first | rfl | exact tw_ne1 eσ73 (by (first | decide | omega))
              have y4 : (0 : Int) ≤ σ73 88 13 ∧ σ73 88 13 ≤ 400 := hIσ73 88 13
              have lt9 := mMu_lt (f := τ 88 17) (s := τ 88 15) (p := τ 88 13) (f2 := σ73 88 17) (s2 := σ73 88 15) (p2 := σ73 88 13) (by omega) (by omega) (by omega) (by omega) (by omega)
              refine j_goto (pc := 249) (tgt := 99) dX12_readAt_249 rfl ?_
              refine j_ls (ls' := [(0, vR 88), (1, vI h), (2, vI z62)]) [0, 1, 2] rfl ?_
              have y77 : σ73 88 17 = σ64 88 17 := (tw_ne1 eσ73 (by (first | decide | omega)))
              have f78 : (0 : Int) ≤ σ64 88 17 ∧ σ64 88 17 ≤ 5 := hIσ64 88 17
              have y79 : σ73 88 13 = σ64 88 13 := (tw_ne1 eσ73 (by (first | decide | omega)))
              have f80 : (0 : Int) ≤ σ64 88 13 ∧ σ64 88 13 ≤ 400 := hIσ64 88 13
              have y81 : σ73 88 17 = σ64 88 17 := (tw_ne1 eσ73 (by (first | decide | omega)))
              have y82 : σ73 88 15 = σ64 88 15 := (tw_ne1 eσ73 (by (first | decide | omega)))
              have f83 : (-2147483648 : Int) ≤ σ64 88 15 ∧ σ64 88 15 ≤ 2147483647 := hIσ64 88 15
              have y84 : σ73 88 13 = σ64 88 13 := (tw_ne1 eσ73 (by (first | decide | omega)))
              exact ih h ⟨by omega, by omega⟩ z62 ⟨by omega, by omega⟩ σ73 hIσ73 hFσ73 (show DQ σ73 from (by first | exact DQ_put (DQ_F i0 (fun j => (((hGσ64 93 j (show ¬ ((93 = 88 ∧ (j = 13 ∨ j = 14 ∨ j = 15 ∨ j = 16 ∨ j = 17 ∨ j = 18))) from fun h => absurd h.1 (by decide)))).trans (hGσ56 93 j (show ¬ ((93 = 88 ∧ (j = 17 ∨ j = 18))) from fun h => absurd h.1 (by decide)))).trans (hGσ11 93 j (show ¬ ((93 = 88 ∧ (j = 17 ∨ j = 18))) from fun h => absurd h.1 (by decide)))) (fun j => (((hGσ64 94 j (show ¬ ((94 = 88 ∧ (j = 13 ∨ j = 14 ∨ j = 15 ∨ j = 16 ∨ j = 17 ∨ j = 18))) from fun h => absurd h.1 (by decide)))).trans (hGσ56 94 j (show ¬ ((94 = 88 ∧ (j = 17 ∨ j = 18))) from fun h => absurd h.1 (by decide)))).trans (hGσ11 94 j (show ¬ ((94 = 88 ∧ (j = 17 ∨ j = 18))) from fun h => absurd h.1 (by decide)))) (by omega)) eσ73 (by clear q7_0 q7_1 q12_0 q12_1 q12_2 q57_0 q57_1 q57_2 q65_0 q65_1 q65_2 q65_3; first | exact Or.inr (w92 (by omega) (by omega) (by omega)) | (rcases q65_0 with q | q; exact Or.inl (by omega); (first | exact Or.inr (w92 (by omega) (by omega) (by omega)) | exact Or.inr (w92 (h := 0) (k := 0) (by omega) (by omega) (by omega))))) | exact DQ_F i0 (fun j => ((((tw_ne1 eσ73 (by (first | decide | omega)))).trans (hGσ64 93 j (show ¬ ((93 = 88 ∧ (j = 13 ∨ j = 14 ∨ j = 15 ∨ j = 16 ∨ j = 17 ∨ j = 18))) from fun h => absurd h.1 (by decide)))).trans (hGσ56 93 j (show ¬ ((93 = 88 ∧ (j = 17 ∨ j = 18))) from fun h => absurd h.1 (by decide)))).trans (hGσ11 93 j (show ¬ ((93 = 88 ∧ (j = 17 ∨ j = 18))) from fun h => absurd h.1 (by decide)))) (fun j => rfl) (by omega))) (show ¬ σ73 88 17 = 0 ∨ σ 88 17 = 0 from (by clear q7_0 q7_1 q12_1 q12_2 q57_1 q57_2 q65_1 q65_2 q65_3; omega)) (show σ 88 13 ≤ σ73 88 13 from (by clear q7_0 q7_1 q12_0 q12_1 q12_2 q57_0 q57_1 q57_2 q65_0 q65_2 q65_3; omega)) (show (it wstopM (wstepM (fM σ) h) wmes (aM σ73, z62)).1 = footM (fM σ) (aM σ) from nx) (show (mMu (σ73 88 17) (σ73 88 15) (σ73 88 13)).toNat < N_ from by omega)
        · refine j_iconst (pc := 126) dX12_readAt_126 ?_
          refine j_goto (pc := 127) (tgt := 131) dX12_readAt_127 rfl ?_
          refine j_iconst (pc := 131) dX12_readAt_131 ?_
          refine j_callV (pc := 132) (As := [vI 1, vI 2]) (st := []) (c_X12_needs hM 1 (by (first | decide | exact ⟨by omega, by omega⟩)) 2 (by (first | decide | exact ⟨by omega, by omega⟩)) τ hIτ) mv_X12_129 rfl rfl rfl (a_88 hM) dX12_readAt_132 ⟨Nat.le_of_ble_eq_true rfl, Nat.le_of_ble_eq_true rfl⟩ ⟨Nat.le_refl _, Nat.le_refl _⟩ rfl (Nat.le_of_ble_eq_true rfl) rfl (fun z85 σ86 hz85 => ?_)
          obtain ⟨rfl, hIσ86, hGσ86, q87_0, q87_1, q87_2⟩ := hz85
          replace q87_0 : (¬ (1 : Int) = 0 ∧ σ86 88 17 = τ 88 17) ∨ ((1 : Int) = 0 ∧ τ 88 17 = 0 ∧ σ86 88 17 = (2 : Int)) ∨ ((1 : Int) = 0 ∧ ¬ τ 88 17 = 0 ∧ σ86 88 17 = τ 88 17) := q87_0
          replace q87_1 : (¬ (1 : Int) = 0 ∧ σ86 88 17 = τ 88 17 ∧ σ86 88 18 = τ 88 18) ∨ ((1 : Int) = 0 ∧ τ 88 17 = 0 ∧ σ86 88 17 = (2 : Int) ∧ σ86 88 18 = τ 88 14) ∨ ((1 : Int) = 0 ∧ ¬ τ 88 17 = 0 ∧ σ86 88 17 = τ 88 17 ∧ σ86 88 18 = τ 88 18) := q87_1
          replace q87_2 : aM σ86 = need (decide (¬ (1 : Int) = 0)) (2 : Int) (aM τ) := q87_2
          have hFσ86 : tw_F (fun c j => (c = 88 ∧ (j = 10 ∨ j = 13 ∨ j = 14 ∨ j = 15 ∨ j = 16 ∨ j = 17 ∨ j = 18)) ∨ c = 94 ∨ c = 96) σ σ86 := tw_F_tr hFτ hGσ86 (fun c j q => (show (c = 88 ∧ (j = 10 ∨ j = 13 ∨ j = 14 ∨ j = 15 ∨ j = 16 ∨ j = 17 ∨ j = 18)) ∨ c = 94 ∨ c = 96 from by replace q : (c = 88 ∧ (j = 17 ∨ j = 18)) := q; exact (Or.inl ⟨q.1, (q.2.elim (fun z => (Or.inr (Or.inr (Or.inr (Or.inr (Or.inr (Or.inl z))))))) (fun z => (Or.inr (Or.inr (Or.inr (Or.inr (Or.inr (Or.inr z))))))))⟩)))
          refine j_st (st' := []) rfl ?_
          have c1 := q87_2
          refine j_aload_n (pc := 135) dX12_readAt_135 rfl rfl ?_
          refine j_getI (pc := 136) fl_X12_91 dX12_readAt_136 (a_88 hM) rfl ?_
          have f89 : (0 : Int) ≤ σ86 88 17 ∧ σ86 88 17 ≤ 5 := hIσ86 88 17
          refine j_ifR_ne (pc := 139) (tgt := 249) ⟨by omega, by omega⟩ dX12_readAt_139 rfl (fun h90 => ?_) (fun h90 => ?_)
          · have nx : (it wstopM (wstepM (fM σ) h) wmes (aM σ86, d)).1 = footM (fM σ) (aM σ) := by first | (exfalso; omega) | (rw [c1.trans (need_cg (g' := false) (fun _ => decide_eq_false (by omega))), ← wstepM_no (f := fM σ) (h := h) (t := d) (by rw [w2]; omega), ← it_s (wstepM_go hq1) hs]; exact i3)
            have y91 : σ86 88 13 = τ 88 13 := (hGσ86 88 13 (show ¬ ((88 = 88 ∧ (13 = 17 ∨ 13 = 18))) from by decide))
            skip
            have y92 : σ86 88 15 = τ 88 15 := (hGσ86 88 15 (show ¬ ((88 = 88 ∧ (15 = 17 ∨ 15 = 18))) from by decide))
            have y1 : σ86 88 17 = σ86 88 17 := by first | rfl | exact tw_ne1 _ (by omega)
            have y2 : σ86 88 15 = σ86 88 15 := by first | rfl | exact tw_ne1 _ (by omega)
            have y3 : σ86 88 13 = σ86 88 13 := by first | rfl | exact tw_ne1 _ (by omega)
            have y4 : (0 : Int) ≤ σ86 88 13 ∧ σ86 88 13 ≤ 400 := hIσ86 88 13
            have lt9 := mMu_lt (f := τ 88 17) (s := τ 88 15) (p := τ 88 13) (f2 := σ86 88 17) (s2 := σ86 88 15) (p2 := σ86 88 13) (by omega) (by omega) (by omega) (by omega) (by omega)
            refine j_goto (pc := 249) (tgt := 99) dX12_readAt_249 rfl ?_
            refine j_ls (ls' := [(0, vR 88), (1, vI h), (2, vI d)]) [0, 1, 2] rfl ?_
            have y93 : σ86 88 13 = τ 88 13 := (hGσ86 88 13 (show ¬ ((88 = 88 ∧ (13 = 17 ∨ 13 = 18))) from by decide))
            have f94 : (0 : Int) ≤ τ 88 13 ∧ τ 88 13 ≤ 400 := hIτ 88 13
            have y95 : σ86 88 15 = τ 88 15 := (hGσ86 88 15 (show ¬ ((88 = 88 ∧ (15 = 17 ∨ 15 = 18))) from by decide))
            have y96 : σ86 88 13 = τ 88 13 := (hGσ86 88 13 (show ¬ ((88 = 88 ∧ (13 = 17 ∨ 13 = 18))) from by decide))
            exact ih h ⟨by omega, by omega⟩ d ⟨by omega, by omega⟩ σ86 hIσ86 hFσ86 (show DQ σ86 from (by first | exact DQ_put (DQ_F i0 (fun j => rfl) (fun j => rfl) (by omega)) _ (by clear q7_0 q7_1 q87_0 q87_1 q87_2; first | exact Or.inr (w92 (by omega) (by omega) (by omega)) | (rcases q87_0 with q | q; exact Or.inl (by omega); (first | exact Or.inr (w92 (by omega) (by omega) (by omega)) | exact Or.inr (w92 (h := 0) (k := 0) (by omega) (by omega) (by omega))))) | exact DQ_F i0 (fun j => (hGσ86 93 j (show ¬ ((93 = 88 ∧ (j = 17 ∨ j = 18))) from fun h => absurd h.1 (by decide)))) (fun j => (hGσ86 94 j (show ¬ ((94 = 88 ∧ (j = 17 ∨ j = 18))) from fun h => absurd h.1 (by decide)))) (by omega))) (show ¬ σ86 88 17 = 0 ∨ σ 88 17 = 0 from (by clear q7_0 q7_1 q87_1 q87_2; omega)) (show σ 88 13 ≤ σ86 88 13 from (by clear q7_0 q7_1 q87_0 q87_1 q87_2; omega)) (show (it wstopM (wstepM (fM σ) h) wmes (aM σ86, d)).1 = footM (fM σ) (aM σ) from nx) (show (mMu (σ86 88 17) (σ86 88 15) (σ86 88 13)).toNat < N_ from by omega)
          · have e1 : aM σ86 = aM τ := c1.trans ((need_cg (fun _ => decide_eq_true (by omega))).trans need_t)
            have w3 : r8 - 20 = wnm (fM σ) ((aM τ) 2) ((aM τ) 1) ((aM τ) 0) := by rw [w2]; omega
            refine j_aload_n (pc := 142) dX12_readAt_142 rfl rfl ?_
            refine j_iload_n (pc := 143) dX12_readAt_143 rfl rfl ?_
            refine j_iload_n (pc := 144) dX12_readAt_144 rfl rfl ?_
            refine j_bipush (pc := 145) dX12_readAt_145 rfl ?_
            refine j_isub (pc := 147) dX12_readAt_147 ?_
            refine j_ishr (pc := 148) dX12_readAt_148 (fun z97 ez97 => ?_)
            have hz97 : (-2147483648 : Int) ≤ z97 ∧ z97 ≤ 2147483647 := by rw [ez97]; exact shr_in _ _
            have b1 := ez97
            refine j_iconst (pc := 149) dX12_readAt_149 ?_
            refine j_iand (pc := 150) dX12_readAt_150 (fun z98 ez98 => ?_)
            have hz98 : (-2147483648 : Int) ≤ z98 ∧ z98 ≤ 2147483647 := by rw [ez98]; exact and_in _ _
            have b2 := ez98; rw [b1] at b2
            refine j_ifR_ne (pc := 151) (tgt := 158) ⟨by omega, by omega⟩ dX12_readAt_151 rfl (fun h99 => ?_) (fun h99 => ?_)
            · refine j_iconst (pc := 158) dX12_readAt_158 ?_
              refine j_iconst (pc := 159) dX12_readAt_159 ?_
              refine j_callV (pc := 160) (As := [vI 0, vI 4]) (st := []) (c_X12_needs hM 0 (by (first | decide | exact ⟨by omega, by omega⟩)) 4 (by (first | decide | exact ⟨by omega, by omega⟩)) σ86 hIσ86) mv_X12_129 rfl rfl rfl (a_88 hM) dX12_readAt_160 ⟨Nat.le_of_ble_eq_true rfl, Nat.le_of_ble_eq_true rfl⟩ ⟨Nat.le_refl _, Nat.le_refl _⟩ rfl (Nat.le_of_ble_eq_true rfl) rfl (fun z100 σ101 hz100 => ?_)
              obtain ⟨rfl, hIσ101, hGσ101, q102_0, q102_1, q102_2⟩ := hz100
              replace q102_0 : (¬ (0 : Int) = 0 ∧ σ101 88 17 = σ86 88 17) ∨ ((0 : Int) = 0 ∧ σ86 88 17 = 0 ∧ σ101 88 17 = (4 : Int)) ∨ ((0 : Int) = 0 ∧ ¬ σ86 88 17 = 0 ∧ σ101 88 17 = σ86 88 17) := q102_0
              replace q102_1 : (¬ (0 : Int) = 0 ∧ σ101 88 17 = σ86 88 17 ∧ σ101 88 18 = σ86 88 18) ∨ ((0 : Int) = 0 ∧ σ86 88 17 = 0 ∧ σ101 88 17 = (4 : Int) ∧ σ101 88 18 = σ86 88 14) ∨ ((0 : Int) = 0 ∧ ¬ σ86 88 17 = 0 ∧ σ101 88 17 = σ86 88 17 ∧ σ101 88 18 = σ86 88 18) := q102_1
              have y104 : σ86 88 14 = τ 88 14 := (hGσ86 88 14 (show ¬ ((88 = 88 ∧ (14 = 17 ∨ 14 = 18))) from by decide))
              have f105 : (0 : Int) ≤ τ 88 14 ∧ τ 88 14 ≤ 400 := hIτ 88 14
              replace q102_2 : aM σ101 = need (decide (¬ (0 : Int) = 0)) (4 : Int) (aM σ86) := q102_2
              have hFσ101 : tw_F (fun c j => (c = 88 ∧ (j = 10 ∨ j = 13 ∨ j = 14 ∨ j = 15 ∨ j = 16 ∨ j = 17 ∨ j = 18)) ∨ c = 94 ∨ c = 96) σ σ101 := tw_F_tr hFσ86 hGσ101 (fun c j q => (show (c = 88 ∧ (j = 10 ∨ j = 13 ∨ j = 14 ∨ j = 15 ∨ j = 16 ∨ j = 17 ∨ j = 18)) ∨ c = 94 ∨ c = 96 from by replace q : (c = 88 ∧ (j = 17 ∨ j = 18)) := q; exact (Or.inl ⟨q.1, (q.2.elim (fun z => (Or.inr (Or.inr (Or.inr (Or.inr (Or.inr (Or.inl z))))))) (fun z => (Or.inr (Or.inr (Or.inr (Or.inr (Or.inr (Or.inr z))))))))⟩)))
              refine j_st (st' := []) rfl ?_
              have e2 : aM σ101 = need (decide (tw_and (tw_shr d (r8 - 20)) 1 = 0)) 4 (aM τ) := by (have q := q102_2); rw [e1] at q; exact q.trans (need_cg (fun _ => by rw [← b2]; first | exact (decide_eq_true (by omega)).trans (decide_eq_true (by omega)).symm | exact (decide_eq_false (by omega)).trans (decide_eq_false (by omega)).symm))
              refine j_iload_n (pc := 163) dX12_readAt_163 rfl rfl ?_
              refine j_iconst (pc := 164) dX12_readAt_164 ?_
              refine j_iload_n (pc := 165) dX12_readAt_165 rfl rfl ?_
              refine j_bipush (pc := 166) dX12_readAt_166 rfl ?_
              refine j_isub (pc := 168) dX12_readAt_168 ?_
              refine j_ishl (pc := 169) dX12_readAt_169 (fun z106 ez106 => ?_)
              have hz106 : (-2147483648 : Int) ≤ z106 ∧ z106 ≤ 2147483647 := by rw [ez106]; exact shl_in _ _
              have t1 := ez106
              refine j_ior (pc := 170) dX12_readAt_170 (fun z107 ez107 => ?_)
              have hz107 : (-2147483648 : Int) ≤ z107 ∧ z107 ≤ 2147483647 := by rw [ez107]; exact or_in _ _
              have t2 := ez107; rw [t1] at t2
              refine j_istore_n (pc := 171) (i := 2) (ls' := [(0, vR 88), (1, vI h), (2, vI z107), (3, vI r8)]) [1, 2, 0, 3] dX12_readAt_171 rfl (Nat.le_of_ble_eq_true rfl) rfl rfl ?_
              refine j_aload_n (pc := 172) dX12_readAt_172 rfl rfl ?_
              have fz : fM σ101 = fM σ := fM_F (hFσ101 88 12 (show ¬ ((88 = 88 ∧ (12 = 10 ∨ 12 = 13 ∨ 12 = 14 ∨ 12 = 15 ∨ 12 = 16 ∨ 12 = 17 ∨ 12 = 18)) ∨ 88 = 94 ∨ 88 = 96) from by decide)) (fun j => hFσ101 98 j (show ¬ ((98 = 88 ∧ (j = 10 ∨ j = 13 ∨ j = 14 ∨ j = 15 ∨ j = 16 ∨ j = 17 ∨ j = 18)) ∨ 98 = 94 ∨ 98 = 96) from fun h => h.elim (fun h => absurd h.1 (by decide)) (fun h => h.elim (fun h => absurd h (by decide)) (fun h => absurd h (by decide)))))
              refine j_callV (pc := 173) (As := []) (st := []) (c_X12_next hM σ101 hIσ101) mv_X12_137 rfl rfl rfl (a_88 hM) dX12_readAt_173 ⟨Nat.le_of_ble_eq_true rfl, Nat.le_of_ble_eq_true rfl⟩ ⟨Nat.le_refl _, Nat.le_refl _⟩ rfl (Nat.le_of_ble_eq_true rfl) rfl (fun z108 σ109 hz108 => ?_)
              obtain ⟨rfl, hIσ109, hGσ109, q110_0, q110_1, q110_2, q110_3⟩ := hz108
              replace q110_0 : ¬ σ109 88 17 = 0 ∨ σ101 88 17 = 0 := q110_0
              replace q110_1 : σ101 88 13 ≤ σ109 88 13 := q110_1
              have y112 : σ101 88 13 = τ 88 13 := ((hGσ101 88 13 (show ¬ ((88 = 88 ∧ (13 = 17 ∨ 13 = 18))) from by decide))).trans (hGσ86 88 13 (show ¬ ((88 = 88 ∧ (13 = 17 ∨ 13 = 18))) from by decide))
              have f113 : (0 : Int) ≤ τ 88 13 ∧ τ 88 13 ≤ 400 := hIτ 88 13
              replace q110_2 : ¬ σ109 88 17 = 0 ∨ σ109 88 15 = 0 ∨ σ101 88 13 < σ109 88 13 := q110_2
              have y114 : σ101 88 13 = τ 88 13 := ((hGσ101 88 13 (show ¬ ((88 = 88 ∧ (13 = 17 ∨ 13 = 18))) from by decide))).trans (hGσ86 88 13 (show ¬ ((88 = 88 ∧ (13 = 17 ∨ 13 = 18))) from by decide))
              replace q110_3 : aM σ109 = tok (fM σ101) (aM σ101) := q110_3
              have hFσ109 : tw_F (fun c j => (c = 88 ∧ (j = 10 ∨ j = 13 ∨ j = 14 ∨ j = 15 ∨ j = 16 ∨ j = 17 ∨ j = 18)) ∨ c = 94 ∨ c = 96) σ σ109 := tw_F_tr hFσ101 hGσ109 (fun c j q => (show (c = 88 ∧ (j = 10 ∨ j = 13 ∨ j = 14 ∨ j = 15 ∨ j = 16 ∨ j = 17 ∨ j = 18)) ∨ c = 94 ∨ c = 96 from by replace q : (c = 88 ∧ (j = 13 ∨ j = 14 ∨ j = 15 ∨ j = 16 ∨ j = 17 ∨ j = 18)) := q; exact (Or.inl ⟨q.1, (q.2.elim (fun z => (Or.inr (Or.inl z))) (fun z => (z.elim (fun z => (Or.inr (Or.inr (Or.inl z)))) (fun z => (z.elim (fun z => (Or.inr (Or.inr (Or.inr (Or.inl z))))) (fun z => (z.elim (fun z => (Or.inr (Or.inr (Or.inr (Or.inr (Or.inl z)))))) (fun z => (z.elim (fun z => (Or.inr (Or.inr (Or.inr (Or.inr (Or.inr (Or.inl z))))))) (fun z => (Or.inr (Or.inr (Or.inr (Or.inr (Or.inr (Or.inr z))))))))))))))))⟩)))
              refine j_st (st' := []) rfl ?_
              have d1 := q110_3; rw [fz] at d1
              refine j_iload_n (pc := 176) dX12_readAt_176 rfl rfl ?_
              refine j_bipush (pc := 177) dX12_readAt_177 rfl ?_
              refine j_icmpR_ne (pc := 179) (tgt := 202) ⟨by omega, by omega⟩ ⟨by omega, by omega⟩ dX12_readAt_179 rfl (fun h115 => ?_) (fun h115 => ?_)
              · refine j_iload_n (pc := 202) dX12_readAt_202 rfl rfl ?_
                refine j_bipush (pc := 203) dX12_readAt_203 rfl ?_
                refine j_icmpR_ne (pc := 205) (tgt := 228) ⟨by omega, by omega⟩ ⟨by omega, by omega⟩ dX12_readAt_205 rfl (fun h116 => ?_) (fun h116 => ?_)
                · refine j_aload_n (pc := 228) dX12_readAt_228 rfl rfl ?_
                  refine j_getR (pc := 229) (r := 94) fl_X12_26 dX12_readAt_229 (a_88 hM) rfl ?_
                  refine j_iconst (pc := 232) dX12_readAt_232 ?_
                  refine j_iload_n (pc := 233) dX12_readAt_233 rfl rfl ?_
                  refine j_imul (pc := 234) dX12_readAt_234 ?_
                  refine j_iload_n (pc := 235) dX12_readAt_235 rfl rfl ?_
                  refine j_bipush (pc := 236) dX12_readAt_236 rfl ?_
                  refine j_icmpR_ne (pc := 238) (tgt := 245) ⟨by omega, by omega⟩ ⟨by omega, by omega⟩ dX12_readAt_238 rfl (fun h117 => ?_) (fun h117 => ?_)
                  · refine j_iconst (pc := 245) dX12_readAt_245 ?_
                    refine j_iadd (pc := 246) dX12_readAt_246 ?_
                    refine j_iconst (pc := 247) dX12_readAt_247 ?_
                    refine j_iast (pc := 248) dX12_readAt_248 (a_94 hM) (by omega) (by omega) (by decide) (j_nm (fun σ118 (eσ118 : σ118 = tw_up σ109 94 (((5 * h) + 3).toNat) 1) => ?_))
                    have hIσ118 : tw_I σ118 := tw_I_up hIσ109 eσ118 (show (-2147483648 : Int) ≤ 1 ∧ 1 ≤ 2147483647 from by decide)
                    have hFσ118 : tw_F (fun c j => (c = 88 ∧ (j = 10 ∨ j = 13 ∨ j = 14 ∨ j = 15 ∨ j = 16 ∨ j = 17 ∨ j = 18)) ∨ c = 94 ∨ c = 96) σ σ118 := tw_F_up hFσ109 eσ118 (show (94 = 88 ∧ (((5 * h) + 3).toNat = 10 ∨ ((5 * h) + 3).toNat = 13 ∨ ((5 * h) + 3).toNat = 14 ∨ ((5 * h) + 3).toNat = 15 ∨ ((5 * h) + 3).toNat = 16 ∨ ((5 * h) + 3).toNat = 17 ∨ ((5 * h) + 3).toNat = 18)) ∨ 94 = 94 ∨ 94 = 96 from (Or.inr (Or.inl rfl)))
                    have d2 : aM σ118 = wr (ci 303 (5 * h)) 1 (aM σ109) := by rw [show ci 303 (5 * h) = 300 + (5 * h + 3).toNat from by unfold ci; omega]; exact aM_wr eσ118 (Or.inr (Or.inr (Or.inr (Or.inr (Or.inl ⟨rfl, by omega, by omega⟩)))))
                    have d4 := withM_2 (f := fM σ) (h := h) (w := r8 - 20) (by omega) d1 d2
                    have nx : (it wstopM (wstepM (fM σ) h) wmes (aM σ118, z107)).1 = footM (fM σ) (aM σ) := by rw [t2, ← wstepM_yes (f := fM σ) (h := h) (t := d) w3 (by omega) e2 d4, ← it_s (wstepM_go hq1) hs]; exact i3
                    have y119 : σ118 88 13 = σ109 88 13 := (tw_ne1 eσ118 (by (first | decide | omega)))
                    have y120 : σ118 88 17 = σ109 88 17 := (tw_ne1 eσ118 (by (first | decide | omega)))
                    have y121 : σ118 88 15 = σ109 88 15 := (tw_ne1 eσ118 (by (first | decide | omega)))
                    have y1 : σ118 88 17 = σ109 88 17 := by first | rfl | exact tw_ne1 eσ118 (by (first | decide | omega))
                    have y2 : σ118 88 15 = σ109 88 15 := by first | rfl | exact tw_ne1 eσ118 (by (first | decide | omega))
                    have y3 : σ118 88 13 = σ109 88 13 := by first | rfl | exact tw_ne1 eσ118 (by (first | decide | omega))
                    have y4 : (0 : Int) ≤ σ118 88 13 ∧ σ118 88 13 ≤ 400 := hIσ118 88 13
                    have lt9 := mMu_lt (f := τ 88 17) (s := τ 88 15) (p := τ 88 13) (f2 := σ118 88 17) (s2 := σ118 88 15) (p2 := σ118 88 13) (by omega) (by omega) (by omega) (by omega) (by omega)
                    refine j_goto (pc := 249) (tgt := 99) dX12_readAt_249 rfl ?_
                    refine j_ls (ls' := [(0, vR 88), (1, vI h), (2, vI z107)]) [0, 1, 2] rfl ?_
                    have y122 : σ118 88 17 = σ109 88 17 := (tw_ne1 eσ118 (by (first | decide | omega)))
                    have f123 : (0 : Int) ≤ σ109 88 17 ∧ σ109 88 17 ≤ 5 := hIσ109 88 17
                    have y124 : σ118 88 13 = σ109 88 13 := (tw_ne1 eσ118 (by (first | decide | omega)))
                    have f125 : (0 : Int) ≤ σ109 88 13 ∧ σ109 88 13 ≤ 400 := hIσ109 88 13
                    have y126 : σ118 88 17 = σ109 88 17 := (tw_ne1 eσ118 (by (first | decide | omega)))
                    have y127 : σ118 88 15 = σ109 88 15 := (tw_ne1 eσ118 (by (first | decide | omega)))
                    have f128 : (-2147483648 : Int) ≤ σ109 88 15 ∧ σ109 88 15 ≤ 2147483647 := hIσ109 88 15
                    have y129 : σ118 88 13 = σ109 88 13 := (tw_ne1 eσ118 (by (first | decide | omega)))
                    exact ih h ⟨by omega, by omega⟩ z107 ⟨by omega, by omega⟩ σ118 hIσ118 hFσ118 (show DQ σ118 from (by first | exact DQ_put (DQ_F i0 (fun j => (((hGσ109 93 j (show ¬ ((93 = 88 ∧ (j = 13 ∨ j = 14 ∨ j = 15 ∨ j = 16 ∨ j = 17 ∨ j = 18))) from fun h => absurd h.1 (by decide)))).trans (hGσ101 93 j (show ¬ ((93 = 88 ∧ (j = 17 ∨ j = 18))) from fun h => absurd h.1 (by decide)))).trans (hGσ86 93 j (show ¬ ((93 = 88 ∧ (j = 17 ∨ j = 18))) from fun h => absurd h.1 (by decide)))) (fun j => (((hGσ109 94 j (show ¬ ((94 = 88 ∧ (j = 13 ∨ j = 14 ∨ j = 15 ∨ j = 16 ∨ j = 17 ∨ j = 18))) from fun h => absurd h.1 (by decide)))).trans (hGσ101 94 j (show ¬ ((94 = 88 ∧ (j = 17 ∨ j = 18))) from fun h => absurd h.1 (by decide)))).trans (hGσ86 94 j (show ¬ ((94 = 88 ∧ (j = 17 ∨ j = 18))) from fun h => absurd h.1 (by decide)))) (by omega)) eσ118 (by clear q7_0 q7_1 q87_0 q87_1 q87_2 q102_0 q102_1 q102_2 q110_0 q110_1 q110_2 q110_3; first | exact Or.inr (w92 (by omega) (by omega) (by omega)) | (rcases q110_0 with q | q; exact Or.inl (by omega); (first | exact Or.inr (w92 (by omega) (by omega) (by omega)) | exact Or.inr (w92 (h := 0) (k := 0) (by omega) (by omega) (by omega))))) | exact DQ_F i0 (fun j => ((((tw_ne1 eσ118 (by (first | decide | omega)))).trans (hGσ109 93 j (show ¬ ((93 = 88 ∧ (j = 13 ∨ j = 14 ∨ j = 15 ∨ j = 16 ∨ j = 17 ∨ j = 18))) from fun h => absurd h.1 (by decide)))).trans (hGσ101 93 j (show ¬ ((93 = 88 ∧ (j = 17 ∨ j = 18))) from fun h => absurd h.1 (by decide)))).trans (hGσ86 93 j (show ¬ ((93 = 88 ∧ (j = 17 ∨ j = 18))) from fun h => absurd h.1 (by decide)))) (fun j => rfl) (by omega))) (show ¬ σ118 88 17 = 0 ∨ σ 88 17 = 0 from (by clear q7_0 q7_1 q87_1 q87_2 q102_1 q102_2 q110_1 q110_2 q110_3; omega)) (show σ 88 13 ≤ σ118 88 13 from (by clear q7_0 q7_1 q87_0 q87_1 q87_2 q102_0 q102_1 q102_2 q110_0 q110_2 q110_3; omega)) (show (it wstopM (wstepM (fM σ) h) wmes (aM σ118, z107)).1 = footM (fM σ) (aM σ) from nx) (show (mMu (σ118 88 17) (σ118 88 15) (σ118 88 13)).toNat < N_ from by omega)
                  · refine j_iconst (pc := 241) dX12_readAt_241 ?_
                    refine j_goto (pc := 242) (tgt := 246) dX12_readAt_242 rfl ?_
                    refine j_iadd (pc := 246) dX12_readAt_246 ?_
                    refine j_iconst (pc := 247) dX12_readAt_247 ?_
                    refine j_iast (pc := 248) dX12_readAt_248 (a_94 hM) (by omega) (by omega) (by decide) (j_nm (fun σ130 (eσ130 : σ130 = tw_up σ109 94 (((5 * h) + 2).toNat) 1) => ?_))
                    have hIσ130 : tw_I σ130 := tw_I_up hIσ109 eσ130 (show (-2147483648 : Int) ≤ 1 ∧ 1 ≤ 2147483647 from by decide)
                    have hFσ130 : tw_F (fun c j => (c = 88 ∧ (j = 10 ∨ j = 13 ∨ j = 14 ∨ j = 15 ∨ j = 16 ∨ j = 17 ∨ j = 18)) ∨ c = 94 ∨ c = 96) σ σ130 := tw_F_up hFσ109 eσ130 (show (94 = 88 ∧ (((5 * h) + 2).toNat = 10 ∨ ((5 * h) + 2).toNat = 13 ∨ ((5 * h) + 2).toNat = 14 ∨ ((5 * h) + 2).toNat = 15 ∨ ((5 * h) + 2).toNat = 16 ∨ ((5 * h) + 2).toNat = 17 ∨ ((5 * h) + 2).toNat = 18)) ∨ 94 = 94 ∨ 94 = 96 from (Or.inr (Or.inl rfl)))
                    have d2 : aM σ130 = wr (ci 302 (5 * h)) 1 (aM σ109) := by rw [show ci 302 (5 * h) = 300 + (5 * h + 2).toNat from by unfold ci; omega]; exact aM_wr eσ130 (Or.inr (Or.inr (Or.inr (Or.inr (Or.inl ⟨rfl, by omega, by omega⟩)))))
                    have d4 := withM_1 (f := fM σ) (h := h) (w := r8 - 20) (by omega) d1 d2
                    have nx : (it wstopM (wstepM (fM σ) h) wmes (aM σ130, z107)).1 = footM (fM σ) (aM σ) := by rw [t2, ← wstepM_yes (f := fM σ) (h := h) (t := d) w3 (by omega) e2 d4, ← it_s (wstepM_go hq1) hs]; exact i3
                    have y131 : σ130 88 13 = σ109 88 13 := (tw_ne1 eσ130 (by (first | decide | omega)))
                    have y132 : σ130 88 17 = σ109 88 17 := (tw_ne1 eσ130 (by (first | decide | omega)))
                    have y133 : σ130 88 15 = σ109 88 15 := (tw_ne1 eσ130 (by (first | decide | omega)))
                    have y1 : σ130 88 17 = σ109 88 17 := by first | rfl | exact tw_ne1 eσ130 (by (first | decide | omega))
                    have y2 : σ130 88 15 = σ109 88 15 := by first | rfl | exact tw_ne1 eσ130 (by (first | decide | omega))
                    have y3 : σ130 88 13 = σ109 88 13 := by first | rfl | exact tw_ne1 eσ130 (by (first | decide | omega))
                    have y4 : (0 : Int) ≤ σ130 88 13 ∧ σ130 88 13 ≤ 400 := hIσ130 88 13
                    have lt9 := mMu_lt (f := τ 88 17) (s := τ 88 15) (p := τ 88 13) (f2 := σ130 88 17) (s2 := σ130 88 15) (p2 := σ130 88 13) (by omega) (by omega) (by omega) (by omega) (by omega)
                    refine j_goto (pc := 249) (tgt := 99) dX12_readAt_249 rfl ?_
                    refine j_ls (ls' := [(0, vR 88), (1, vI h), (2, vI z107)]) [0, 1, 2] rfl ?_
                    have y134 : σ130 88 17 = σ109 88 17 := (tw_ne1 eσ130 (by (first | decide | omega)))
                    have f135 : (0 : Int) ≤ σ109 88 17 ∧ σ109 88 17 ≤ 5 := hIσ109 88 17
                    have y136 : σ130 88 13 = σ109 88 13 := (tw_ne1 eσ130 (by (first | decide | omega)))
                    have f137 : (0 : Int) ≤ σ109 88 13 ∧ σ109 88 13 ≤ 400 := hIσ109 88 13
                    have y138 : σ130 88 17 = σ109 88 17 := (tw_ne1 eσ130 (by (first | decide | omega)))
                    have y139 : σ130 88 15 = σ109 88 15 := (tw_ne1 eσ130 (by (first | decide | omega)))
                    have f140 : (-2147483648 : Int) ≤ σ109 88 15 ∧ σ109 88 15 ≤ 2147483647 := hIσ109 88 15
                    have y141 : σ130 88 13 = σ109 88 13 := (tw_ne1 eσ130 (by (first | decide | omega)))
                    exact ih h ⟨by omega, by omega⟩ z107 ⟨by omega, by omega⟩ σ130 hIσ130 hFσ130 (show DQ σ130 from (by first | exact DQ_put (DQ_F i0 (fun j => (((hGσ109 93 j (show ¬ ((93 = 88 ∧ (j = 13 ∨ j = 14 ∨ j = 15 ∨ j = 16 ∨ j = 17 ∨ j = 18))) from fun h => absurd h.1 (by decide)))).trans (hGσ101 93 j (show ¬ ((93 = 88 ∧ (j = 17 ∨ j = 18))) from fun h => absurd h.1 (by decide)))).trans (hGσ86 93 j (show ¬ ((93 = 88 ∧ (j = 17 ∨ j = 18))) from fun h => absurd h.1 (by decide)))) (fun j => (((hGσ109 94 j (show ¬ ((94 = 88 ∧ (j = 13 ∨ j = 14 ∨ j = 15 ∨ j = 16 ∨ j = 17 ∨ j = 18))) from fun h => absurd h.1 (by decide)))).trans (hGσ101 94 j (show ¬ ((94 = 88 ∧ (j = 17 ∨ j = 18))) from fun h => absurd h.1 (by decide)))).trans (hGσ86 94 j (show ¬ ((94 = 88 ∧ (j = 17 ∨ j = 18))) from fun h => absurd h.1 (by decide)))) (by omega)) eσ130 (by clear q7_0 q7_1 q87_0 q87_1 q87_2 q102_0 q102_1 q102_2 q110_0 q110_1 q110_2 q110_3; first | exact Or.inr (w92 (by omega) (by omega) (by omega)) | (rcases q110_0 with q | q; exact Or.inl (by omega); (first | exact Or.inr (w92 (by omega) (by omega) (by omega)) | exact Or.inr (w92 (h := 0) (k := 0) (by omega) (by omega) (by omega))))) | exact DQ_F i0 (fun j => ((((tw_ne1 eσ130 (by (first | decide | omega)))).trans (hGσ109 93 j (show ¬ ((93 = 88 ∧ (j = 13 ∨ j = 14 ∨ j = 15 ∨ j = 16 ∨ j = 17 ∨ j = 18))) from fun h => absurd h.1 (by decide)))).trans (hGσ101 93 j (show ¬ ((93 = 88 ∧ (j = 17 ∨ j = 18))) from fun h => absurd h.1 (by decide)))).trans (hGσ86 93 j (show ¬ ((93 = 88 ∧ (j = 17 ∨ j = 18))) from fun h => absurd h.1 (by decide)))) (fun j => rfl) (by omega))) (show ¬ σ130 88 17 = 0 ∨ σ 88 17 = 0 from (by clear q7_0 q7_1 q87_1 q87_2 q102_1 q102_2 q110_1 q110_2 q110_3; omega)) (show σ 88 13 ≤ σ130 88 13 from (by clear q7_0 q7_1 q87_0 q87_1 q87_2 q102_0 q102_1 q102_2 q110_0 q110_2 q110_3; omega)) (show (it wstopM (wstepM (fM σ) h) wmes (aM σ130, z107)).1 = footM (fM σ) (aM σ) from nx) (show (mMu (σ130 88 17) (σ130 88 15) (σ130 88 13)).toNat < N_ from by omega)
                · refine j_aload_n (pc := 208) dX12_readAt_208 rfl rfl ?_
                  refine j_getR (pc := 209) (r := 94) fl_X12_26 dX12_readAt_209 (a_88 hM) rfl ?_
                  refine j_iconst (pc := 212) dX12_readAt_212 ?_
                  refine j_iload_n (pc := 213) dX12_readAt_213 rfl rfl ?_
                  refine j_imul (pc := 214) dX12_readAt_214 ?_
                  refine j_iconst (pc := 215) dX12_readAt_215 ?_
                  refine j_iadd (pc := 216) dX12_readAt_216 ?_
                  refine j_aload_n (pc := 217) dX12_readAt_217 rfl rfl ?_
                  refine j_iconst (pc := 218) dX12_readAt_218 ?_
                  refine j_bipush (pc := 219) dX12_readAt_219 rfl ?_
                  have fz : fM σ109 = fM σ := fM_F (hFσ109 88 12 (show ¬ ((88 = 88 ∧ (12 = 10 ∨ 12 = 13 ∨ 12 = 14 ∨ 12 = 15 ∨ 12 = 16 ∨ 12 = 17 ∨ 12 = 18)) ∨ 88 = 94 ∨ 88 = 96) from by decide)) (fun j => hFσ109 98 j (show ¬ ((98 = 88 ∧ (j = 10 ∨ j = 13 ∨ j = 14 ∨ j = 15 ∨ j = 16 ∨ j = 17 ∨ j = 18)) ∨ 98 = 94 ∨ 98 = 96) from fun h => h.elim (fun h => absurd h.1 (by decide)) (fun h => h.elim (fun h => absurd h (by decide)) (fun h => absurd h (by decide)))))
                  refine j_callV (pc := 221) (As := [vI 0, vI 9]) (st := [vI ((5 * h) + 4), vR 94]) (c_X12_readNumber hM 0 (by (first | decide | exact ⟨by omega, by omega⟩)) 9 (by (first | decide | exact ⟨by omega, by omega⟩)) σ109 hIσ109) mv_X12_140 rfl rfl rfl (a_88 hM) dX12_readAt_221 ⟨Nat.le_of_ble_eq_true rfl, Nat.le_of_ble_eq_true rfl⟩ ⟨Nat.le_refl _, Nat.le_refl _⟩ rfl (Nat.le_of_ble_eq_true rfl) rfl (fun z142 σ143 hz142 => ?_)
                  obtain ⟨r145, rfl, hr145, hIσ143, hGσ143, q144_0, q144_1, q144_2, q144_3, q144_4⟩ := hz142
                  replace q144_0 : ¬ σ143 88 17 = 0 ∨ (σ109 88 17 = 0 ∧ (0 : Int) ≤ r145 ∧ r145 ≤ (9 : Int)) := q144_0
                  replace q144_1 : σ109 88 13 ≤ σ143 88 13 := q144_1
                  replace q144_2 : ¬ σ143 88 17 = 0 ∨ σ143 88 15 = 0 ∨ σ109 88 13 < σ143 88 13 := q144_2
                  replace q144_3 : aM σ143 = tok (fM σ109) (numS (0 : Int) (9 : Int) (aM σ109)) := q144_3
                  replace q144_4 : (aM σ143) 4 = 0 → r145 = (numS (0 : Int) (9 : Int) (aM σ109)) 3 := q144_4
                  have hFσ143 : tw_F (fun c j => (c = 88 ∧ (j = 10 ∨ j = 13 ∨ j = 14 ∨ j = 15 ∨ j = 16 ∨ j = 17 ∨ j = 18)) ∨ c = 94 ∨ c = 96) σ σ143 := tw_F_tr hFσ109 hGσ143 (fun c j q => (show (c = 88 ∧ (j = 10 ∨ j = 13 ∨ j = 14 ∨ j = 15 ∨ j = 16 ∨ j = 17 ∨ j = 18)) ∨ c = 94 ∨ c = 96 from by replace q : (c = 88 ∧ (j = 13 ∨ j = 14 ∨ j = 15 ∨ j = 16 ∨ j = 17 ∨ j = 18)) := q; exact (Or.inl ⟨q.1, (q.2.elim (fun z => (Or.inr (Or.inl z))) (fun z => (z.elim (fun z => (Or.inr (Or.inr (Or.inl z)))) (fun z => (z.elim (fun z => (Or.inr (Or.inr (Or.inr (Or.inl z))))) (fun z => (z.elim (fun z => (Or.inr (Or.inr (Or.inr (Or.inr (Or.inl z)))))) (fun z => (z.elim (fun z => (Or.inr (Or.inr (Or.inr (Or.inr (Or.inr (Or.inl z))))))) (fun z => (Or.inr (Or.inr (Or.inr (Or.inr (Or.inr (Or.inr z))))))))))))))))⟩)))
                  refine j_st (st' := [vI r145, vI ((5 * h) + 4), vR 94]) rfl ?_
                  have d2 := q144_3; rw [fz] at d2
                  have v2 := q144_4
                  refine j_iast (pc := 224) dX12_readAt_224 (a_94 hM) (by omega) (by omega) (by decide) (j_nm (fun σ146 (eσ146 : σ146 = tw_up σ143 94 (((5 * h) + 4).toNat) r145) => ?_))
                  have hIσ146 : tw_I σ146 := tw_I_up hIσ143 eσ146 (show (-2147483648 : Int) ≤ r145 ∧ r145 ≤ 2147483647 from ⟨by omega, by omega⟩)
                  have hFσ146 : tw_F (fun c j => (c = 88 ∧ (j = 10 ∨ j = 13 ∨ j = 14 ∨ j = 15 ∨ j = 16 ∨ j = 17 ∨ j = 18)) ∨ c = 94 ∨ c = 96) σ σ146 := tw_F_up hFσ143 eσ146 (show (94 = 88 ∧ (((5 * h) + 4).toNat = 10 ∨ ((5 * h) + 4).toNat = 13 ∨ ((5 * h) + 4).toNat = 14 ∨ ((5 * h) + 4).toNat = 15 ∨ ((5 * h) + 4).toNat = 16 ∨ ((5 * h) + 4).toNat = 17 ∨ ((5 * h) + 4).toNat = 18)) ∨ 94 = 94 ∨ 94 = 96 from (Or.inr (Or.inl rfl)))
                  have d3 : aM σ146 = wr (ci 304 (5 * h)) ((numS 0 9 (aM σ109)) 3) (aM σ143) := by rw [show ci 304 (5 * h) = 300 + (5 * h + 4).toNat from by unfold ci; omega]; exact (aM_wr eσ146 (Or.inr (Or.inr (Or.inr (Or.inr (Or.inl ⟨rfl, by omega, by omega⟩)))))).trans (wr_cg v2)
                  refine j_goto (pc := 225) (tgt := 249) dX12_readAt_225 rfl ?_
                  have d4 := withM_3 (f := fM σ) (h := h) (w := r8 - 20) (by omega) d1 d2 d3
                  have nx : (it wstopM (wstepM (fM σ) h) wmes (aM σ146, z107)).1 = footM (fM σ) (aM σ) := by rw [t2, ← wstepM_yes (f := fM σ) (h := h) (t := d) w3 (by omega) e2 d4, ← it_s (wstepM_go hq1) hs]; exact i3
                  have y147 : σ146 88 13 = σ143 88 13 := (tw_ne1 eσ146 (by (first | decide | omega)))
                  have y148 : σ146 88 17 = σ143 88 17 := (tw_ne1 eσ146 (by (first | decide | omega)))
                  have y149 : σ146 88 15 = σ143 88 15 := (tw_ne1 eσ146 (by (first | decide | omega)))
                  have y1 : σ146 88 17 = σ143 88 17 := by first | rfl | exact tw_ne1 eσ146 (by (first | decide | omega))
                  have y2 : σ146 88 15 = σ143 88 15 := by first | rfl | exact tw_ne1 eσ146 (by (first | decide | omega))
                  have y3 : σ146 88 13 = σ143 88 13 := by first | rfl | exact tw_ne1 eσ146 (by (first | decide | omega))
                  have y4 : (0 : Int) ≤ σ146 88 13 ∧ σ146 88 13 ≤ 400 := hIσ146 88 13
                  have lt9 := mMu_lt (f := τ 88 17) (s := τ 88 15) (p := τ 88 13) (f2 := σ146 88 17) (s2 := σ146 88 15) (p2 := σ146 88 13) (by omega) (by omega) (by omega) (by omega) (by omega)
                  refine j_goto (pc := 249) (tgt := 99) dX12_readAt_249 rfl ?_
                  refine j_ls (ls' := [(0, vR 88), (1, vI h), (2, vI z107)]) [0, 1, 2] rfl ?_
                  have y150 : σ146 88 17 = σ143 88 17 := (tw_ne1 eσ146 (by (first | decide | omega)))
                  have f151 : (0 : Int) ≤ σ143 88 17 ∧ σ143 88 17 ≤ 5 := hIσ143 88 17
                  have y152 : σ146 88 13 = σ143 88 13 := (tw_ne1 eσ146 (by (first | decide | omega)))
                  have f153 : (0 : Int) ≤ σ143 88 13 ∧ σ143 88 13 ≤ 400 := hIσ143 88 13
                  have y154 : σ146 88 17 = σ143 88 17 := (tw_ne1 eσ146 (by (first | decide | omega)))
                  have y155 : σ146 88 15 = σ143 88 15 := (tw_ne1 eσ146 (by (first | decide | omega)))
                  have f156 : (-2147483648 : Int) ≤ σ143 88 15 ∧ σ143 88 15 ≤ 2147483647 := hIσ143 88 15
                  have y157 : σ146 88 13 = σ143 88 13 := (tw_ne1 eσ146 (by (first | decide | omega)))
                  exact ih h ⟨by omega, by omega⟩ z107 ⟨by omega, by omega⟩ σ146 hIσ146 hFσ146 (show DQ σ146 from (by first | exact DQ_put (DQ_F i0 (fun j => ((((hGσ143 93 j (show ¬ ((93 = 88 ∧ (j = 13 ∨ j = 14 ∨ j = 15 ∨ j = 16 ∨ j = 17 ∨ j = 18))) from fun h => absurd h.1 (by decide)))).trans (hGσ109 93 j (show ¬ ((93 = 88 ∧ (j = 13 ∨ j = 14 ∨ j = 15 ∨ j = 16 ∨ j = 17 ∨ j = 18))) from fun h => absurd h.1 (by decide)))).trans (hGσ101 93 j (show ¬ ((93 = 88 ∧ (j = 17 ∨ j = 18))) from fun h => absurd h.1 (by decide)))).trans (hGσ86 93 j (show ¬ ((93 = 88 ∧ (j = 17 ∨ j = 18))) from fun h => absurd h.1 (by decide)))) (fun j => ((((hGσ143 94 j (show ¬ ((94 = 88 ∧ (j = 13 ∨ j = 14 ∨ j = 15 ∨ j = 16 ∨ j = 17 ∨ j = 18))) from fun h => absurd h.1 (by decide)))).trans (hGσ109 94 j (show ¬ ((94 = 88 ∧ (j = 13 ∨ j = 14 ∨ j = 15 ∨ j = 16 ∨ j = 17 ∨ j = 18))) from fun h => absurd h.1 (by decide)))).trans (hGσ101 94 j (show ¬ ((94 = 88 ∧ (j = 17 ∨ j = 18))) from fun h => absurd h.1 (by decide)))).trans (hGσ86 94 j (show ¬ ((94 = 88 ∧ (j = 17 ∨ j = 18))) from fun h => absurd h.1 (by decide)))) (by omega)) eσ146 (by clear q7_0 q7_1 q87_0 q87_1 q87_2 q102_0 q102_1 q102_2 q110_0 q110_1 q110_2 q110_3 q144_1 q144_2 q144_3 q144_4; first | exact Or.inr (w92 (by omega) (by omega) (by omega)) | (rcases q144_0 with q | q; exact Or.inl (by omega); (first | exact Or.inr (w92 (by omega) (by omega) (by omega)) | exact Or.inr (w92 (h := 0) (k := 0) (by omega) (by omega) (by omega))))) | exact DQ_F i0 (fun j => (((((tw_ne1 eσ146 (by (first | decide | omega)))).trans (hGσ143 93 j (show ¬ ((93 = 88 ∧ (j = 13 ∨ j = 14 ∨ j = 15 ∨ j = 16 ∨ j = 17 ∨ j = 18))) from fun h => absurd h.1 (by decide)))).trans (hGσ109 93 j (show ¬ ((93 = 88 ∧ (j = 13 ∨ j = 14 ∨ j = 15 ∨ j = 16 ∨ j = 17 ∨ j = 18))) from fun h => absurd h.1 (by decide)))).trans (hGσ101 93 j (show ¬ ((93 = 88 ∧ (j = 17 ∨ j = 18))) from fun h => absurd h.1 (by decide)))).trans (hGσ86 93 j (show ¬ ((93 = 88 ∧ (j = 17 ∨ j = 18))) from fun h => absurd h.1 (by decide)))) (fun j => rfl) (by omega))) (show ¬ σ146 88 17 = 0 ∨ σ 88 17 = 0 from (by clear q7_0 q7_1 q87_1 q87_2 q102_1 q102_2 q110_1 q110_2 q110_3 q144_1 q144_2 q144_3 q144_4; omega)) (show σ 88 13 ≤ σ146 88 13 from (by clear q7_0 q7_1 q87_0 q87_1 q87_2 q102_0 q102_1 q102_2 q110_0 q110_2 q110_3 q144_0 q144_2 q144_3 q144_4; omega)) (show (it wstopM (wstepM (fM σ) h) wmes (aM σ146, z107)).1 = footM (fM σ) (aM σ) from nx) (show (mMu (σ146 88 17) (σ146 88 15) (σ146 88 13)).toNat < N_ from by omega)
              · refine j_aload_n (pc := 182) dX12_readAt_182 rfl rfl ?_
                refine j_getR (pc := 183) (r := 94) fl_X12_26 dX12_readAt_183 (a_88 hM) rfl ?_
                refine j_iconst (pc := 186) dX12_readAt_186 ?_
                refine j_iload_n (pc := 187) dX12_readAt_187 rfl rfl ?_
                refine j_imul (pc := 188) dX12_readAt_188 ?_
                refine j_iconst (pc := 189) dX12_readAt_189 ?_
                refine j_iadd (pc := 190) dX12_readAt_190 ?_
                refine j_aload_n (pc := 191) dX12_readAt_191 rfl rfl ?_
                refine j_iconst (pc := 192) dX12_readAt_192 ?_
                refine j_bipush (pc := 193) dX12_readAt_193 rfl ?_
                have fz : fM σ109 = fM σ := fM_F (hFσ109 88 12 (show ¬ ((88 = 88 ∧ (12 = 10 ∨ 12 = 13 ∨ 12 = 14 ∨ 12 = 15 ∨ 12 = 16 ∨ 12 = 17 ∨ 12 = 18)) ∨ 88 = 94 ∨ 88 = 96) from by decide)) (fun j => hFσ109 98 j (show ¬ ((98 = 88 ∧ (j = 10 ∨ j = 13 ∨ j = 14 ∨ j = 15 ∨ j = 16 ∨ j = 17 ∨ j = 18)) ∨ 98 = 94 ∨ 98 = 96) from fun h => h.elim (fun h => absurd h.1 (by decide)) (fun h => h.elim (fun h => absurd h (by decide)) (fun h => absurd h (by decide)))))
                refine j_callV (pc := 195) (As := [vI 1, vI 10]) (st := [vI ((5 * h) + 1), vR 94]) (c_X12_readNumber hM 1 (by (first | decide | exact ⟨by omega, by omega⟩)) 10 (by (first | decide | exact ⟨by omega, by omega⟩)) σ109 hIσ109) mv_X12_140 rfl rfl rfl (a_88 hM) dX12_readAt_195 ⟨Nat.le_of_ble_eq_true rfl, Nat.le_of_ble_eq_true rfl⟩ ⟨Nat.le_refl _, Nat.le_refl _⟩ rfl (Nat.le_of_ble_eq_true rfl) rfl (fun z158 σ159 hz158 => ?_)
                obtain ⟨r161, rfl, hr161, hIσ159, hGσ159, q160_0, q160_1, q160_2, q160_3, q160_4⟩ := hz158
                replace q160_0 : ¬ σ159 88 17 = 0 ∨ (σ109 88 17 = 0 ∧ (1 : Int) ≤ r161 ∧ r161 ≤ (10 : Int)) := q160_0
                replace q160_1 : σ109 88 13 ≤ σ159 88 13 := q160_1
                replace q160_2 : ¬ σ159 88 17 = 0 ∨ σ159 88 15 = 0 ∨ σ109 88 13 < σ159 88 13 := q160_2
                replace q160_3 : aM σ159 = tok (fM σ109) (numS (1 : Int) (10 : Int) (aM σ109)) := q160_3
                replace q160_4 : (aM σ159) 4 = 0 → r161 = (numS (1 : Int) (10 : Int) (aM σ109)) 3 := q160_4
                have hFσ159 : tw_F (fun c j => (c = 88 ∧ (j = 10 ∨ j = 13 ∨ j = 14 ∨ j = 15 ∨ j = 16 ∨ j = 17 ∨ j = 18)) ∨ c = 94 ∨ c = 96) σ σ159 := tw_F_tr hFσ109 hGσ159 (fun c j q => (show (c = 88 ∧ (j = 10 ∨ j = 13 ∨ j = 14 ∨ j = 15 ∨ j = 16 ∨ j = 17 ∨ j = 18)) ∨ c = 94 ∨ c = 96 from by replace q : (c = 88 ∧ (j = 13 ∨ j = 14 ∨ j = 15 ∨ j = 16 ∨ j = 17 ∨ j = 18)) := q; exact (Or.inl ⟨q.1, (q.2.elim (fun z => (Or.inr (Or.inl z))) (fun z => (z.elim (fun z => (Or.inr (Or.inr (Or.inl z)))) (fun z => (z.elim (fun z => (Or.inr (Or.inr (Or.inr (Or.inl z))))) (fun z => (z.elim (fun z => (Or.inr (Or.inr (Or.inr (Or.inr (Or.inl z)))))) (fun z => (z.elim (fun z => (Or.inr (Or.inr (Or.inr (Or.inr (Or.inr (Or.inl z))))))) (fun z => (Or.inr (Or.inr (Or.inr (Or.inr (Or.inr (Or.inr z))))))))))))))))⟩)))
                refine j_st (st' := [vI r161, vI ((5 * h) + 1), vR 94]) rfl ?_
                have d2 := q160_3; rw [fz] at d2
                have v2 := q160_4
                refine j_iast (pc := 198) dX12_readAt_198 (a_94 hM) (by omega) (by omega) (by decide) (j_nm (fun σ162 (eσ162 : σ162 = tw_up σ159 94 (((5 * h) + 1).toNat) r161) => ?_))
                have hIσ162 : tw_I σ162 := tw_I_up hIσ159 eσ162 (show (-2147483648 : Int) ≤ r161 ∧ r161 ≤ 2147483647 from ⟨by omega, by omega⟩)
                have hFσ162 : tw_F (fun c j => (c = 88 ∧ (j = 10 ∨ j = 13 ∨ j = 14 ∨ j = 15 ∨ j = 16 ∨ j = 17 ∨ j = 18)) ∨ c = 94 ∨ c = 96) σ σ162 := tw_F_up hFσ159 eσ162 (show (94 = 88 ∧ (((5 * h) + 1).toNat = 10 ∨ ((5 * h) + 1).toNat = 13 ∨ ((5 * h) + 1).toNat = 14 ∨ ((5 * h) + 1).toNat = 15 ∨ ((5 * h) + 1).toNat = 16 ∨ ((5 * h) + 1).toNat = 17 ∨ ((5 * h) + 1).toNat = 18)) ∨ 94 = 94 ∨ 94 = 96 from (Or.inr (Or.inl rfl)))
                have d3 : aM σ162 = wr (ci 301 (5 * h)) ((numS 1 10 (aM σ109)) 3) (aM σ159) := by rw [show ci 301 (5 * h) = 300 + (5 * h + 1).toNat from by unfold ci; omega]; exact (aM_wr eσ162 (Or.inr (Or.inr (Or.inr (Or.inr (Or.inl ⟨rfl, by omega, by omega⟩)))))).trans (wr_cg v2)
                refine j_goto (pc := 199) (tgt := 249) dX12_readAt_199 rfl ?_
                have d4 := withM_0 (f := fM σ) (h := h) (w := r8 - 20) (by omega) d1 d2 d3
                have nx : (it wstopM (wstepM (fM σ) h) wmes (aM σ162, z107)).1 = footM (fM σ) (aM σ) := by rw [t2, ← wstepM_yes (f := fM σ) (h := h) (t := d) w3 (by omega) e2 d4, ← it_s (wstepM_go hq1) hs]; exact i3
                have y163 : σ162 88 13 = σ159 88 13 := (tw_ne1 eσ162 (by (first | decide | omega)))
                have y164 : σ162 88 17 = σ159 88 17 := (tw_ne1 eσ162 (by (first | decide | omega)))
                have y165 : σ162 88 15 = σ159 88 15 := (tw_ne1 eσ162 (by (first | decide | omega)))
                have y1 : σ162 88 17 = σ159 88 17 := by first | rfl | exact tw_ne1 eσ162 (by (first | decide | omega))
                have y2 : σ162 88 15 = σ159 88 15 := by first | rfl | exact tw_ne1 eσ162 (by (first | decide | omega))
                have y3 : σ162 88 13 = σ159 88 13 := by first | rfl | exact tw_ne1 eσ162 (by (first | decide | omega))
                have y4 : (0 : Int) ≤ σ162 88 13 ∧ σ162 88 13 ≤ 400 := hIσ162 88 13
                have lt9 := mMu_lt (f := τ 88 17) (s := τ 88 15) (p := τ 88 13) (f2 := σ162 88 17) (s2 := σ162 88 15) (p2 := σ162 88 13) (by omega) (by omega) (by omega) (by omega) (by omega)
                refine j_goto (pc := 249) (tgt := 99) dX12_readAt_249 rfl ?_
                refine j_ls (ls' := [(0, vR 88), (1, vI h), (2, vI z107)]) [0, 1, 2] rfl ?_
                have y166 : σ162 88 17 = σ159 88 17 := (tw_ne1 eσ162 (by (first | decide | omega)))
                have f167 : (0 : Int) ≤ σ159 88 17 ∧ σ159 88 17 ≤ 5 := hIσ159 88 17
                have y168 : σ162 88 13 = σ159 88 13 := (tw_ne1 eσ162 (by (first | decide | omega)))
                have f169 : (0 : Int) ≤ σ159 88 13 ∧ σ159 88 13 ≤ 400 := hIσ159 88 13
                have y170 : σ162 88 17 = σ159 88 17 := (tw_ne1 eσ162 (by (first | decide | omega)))
                have y171 : σ162 88 15 = σ159 88 15 := (tw_ne1 eσ162 (by (first | decide | omega)))
                have f172 : (-2147483648 : Int) ≤ σ159 88 15 ∧ σ159 88 15 ≤ 2147483647 := hIσ159 88 15
                have y173 : σ162 88 13 = σ159 88 13 := (tw_ne1 eσ162 (by (first | decide | omega)))
                exact ih h ⟨by omega, by omega⟩ z107 ⟨by omega, by omega⟩ σ162 hIσ162 hFσ162 (show DQ σ162 from (by first | exact DQ_put (DQ_F i0 (fun j => ((((hGσ159 93 j (show ¬ ((93 = 88 ∧ (j = 13 ∨ j = 14 ∨ j = 15 ∨ j = 16 ∨ j = 17 ∨ j = 18))) from fun h => absurd h.1 (by decide)))).trans (hGσ109 93 j (show ¬ ((93 = 88 ∧ (j = 13 ∨ j = 14 ∨ j = 15 ∨ j = 16 ∨ j = 17 ∨ j = 18))) from fun h => absurd h.1 (by decide)))).trans (hGσ101 93 j (show ¬ ((93 = 88 ∧ (j = 17 ∨ j = 18))) from fun h => absurd h.1 (by decide)))).trans (hGσ86 93 j (show ¬ ((93 = 88 ∧ (j = 17 ∨ j = 18))) from fun h => absurd h.1 (by decide)))) (fun j => ((((hGσ159 94 j (show ¬ ((94 = 88 ∧ (j = 13 ∨ j = 14 ∨ j = 15 ∨ j = 16 ∨ j = 17 ∨ j = 18))) from fun h => absurd h.1 (by decide)))).trans (hGσ109 94 j (show ¬ ((94 = 88 ∧ (j = 13 ∨ j = 14 ∨ j = 15 ∨ j = 16 ∨ j = 17 ∨ j = 18))) from fun h => absurd h.1 (by decide)))).trans (hGσ101 94 j (show ¬ ((94 = 88 ∧ (j = 17 ∨ j = 18))) from fun h => absurd h.1 (by decide)))).trans (hGσ86 94 j (show ¬ ((94 = 88 ∧ (j = 17 ∨ j = 18))) from fun h => absurd h.1 (by decide)))) (by omega)) eσ162 (by clear q7_0 q7_1 q87_0 q87_1 q87_2 q102_0 q102_1 q102_2 q110_0 q110_1 q110_2 q110_3 q160_1 q160_2 q160_3 q160_4; first | exact Or.inr (w92 (by omega) (by omega) (by omega)) | (rcases q160_0 with q | q; exact Or.inl (by omega); (first | exact Or.inr (w92 (by omega) (by omega) (by omega)) | exact Or.inr (w92 (h := 0) (k := 0) (by omega) (by omega) (by omega))))) | exact DQ_F i0 (fun j => (((((tw_ne1 eσ162 (by (first | decide | omega)))).trans (hGσ159 93 j (show ¬ ((93 = 88 ∧ (j = 13 ∨ j = 14 ∨ j = 15 ∨ j = 16 ∨ j = 17 ∨ j = 18))) from fun h => absurd h.1 (by decide)))).trans (hGσ109 93 j (show ¬ ((93 = 88 ∧ (j = 13 ∨ j = 14 ∨ j = 15 ∨ j = 16 ∨ j = 17 ∨ j = 18))) from fun h => absurd h.1 (by decide)))).trans (hGσ101 93 j (show ¬ ((93 = 88 ∧ (j = 17 ∨ j = 18))) from fun h => absurd h.1 (by decide)))).trans (hGσ86 93 j (show ¬ ((93 = 88 ∧ (j = 17 ∨ j = 18))) from fun h => absurd h.1 (by decide)))) (fun j => rfl) (by omega))) (show ¬ σ162 88 17 = 0 ∨ σ 88 17 = 0 from (by clear q7_0 q7_1 q87_1 q87_2 q102_1 q102_2 q110_1 q110_2 q110_3 q160_1 q160_2 q160_3 q160_4; omega)) (show σ 88 13 ≤ σ162 88 13 from (by clear q7_0 q7_1 q87_0 q87_1 q87_2 q102_0 q102_1 q102_2 q110_0 q110_2 q110_3 q160_0 q160_2 q160_3 q160_4; omega)) (show (it wstopM (wstepM (fM σ) h) wmes (aM σ162, z107)).1 = footM (fM σ) (aM σ) from nx) (show (mMu (σ162 88 17) (σ162 88 15) (σ162 88 13)).toNat < N_ from by omega)
            · refine j_iconst (pc := 154) dX12_readAt_154 ?_
              refine j_goto (pc := 155) (tgt := 159) dX12_readAt_155 rfl ?_
              refine j_iconst (pc := 159) dX12_readAt_159 ?_
              refine j_callV (pc := 160) (As := [vI 1, vI 4]) (st := []) (c_X12_needs hM 1 (by (first | decide | exact ⟨by omega, by omega⟩)) 4 (by (first | decide | exact ⟨by omega, by omega⟩)) σ86 hIσ86) mv_X12_129 rfl rfl rfl (a_88 hM) dX12_readAt_160 ⟨Nat.le_of_ble_eq_true rfl, Nat.le_of_ble_eq_true rfl⟩ ⟨Nat.le_refl _, Nat.le_refl _⟩ rfl (Nat.le_of_ble_eq_true rfl) rfl (fun z174 σ175 hz174 => ?_)
              obtain ⟨rfl, hIσ175, hGσ175, q176_0, q176_1, q176_2⟩ := hz174
              replace q176_0 : (¬ (1 : Int) = 0 ∧ σ175 88 17 = σ86 88 17) ∨ ((1 : Int) = 0 ∧ σ86 88 17 = 0 ∧ σ175 88 17 = (4 : Int)) ∨ ((1 : Int) = 0 ∧ ¬ σ86 88 17 = 0 ∧ σ175 88 17 = σ86 88 17) := q176_0
              replace q176_1 : (¬ (1 : Int) = 0 ∧ σ175 88 17 = σ86 88 17 ∧ σ175 88 18 = σ86 88 18) ∨ ((1 : Int) = 0 ∧ σ86 88 17 = 0 ∧ σ175 88 17 = (4 : Int) ∧ σ175 88 18 = σ86 88 14) ∨ ((1 : Int) = 0 ∧ ¬ σ86 88 17 = 0 ∧ σ175 88 17 = σ86 88 17 ∧ σ175 88 18 = σ86 88 18) := q176_1
              have y178 : σ86 88 14 = τ 88 14 := (hGσ86 88 14 (show ¬ ((88 = 88 ∧ (14 = 17 ∨ 14 = 18))) from by decide))
              have f179 : (0 : Int) ≤ τ 88 14 ∧ τ 88 14 ≤ 400 := hIτ 88 14
              replace q176_2 : aM σ175 = need (decide (¬ (1 : Int) = 0)) (4 : Int) (aM σ86) := q176_2
              have hFσ175 : tw_F (fun c j => (c = 88 ∧ (j = 10 ∨ j = 13 ∨ j = 14 ∨ j = 15 ∨ j = 16 ∨ j = 17 ∨ j = 18)) ∨ c = 94 ∨ c = 96) σ σ175 := tw_F_tr hFσ86 hGσ175 (fun c j q => (show (c = 88 ∧ (j = 10 ∨ j = 13 ∨ j = 14 ∨ j = 15 ∨ j = 16 ∨ j = 17 ∨ j = 18)) ∨ c = 94 ∨ c = 96 from by replace q : (c = 88 ∧ (j = 17 ∨ j = 18)) := q; exact (Or.inl ⟨q.1, (q.2.elim (fun z => (Or.inr (Or.inr (Or.inr (Or.inr (Or.inr (Or.inl z))))))) (fun z => (Or.inr (Or.inr (Or.inr (Or.inr (Or.inr (Or.inr z))))))))⟩)))
              refine j_st (st' := []) rfl ?_
              have e2 : aM σ175 = need (decide (tw_and (tw_shr d (r8 - 20)) 1 = 0)) 4 (aM τ) := by (have q := q176_2); rw [e1] at q; exact q.trans (need_cg (fun _ => by rw [← b2]; first | exact (decide_eq_true (by omega)).trans (decide_eq_true (by omega)).symm | exact (decide_eq_false (by omega)).trans (decide_eq_false (by omega)).symm))
              refine j_iload_n (pc := 163) dX12_readAt_163 rfl rfl ?_
              refine j_iconst (pc := 164) dX12_readAt_164 ?_
              refine j_iload_n (pc := 165) dX12_readAt_165 rfl rfl ?_
              refine j_bipush (pc := 166) dX12_readAt_166 rfl ?_
              refine j_isub (pc := 168) dX12_readAt_168 ?_
              refine j_ishl (pc := 169) dX12_readAt_169 (fun z180 ez180 => ?_)
              have hz180 : (-2147483648 : Int) ≤ z180 ∧ z180 ≤ 2147483647 := by rw [ez180]; exact shl_in _ _
              have t1 := ez180
              refine j_ior (pc := 170) dX12_readAt_170 (fun z181 ez181 => ?_)
              have hz181 : (-2147483648 : Int) ≤ z181 ∧ z181 ≤ 2147483647 := by rw [ez181]; exact or_in _ _
              have t2 := ez181; rw [t1] at t2
              refine j_istore_n (pc := 171) (i := 2) (ls' := [(0, vR 88), (1, vI h), (2, vI z181), (3, vI r8)]) [1, 2, 0, 3] dX12_readAt_171 rfl (Nat.le_of_ble_eq_true rfl) rfl rfl ?_
              refine j_aload_n (pc := 172) dX12_readAt_172 rfl rfl ?_
              have fz : fM σ175 = fM σ := fM_F (hFσ175 88 12 (show ¬ ((88 = 88 ∧ (12 = 10 ∨ 12 = 13 ∨ 12 = 14 ∨ 12 = 15 ∨ 12 = 16 ∨ 12 = 17 ∨ 12 = 18)) ∨ 88 = 94 ∨ 88 = 96) from by decide)) (fun j => hFσ175 98 j (show ¬ ((98 = 88 ∧ (j = 10 ∨ j = 13 ∨ j = 14 ∨ j = 15 ∨ j = 16 ∨ j = 17 ∨ j = 18)) ∨ 98 = 94 ∨ 98 = 96) from fun h => h.elim (fun h => absurd h.1 (by decide)) (fun h => h.elim (fun h => absurd h (by decide)) (fun h => absurd h (by decide)))))
              refine j_callV (pc := 173) (As := []) (st := []) (c_X12_next hM σ175 hIσ175) mv_X12_137 rfl rfl rfl (a_88 hM) dX12_readAt_173 ⟨Nat.le_of_ble_eq_true rfl, Nat.le_of_ble_eq_true rfl⟩ ⟨Nat.le_refl _, Nat.le_refl _⟩ rfl (Nat.le_of_ble_eq_true rfl) rfl (fun z182 σ183 hz182 => ?_)
              obtain ⟨rfl, hIσ183, hGσ183, q184_0, q184_1, q184_2, q184_3⟩ := hz182
              replace q184_0 : ¬ σ183 88 17 = 0 ∨ σ175 88 17 = 0 := q184_0
              replace q184_1 : σ175 88 13 ≤ σ183 88 13 := q184_1
              have y186 : σ175 88 13 = τ 88 13 := ((hGσ175 88 13 (show ¬ ((88 = 88 ∧ (13 = 17 ∨ 13 = 18))) from by decide))).trans (hGσ86 88 13 (show ¬ ((88 = 88 ∧ (13 = 17 ∨ 13 = 18))) from by decide))
              have f187 : (0 : Int) ≤ τ 88 13 ∧ τ 88 13 ≤ 400 := hIτ 88 13
              replace q184_2 : ¬ σ183 88 17 = 0 ∨ σ183 88 15 = 0 ∨ σ175 88 13 < σ183 88 13 := q184_2
              have y188 : σ175 88 13 = τ 88 13 := ((hGσ175 88 13 (show ¬ ((88 = 88 ∧ (13 = 17 ∨ 13 = 18))) from by decide))).trans (hGσ86 88 13 (show ¬ ((88 = 88 ∧ (13 = 17 ∨ 13 = 18))) from by decide))
              replace q184_3 : aM σ183 = tok (fM σ175) (aM σ175) := q184_3
              have hFσ183 : tw_F (fun c j => (c = 88 ∧ (j = 10 ∨ j = 13 ∨ j = 14 ∨ j = 15 ∨ j = 16 ∨ j = 17 ∨ j = 18)) ∨ c = 94 ∨ c = 96) σ σ183 := tw_F_tr hFσ175 hGσ183 (fun c j q => (show (c = 88 ∧ (j = 10 ∨ j = 13 ∨ j = 14 ∨ j = 15 ∨ j = 16 ∨ j = 17 ∨ j = 18)) ∨ c = 94 ∨ c = 96 from by replace q : (c = 88 ∧ (j = 13 ∨ j = 14 ∨ j = 15 ∨ j = 16 ∨ j = 17 ∨ j = 18)) := q; exact (Or.inl ⟨q.1, (q.2.elim (fun z => (Or.inr (Or.inl z))) (fun z => (z.elim (fun z => (Or.inr (Or.inr (Or.inl z)))) (fun z => (z.elim (fun z => (Or.inr (Or.inr (Or.inr (Or.inl z))))) (fun z => (z.elim (fun z => (Or.inr (Or.inr (Or.inr (Or.inr (Or.inl z)))))) (fun z => (z.elim (fun z => (Or.inr (Or.inr (Or.inr (Or.inr (Or.inr (Or.inl z))))))) (fun z => (Or.inr (Or.inr (Or.inr (Or.inr (Or.inr (Or.inr z))))))))))))))))⟩)))
              refine j_st (st' := []) rfl ?_
              have d1 := q184_3; rw [fz] at d1
              refine j_iload_n (pc := 176) dX12_readAt_176 rfl rfl ?_
              refine j_bipush (pc := 177) dX12_readAt_177 rfl ?_
              refine j_icmpR_ne (pc := 179) (tgt := 202) ⟨by omega, by omega⟩ ⟨by omega, by omega⟩ dX12_readAt_179 rfl (fun h189 => ?_) (fun h189 => ?_)
              · refine j_iload_n (pc := 202) dX12_readAt_202 rfl rfl ?_
                refine j_bipush (pc := 203) dX12_readAt_203 rfl ?_
                refine j_icmpR_ne (pc := 205) (tgt := 228) ⟨by omega, by omega⟩ ⟨by omega, by omega⟩ dX12_readAt_205 rfl (fun h190 => ?_) (fun h190 => ?_)
                · refine j_aload_n (pc := 228) dX12_readAt_228 rfl rfl ?_
                  refine j_getR (pc := 229) (r := 94) fl_X12_26 dX12_readAt_229 (a_88 hM) rfl ?_
                  refine j_iconst (pc := 232) dX12_readAt_232 ?_
                  refine j_iload_n (pc := 233) dX12_readAt_233 rfl rfl ?_
                  refine j_imul (pc := 234) dX12_readAt_234 ?_
                  refine j_iload_n (pc := 235) dX12_readAt_235 rfl rfl ?_
                  refine j_bipush (pc := 236) dX12_readAt_236 rfl ?_
                  refine j_icmpR_ne (pc := 238) (tgt := 245) ⟨by omega, by omega⟩ ⟨by omega, by omega⟩ dX12_readAt_238 rfl (fun h191 => ?_) (fun h191 => ?_)
                  · refine j_iconst (pc := 245) dX12_readAt_245 ?_
                    refine j_iadd (pc := 246) dX12_readAt_246 ?_
                    refine j_iconst (pc := 247) dX12_readAt_247 ?_
                    refine j_iast (pc := 248) dX12_readAt_248 (a_94 hM) (by omega) (by omega) (by decide) (j_nm (fun σ192 (eσ192 : σ192 = tw_up σ183 94 (((5 * h) + 3).toNat) 1) => ?_))
                    have hIσ192 : tw_I σ192 := tw_I_up hIσ183 eσ192 (show (-2147483648 : Int) ≤ 1 ∧ 1 ≤ 2147483647 from by decide)
                    have hFσ192 : tw_F (fun c j => (c = 88 ∧ (j = 10 ∨ j = 13 ∨ j = 14 ∨ j = 15 ∨ j = 16 ∨ j = 17 ∨ j = 18)) ∨ c = 94 ∨ c = 96) σ σ192 := tw_F_up hFσ183 eσ192 (show (94 = 88 ∧ (((5 * h) + 3).toNat = 10 ∨ ((5 * h) + 3).toNat = 13 ∨ ((5 * h) + 3).toNat = 14 ∨ ((5 * h) + 3).toNat = 15 ∨ ((5 * h) + 3).toNat = 16 ∨ ((5 * h) + 3).toNat = 17 ∨ ((5 * h) + 3).toNat = 18)) ∨ 94 = 94 ∨ 94 = 96 from (Or.inr (Or.inl rfl)))
                    have d2 : aM σ192 = wr (ci 303 (5 * h)) 1 (aM σ183) := by rw [show ci 303 (5 * h) = 300 + (5 * h + 3).toNat from by unfold ci; omega]; exact aM_wr eσ192 (Or.inr (Or.inr (Or.inr (Or.inr (Or.inl ⟨rfl, by omega, by omega⟩)))))
                    have d4 := withM_2 (f := fM σ) (h := h) (w := r8 - 20) (by omega) d1 d2
                    have nx : (it wstopM (wstepM (fM σ) h) wmes (aM σ192, z181)).1 = footM (fM σ) (aM σ) := by rw [t2, ← wstepM_yes (f := fM σ) (h := h) (t := d) w3 (by omega) e2 d4, ← it_s (wstepM_go hq1) hs]; exact i3
                    have y193 : σ192 88 13 = σ183 88 13 := (tw_ne1 eσ192 (by (first | decide | omega)))
                    have y194 : σ192 88 17 = σ183 88 17 := (tw_ne1 eσ192 (by (first | decide | omega)))
                    have y195 : σ192 88 15 = σ183 88 15 := (tw_ne1 eσ192 (by (first | decide | omega)))
                    have y1 : σ192 88 17 = σ183 88 17 := by first | rfl | exact tw_ne1 eσ192 (by (first | decide | omega))
                    have y2 : σ192 88 15 = σ183 88 15 := by first | rfl | exact tw_ne1 eσ192 (by (first | decide | omega))
                    have y3 : σ192 88 13 = σ183 88 13 := by first | rfl | exact tw_ne1 eσ192 (by (first | decide | omega))
                    have y4 : (0 : Int) ≤ σ192 88 13 ∧ σ192 88 13 ≤ 400 := hIσ192 88 13
                    have lt9 := mMu_lt (f := τ 88 17) (s := τ 88 15) (p := τ 88 13) (f2 := σ192 88 17) (s2 := σ192 88 15) (p2 := σ192 88 13) (by omega) (by omega) (by omega) (by omega) (by omega)
                    refine j_goto (pc := 249) (tgt := 99) dX12_readAt_249 rfl ?_
                    refine j_ls (ls' := [(0, vR 88), (1, vI h), (2, vI z181)]) [0, 1, 2] rfl ?_
                    have y196 : σ192 88 17 = σ183 88 17 := (tw_ne1 eσ192 (by (first | decide | omega)))
                    have f197 : (0 : Int) ≤ σ183 88 17 ∧ σ183 88 17 ≤ 5 := hIσ183 88 17
                    have y198 : σ192 88 13 = σ183 88 13 := (tw_ne1 eσ192 (by (first | decide | omega)))
                    have f199 : (0 : Int) ≤ σ183 88 13 ∧ σ183 88 13 ≤ 400 := hIσ183 88 13
                    have y200 : σ192 88 17 = σ183 88 17 := (tw_ne1 eσ192 (by (first | decide | omega)))
                    have y201 : σ192 88 15 = σ183 88 15 := (tw_ne1 eσ192 (by (first | decide | omega)))
                    have f202 : (-2147483648 : Int) ≤ σ183 88 15 ∧ σ183 88 15 ≤ 2147483647 := hIσ183 88 15
                    have y203 : σ192 88 13 = σ183 88 13 := (tw_ne1 eσ192 (by (first | decide | omega)))
                    exact ih h ⟨by omega, by omega⟩ z181 ⟨by omega, by omega⟩ σ192 hIσ192 hFσ192 (show DQ σ192 from (by first | exact DQ_put (DQ_F i0 (fun j => (((hGσ183 93 j (show ¬ ((93 = 88 ∧ (j = 13 ∨ j = 14 ∨ j = 15 ∨ j = 16 ∨ j = 17 ∨ j = 18))) from fun h => absurd h.1 (by decide)))).trans (hGσ175 93 j (show ¬ ((93 = 88 ∧ (j = 17 ∨ j = 18))) from fun h => absurd h.1 (by decide)))).trans (hGσ86 93 j (show ¬ ((93 = 88 ∧ (j = 17 ∨ j = 18))) from fun h => absurd h.1 (by decide)))) (fun j => (((hGσ183 94 j (show ¬ ((94 = 88 ∧ (j = 13 ∨ j = 14 ∨ j = 15 ∨ j = 16 ∨ j = 17 ∨ j = 18))) from fun h => absurd h.1 (by decide)))).trans (hGσ175 94 j (show ¬ ((94 = 88 ∧ (j = 17 ∨ j = 18))) from fun h => absurd h.1 (by decide)))).trans (hGσ86 94 j (show ¬ ((94 = 88 ∧ (j = 17 ∨ j = 18))) from fun h => absurd h.1 (by decide)))) (by omega)) eσ192 (by clear q7_0 q7_1 q87_0 q87_1 q87_2 q176_0 q176_1 q176_2 q184_0 q184_1 q184_2 q184_3; first | exact Or.inr (w92 (by omega) (by omega) (by omega)) | (rcases q184_0 with q | q; exact Or.inl (by omega); (first | exact Or.inr (w92 (by omega) (by omega) (by omega)) | exact Or.inr (w92 (h := 0) (k := 0) (by omega) (by omega) (by omega))))) | exact DQ_F i0 (fun j => ((((tw_ne1 eσ192 (by (first | decide | omega)))).trans (hGσ183 93 j (show ¬ ((93 = 88 ∧ (j = 13 ∨ j = 14 ∨ j = 15 ∨ j = 16 ∨ j = 17 ∨ j = 18))) from fun h => absurd h.1 (by decide)))).trans (hGσ175 93 j (show ¬ ((93 = 88 ∧ (j = 17 ∨ j = 18))) from fun h => absurd h.1 (by decide)))).trans (hGσ86 93 j (show ¬ ((93 = 88 ∧ (j = 17 ∨ j = 18))) from fun h => absurd h.1 (by decide)))) (fun j => rfl) (by omega))) (show ¬ σ192 88 17 = 0 ∨ σ 88 17 = 0 from (by clear q7_0 q7_1 q87_1 q87_2 q176_1 q176_2 q184_1 q184_2 q184_3; omega)) (show σ 88 13 ≤ σ192 88 13 from (by clear q7_0 q7_1 q87_0 q87_1 q87_2 q176_0 q176_1 q176_2 q184_0 q184_2 q184_3; omega)) (show (it wstopM (wstepM (fM σ) h) wmes (aM σ192, z181)).1 = footM (fM σ) (aM σ) from nx) (show (mMu (σ192 88 17) (σ192 88 15) (σ192 88 13)).toNat < N_ from by omega)
                  · refine j_iconst (pc := 241) dX12_readAt_241 ?_
                    refine j_goto (pc := 242) (tgt := 246) dX12_readAt_242 rfl ?_
                    refine j_iadd (pc := 246) dX12_readAt_246 ?_
                    refine j_iconst (pc := 247) dX12_readAt_247 ?_
                    refine j_iast (pc := 248) dX12_readAt_248 (a_94 hM) (by omega) (by omega) (by decide) (j_nm (fun σ204 (eσ204 : σ204 = tw_up σ183 94 (((5 * h) + 2).toNat) 1) => ?_))
                    have hIσ204 : tw_I σ204 := tw_I_up hIσ183 eσ204 (show (-2147483648 : Int) ≤ 1 ∧ 1 ≤ 2147483647 from by decide)
                    have hFσ204 : tw_F (fun c j => (c = 88 ∧ (j = 10 ∨ j = 13 ∨ j = 14 ∨ j = 15 ∨ j = 16 ∨ j = 17 ∨ j = 18)) ∨ c = 94 ∨ c = 96) σ σ204 := tw_F_up hFσ183 eσ204 (show (94 = 88 ∧ (((5 * h) + 2).toNat = 10 ∨ ((5 * h) + 2).toNat = 13 ∨ ((5 * h) + 2).toNat = 14 ∨ ((5 * h) + 2).toNat = 15 ∨ ((5 * h) + 2).toNat = 16 ∨ ((5 * h) + 2).toNat = 17 ∨ ((5 * h) + 2).toNat = 18)) ∨ 94 = 94 ∨ 94 = 96 from (Or.inr (Or.inl rfl)))
                    have d2 : aM σ204 = wr (ci 302 (5 * h)) 1 (aM σ183) := by rw [show ci 302 (5 * h) = 300 + (5 * h + 2).toNat from by unfold ci; omega]; exact aM_wr eσ204 (Or.inr (Or.inr (Or.inr (Or.inr (Or.inl ⟨rfl, by omega, by omega⟩)))))
                    have d4 := withM_1 (f := fM σ) (h := h) (w := r8 - 20) (by omega) d1 d2
                    have nx : (it wstopM (wstepM (fM σ) h) wmes (aM σ204, z181)).1 = footM (fM σ) (aM σ) := by rw [t2, ← wstepM_yes (f := fM σ) (h := h) (t := d) w3 (by omega) e2 d4, ← it_s (wstepM_go hq1) hs]; exact i3
                    have y205 : σ204 88 13 = σ183 88 13 := (tw_ne1 eσ204 (by (first | decide | omega)))
                    have y206 : σ204 88 17 = σ183 88 17 := (tw_ne1 eσ204 (by (first | decide | omega)))
                    have y207 : σ204 88 15 = σ183 88 15 := (tw_ne1 eσ204 (by (first | decide | omega)))
                    have y1 : σ204 88 17 = σ183 88 17 := by first | rfl | exact tw_ne1 eσ204 (by (first | decide | omega))
                    have y2 : σ204 88 15 = σ183 88 15 := by first | rfl | exact tw_ne1 eσ204 (by (first | decide | omega))
                    have y3 : σ204 88 13 = σ183 88 13 := by first | rfl | exact tw_ne1 eσ204 (by (first | decide | omega))
                    have y4 : (0 : Int) ≤ σ204 88 13 ∧ σ204 88 13 ≤ 400 := hIσ204 88 13
                    have lt9 := mMu_lt (f := τ 88 17) (s := τ 88 15) (p := τ 88 13) (f2 := σ204 88 17) (s2 := σ204 88 15) (p2 := σ204 88 13) (by omega) (by omega) (by omega) (by omega) (by omega)
                    refine j_goto (pc := 249) (tgt := 99) dX12_readAt_249 rfl ?_
                    refine j_ls (ls' := [(0, vR 88), (1, vI h), (2, vI z181)]) [0, 1, 2] rfl ?_
                    have y208 : σ204 88 17 = σ183 88 17 := (tw_ne1 eσ204 (by (first | decide | omega)))
                    have f209 : (0 : Int) ≤ σ183 88 17 ∧ σ183 88 17 ≤ 5 := hIσ183 88 17
                    have y210 : σ204 88 13 = σ183 88 13 := (tw_ne1 eσ204 (by (first | decide | omega)))
                    have f211 : (0 : Int) ≤ σ183 88 13 ∧ σ183 88 13 ≤ 400 := hIσ183 88 13
                    have y212 : σ204 88 17 = σ183 88 17 := (tw_ne1 eσ204 (by (first | decide | omega)))
                    have y213 : σ204 88 15 = σ183 88 15 := (tw_ne1 eσ204 (by (first | decide | omega)))
                    have f214 : (-2147483648 : Int) ≤ σ183 88 15 ∧ σ183 88 15 ≤ 2147483647 := hIσ183 88 15
                    have y215 : σ204 88 13 = σ183 88 13 := (tw_ne1 eσ204 (by (first | decide | omega)))
                    exact ih h ⟨by omega, by omega⟩ z181 ⟨by omega, by omega⟩ σ204 hIσ204 hFσ204 (show DQ σ204 from (by first | exact DQ_put (DQ_F i0 (fun j => (((hGσ183 93 j (show ¬ ((93 = 88 ∧ (j = 13 ∨ j = 14 ∨ j = 15 ∨ j = 16 ∨ j = 17 ∨ j = 18))) from fun h => absurd h.1 (by decide)))).trans (hGσ175 93 j (show ¬ ((93 = 88 ∧ (j = 17 ∨ j = 18))) from fun h => absurd h.1 (by decide)))).trans (hGσ86 93 j (show ¬ ((93 = 88 ∧ (j = 17 ∨ j = 18))) from fun h => absurd h.1 (by decide)))) (fun j => (((hGσ183 94 j (show ¬ ((94 = 88 ∧ (j = 13 ∨ j = 14 ∨ j = 15 ∨ j = 16 ∨ j = 17 ∨ j = 18))) from fun h => absurd h.1 (by decide)))).trans (hGσ175 94 j (show ¬ ((94 = 88 ∧ (j = 17 ∨ j = 18))) from fun h => absurd h.1 (by decide)))).trans (hGσ86 94 j (show ¬ ((94 = 88 ∧ (j = 17 ∨ j = 18))) from fun h => absurd h.1 (by decide)))) (by omega)) eσ204 (by clear q7_0 q7_1 q87_0 q87_1 q87_2 q176_0 q176_1 q176_2 q184_0 q184_1 q184_2 q184_3; first | exact Or.inr (w92 (by omega) (by omega) (by omega)) | (rcases q184_0 with q | q; exact Or.inl (by omega); (first | exact Or.inr (w92 (by omega) (by omega) (by omega)) | exact Or.inr (w92 (h := 0) (k := 0) (by omega) (by omega) (by omega))))) | exact DQ_F i0 (fun j => ((((tw_ne1 eσ204 (by (first | decide | omega)))).trans (hGσ183 93 j (show ¬ ((93 = 88 ∧ (j = 13 ∨ j = 14 ∨ j = 15 ∨ j = 16 ∨ j = 17 ∨ j = 18))) from fun h => absurd h.1 (by decide)))).trans (hGσ175 93 j (show ¬ ((93 = 88 ∧ (j = 17 ∨ j = 18))) from fun h => absurd h.1 (by decide)))).trans (hGσ86 93 j (show ¬ ((93 = 88 ∧ (j = 17 ∨ j = 18))) from fun h => absurd h.1 (by decide)))) (fun j => rfl) (by omega))) (show ¬ σ204 88 17 = 0 ∨ σ 88 17 = 0 from (by clear q7_0 q7_1 q87_1 q87_2 q176_1 q176_2 q184_1 q184_2 q184_3; omega)) (show σ 88 13 ≤ σ204 88 13 from (by clear q7_0 q7_1 q87_0 q87_1 q87_2 q176_0 q176_1 q176_2 q184_0 q184_2 q184_3; omega)) (show (it wstopM (wstepM (fM σ) h) wmes (aM σ204, z181)).1 = footM (fM σ) (aM σ) from nx) (show (mMu (σ204 88 17) (σ204 88 15) (σ204 88 13)).toNat < N_ from by omega)
                · refine j_aload_n (pc := 208) dX12_readAt_208 rfl rfl ?_
                  refine j_getR (pc := 209) (r := 94) fl_X12_26 dX12_readAt_209 (a_88 hM) rfl ?_
                  refine j_iconst (pc := 212) dX12_readAt_212 ?_
                  refine j_iload_n (pc := 213) dX12_readAt_213 rfl rfl ?_
                  refine j_imul (pc := 214) dX12_readAt_214 ?_
                  refine j_iconst (pc := 215) dX12_readAt_215 ?_
                  refine j_iadd (pc := 216) dX12_readAt_216 ?_
                  refine j_aload_n (pc := 217) dX12_readAt_217 rfl rfl ?_
                  refine j_iconst (pc := 218) dX12_readAt_218 ?_
                  refine j_bipush (pc := 219) dX12_readAt_219 rfl ?_
                  have fz : fM σ183 = fM σ := fM_F (hFσ183 88 12 (show ¬ ((88 = 88 ∧ (12 = 10 ∨ 12 = 13 ∨ 12 = 14 ∨ 12 = 15 ∨ 12 = 16 ∨ 12 = 17 ∨ 12 = 18)) ∨ 88 = 94 ∨ 88 = 96) from by decide)) (fun j => hFσ183 98 j (show ¬ ((98 = 88 ∧ (j = 10 ∨ j = 13 ∨ j = 14 ∨ j = 15 ∨ j = 16 ∨ j = 17 ∨ j = 18)) ∨ 98 = 94 ∨ 98 = 96) from fun h => h.elim (fun h => absurd h.1 (by decide)) (fun h => h.elim (fun h => absurd h (by decide)) (fun h => absurd h (by decide)))))
                  refine j_callV (pc := 221) (As := [vI 0, vI 9]) (st := [vI ((5 * h) + 4), vR 94]) (c_X12_readNumber hM 0 (by (first | decide | exact ⟨by omega, by omega⟩)) 9 (by (first | decide | exact ⟨by omega, by omega⟩)) σ183 hIσ183) mv_X12_140 rfl rfl rfl (a_88 hM) dX12_readAt_221 ⟨Nat.le_of_ble_eq_true rfl, Nat.le_of_ble_eq_true rfl⟩ ⟨Nat.le_refl _, Nat.le_refl _⟩ rfl (Nat.le_of_ble_eq_true rfl) rfl (fun z216 σ217 hz216 => ?_)
                  obtain ⟨r219, rfl, hr219, hIσ217, hGσ217, q218_0, q218_1, q218_2, q218_3, q218_4⟩ := hz216
                  replace q218_0 : ¬ σ217 88 17 = 0 ∨ (σ183 88 17 = 0 ∧ (0 : Int) ≤ r219 ∧ r219 ≤ (9 : Int)) := q218_0
                  replace q218_1 : σ183 88 13 ≤ σ217 88 13 := q218_1
                  replace q218_2 : ¬ σ217 88 17 = 0 ∨ σ217 88 15 = 0 ∨ σ183 88 13 < σ217 88 13 := q218_2
                  replace q218_3 : aM σ217 = tok (fM σ183) (numS (0 : Int) (9 : Int) (aM σ183)) := q218_3
                  replace q218_4 : (aM σ217) 4 = 0 → r219 = (numS (0 : Int) (9 : Int) (aM σ183)) 3 := q218_4
                  have hFσ217 : tw_F (fun c j => (c = 88 ∧ (j = 10 ∨ j = 13 ∨ j = 14 ∨ j = 15 ∨ j = 16 ∨ j = 17 ∨ j = 18)) ∨ c = 94 ∨ c = 96) σ σ217 := tw_F_tr hFσ183 hGσ217 (fun c j q => (show (c = 88 ∧ (j = 10 ∨ j = 13 ∨ j = 14 ∨ j = 15 ∨ j = 16 ∨ j = 17 ∨ j = 18)) ∨ c = 94 ∨ c = 96 from by replace q : (c = 88 ∧ (j = 13 ∨ j = 14 ∨ j = 15 ∨ j = 16 ∨ j = 17 ∨ j = 18)) := q; exact (Or.inl ⟨q.1, (q.2.elim (fun z => (Or.inr (Or.inl z))) (fun z => (z.elim (fun z => (Or.inr (Or.inr (Or.inl z)))) (fun z => (z.elim (fun z => (Or.inr (Or.inr (Or.inr (Or.inl z))))) (fun z => (z.elim (fun z => (Or.inr (Or.inr (Or.inr (Or.inr (Or.inl z)))))) (fun z => (z.elim (fun z => (Or.inr (Or.inr (Or.inr (Or.inr (Or.inr (Or.inl z))))))) (fun z => (Or.inr (Or.inr (Or.inr (Or.inr (Or.inr (Or.inr z))))))))))))))))⟩)))
                  refine j_st (st' := [vI r219, vI ((5 * h) + 4), vR 94]) rfl ?_
                  have d2 := q218_3; rw [fz] at d2
                  have v2 := q218_4
                  refine j_iast (pc := 224) dX12_readAt_224 (a_94 hM) (by omega) (by omega) (by decide) (j_nm (fun σ220 (eσ220 : σ220 = tw_up σ217 94 (((5 * h) + 4).toNat) r219) => ?_))
                  have hIσ220 : tw_I σ220 := tw_I_up hIσ217 eσ220 (show (-2147483648 : Int) ≤ r219 ∧ r219 ≤ 2147483647 from ⟨by omega, by omega⟩)
                  have hFσ220 : tw_F (fun c j => (c = 88 ∧ (j = 10 ∨ j = 13 ∨ j = 14 ∨ j = 15 ∨ j = 16 ∨ j = 17 ∨ j = 18)) ∨ c = 94 ∨ c = 96) σ σ220 := tw_F_up hFσ217 eσ220 (show (94 = 88 ∧ (((5 * h) + 4).toNat = 10 ∨ ((5 * h) + 4).toNat = 13 ∨ ((5 * h) + 4).toNat = 14 ∨ ((5 * h) + 4).toNat = 15 ∨ ((5 * h) + 4).toNat = 16 ∨ ((5 * h) + 4).toNat = 17 ∨ ((5 * h) + 4).toNat = 18)) ∨ 94 = 94 ∨ 94 = 96 from (Or.inr (Or.inl rfl)))
                  have d3 : aM σ220 = wr (ci 304 (5 * h)) ((numS 0 9 (aM σ183)) 3) (aM σ217) := by rw [show ci 304 (5 * h) = 300 + (5 * h + 4).toNat from by unfold ci; omega]; exact (aM_wr eσ220 (Or.inr (Or.inr (Or.inr (Or.inr (Or.inl ⟨rfl, by omega, by omega⟩)))))).trans (wr_cg v2)
                  refine j_goto (pc := 225) (tgt := 249) dX12_readAt_225 rfl ?_
                  have d4 := withM_3 (f := fM σ) (h := h) (w := r8 - 20) (by omega) d1 d2 d3
                  have nx : (it wstopM (wstepM (fM σ) h) wmes (aM σ220, z181)).1 = footM (fM σ) (aM σ) := by rw [t2, ← wstepM_yes (f := fM σ) (h := h) (t := d) w3 (by omega) e2 d4, ← it_s (wstepM_go hq1) hs]; exact i3
                  have y221 : σ220 88 13 = σ217 88 13 := (tw_ne1 eσ220 (by (first | decide | omega)))
                  have y222 : σ220 88 17 = σ217 88 17 := (tw_ne1 eσ220 (by (first | decide | omega)))
                  have y223 : σ220 88 15 = σ217 88 15 := (tw_ne1 eσ220 (by (first | decide | omega)))
                  have y1 : σ220 88 17 = σ217 88 17 := by first | rfl | exact tw_ne1 eσ220 (by (first | decide | omega))
                  have y2 : σ220 88 15 = σ217 88 15 := by first | rfl | exact tw_ne1 eσ220 (by (first | decide | omega))
                  have y3 : σ220 88 13 = σ217 88 13 := by first | rfl | exact tw_ne1 eσ220 (by (first | decide | omega))
                  have y4 : (0 : Int) ≤ σ220 88 13 ∧ σ220 88 13 ≤ 400 := hIσ220 88 13
                  have lt9 := mMu_lt (f := τ 88 17) (s := τ 88 15) (p := τ 88 13) (f2 := σ220 88 17) (s2 := σ220 88 15) (p2 := σ220 88 13) (by omega) (by omega) (by omega) (by omega) (by omega)
                  refine j_goto (pc := 249) (tgt := 99) dX12_readAt_249 rfl ?_
                  refine j_ls (ls' := [(0, vR 88), (1, vI h), (2, vI z181)]) [0, 1, 2] rfl ?_
                  have y224 : σ220 88 17 = σ217 88 17 := (tw_ne1 eσ220 (by (first | decide | omega)))
                  have f225 : (0 : Int) ≤ σ217 88 17 ∧ σ217 88 17 ≤ 5 := hIσ217 88 17
                  have y226 : σ220 88 13 = σ217 88 13 := (tw_ne1 eσ220 (by (first | decide | omega)))
                  have f227 : (0 : Int) ≤ σ217 88 13 ∧ σ217 88 13 ≤ 400 := hIσ217 88 13
                  have y228 : σ220 88 17 = σ217 88 17 := (tw_ne1 eσ220 (by (first | decide | omega)))
                  have y229 : σ220 88 15 = σ217 88 15 := (tw_ne1 eσ220 (by (first | decide | omega)))
                  have f230 : (-2147483648 : Int) ≤ σ217 88 15 ∧ σ217 88 15 ≤ 2147483647 := hIσ217 88 15
                  have y231 : σ220 88 13 = σ217 88 13 := (tw_ne1 eσ220 (by (first | decide | omega)))
                  exact ih h ⟨by omega, by omega⟩ z181 ⟨by omega, by omega⟩ σ220 hIσ220 hFσ220 (show DQ σ220 from (by first | exact DQ_put (DQ_F i0 (fun j => ((((hGσ217 93 j (show ¬ ((93 = 88 ∧ (j = 13 ∨ j = 14 ∨ j = 15 ∨ j = 16 ∨ j = 17 ∨ j = 18))) from fun h => absurd h.1 (by decide)))).trans (hGσ183 93 j (show ¬ ((93 = 88 ∧ (j = 13 ∨ j = 14 ∨ j = 15 ∨ j = 16 ∨ j = 17 ∨ j = 18))) from fun h => absurd h.1 (by decide)))).trans (hGσ175 93 j (show ¬ ((93 = 88 ∧ (j = 17 ∨ j = 18))) from fun h => absurd h.1 (by decide)))).trans (hGσ86 93 j (show ¬ ((93 = 88 ∧ (j = 17 ∨ j = 18))) from fun h => absurd h.1 (by decide)))) (fun j => ((((hGσ217 94 j (show ¬ ((94 = 88 ∧ (j = 13 ∨ j = 14 ∨ j = 15 ∨ j = 16 ∨ j = 17 ∨ j = 18))) from fun h => absurd h.1 (by decide)))).trans (hGσ183 94 j (show ¬ ((94 = 88 ∧ (j = 13 ∨ j = 14 ∨ j = 15 ∨ j = 16 ∨ j = 17 ∨ j = 18))) from fun h => absurd h.1 (by decide)))).trans (hGσ175 94 j (show ¬ ((94 = 88 ∧ (j = 17 ∨ j = 18))) from fun h => absurd h.1 (by decide)))).trans (hGσ86 94 j (show ¬ ((94 = 88 ∧ (j = 17 ∨ j = 18))) from fun h => absurd h.1 (by decide)))) (by omega)) eσ220 (by clear q7_0 q7_1 q87_0 q87_1 q87_2 q176_0 q176_1 q176_2 q184_0 q184_1 q184_2 q184_3 q218_1 q218_2 q218_3 q218_4; first | exact Or.inr (w92 (by omega) (by omega) (by omega)) | (rcases q218_0 with q | q; exact Or.inl (by omega); (first | exact Or.inr (w92 (by omega) (by omega) (by omega)) | exact Or.inr (w92 (h := 0) (k := 0) (by omega) (by omega) (by omega))))) | exact DQ_F i0 (fun j => (((((tw_ne1 eσ220 (by (first | decide | omega)))).trans (hGσ217 93 j (show ¬ ((93 = 88 ∧ (j = 13 ∨ j = 14 ∨ j = 15 ∨ j = 16 ∨ j = 17 ∨ j = 18))) from fun h => absurd h.1 (by decide)))).trans (hGσ183 93 j (show ¬ ((93 = 88 ∧ (j = 13 ∨ j = 14 ∨ j = 15 ∨ j = 16 ∨ j = 17 ∨ j = 18))) from fun h => absurd h.1 (by decide)))).trans (hGσ175 93 j (show ¬ ((93 = 88 ∧ (j = 17 ∨ j = 18))) from fun h => absurd h.1 (by decide)))).trans (hGσ86 93 j (show ¬ ((93 = 88 ∧ (j = 17 ∨ j = 18))) from fun h => absurd h.1 (by decide)))) (fun j => rfl) (by omega))) (show ¬ σ220 88 17 = 0 ∨ σ 88 17 = 0 from (by clear q7_0 q7_1 q87_1 q87_2 q176_1 q176_2 q184_1 q184_2 q184_3 q218_1 q218_2 q218_3 q218_4; omega)) (show σ 88 13 ≤ σ220 88 13 from (by clear q7_0 q7_1 q87_0 q87_1 q87_2 q176_0 q176_1 q176_2 q184_0 q184_2 q184_3 q218_0 q218_2 q218_3 q218_4; omega)) (show (it wstopM (wstepM (fM σ) h) wmes (aM σ220, z181)).1 = footM (fM σ) (aM σ) from nx) (show (mMu (σ220 88 17) (σ220 88 15) (σ220 88 13)).toNat < N_ from by omega)
              · refine j_aload_n (pc := 182) dX12_readAt_182 rfl rfl ?_
                refine j_getR (pc := 183) (r := 94) fl_X12_26 dX12_readAt_183 (a_88 hM) rfl ?_
                refine j_iconst (pc := 186) dX12_readAt_186 ?_
                refine j_iload_n (pc := 187) dX12_readAt_187 rfl rfl ?_
                refine j_imul (pc := 188) dX12_readAt_188 ?_
                refine j_iconst (pc := 189) dX12_readAt_189 ?_
                refine j_iadd (pc := 190) dX12_readAt_190 ?_
                refine j_aload_n (pc := 191) dX12_readAt_191 rfl rfl ?_
                refine j_iconst (pc := 192) dX12_readAt_192 ?_
                refine j_bipush (pc := 193) dX12_readAt_193 rfl ?_
                have fz : fM σ183 = fM σ := fM_F (hFσ183 88 12 (show ¬ ((88 = 88 ∧ (12 = 10 ∨ 12 = 13 ∨ 12 = 14 ∨ 12 = 15 ∨ 12 = 16 ∨ 12 = 17 ∨ 12 = 18)) ∨ 88 = 94 ∨ 88 = 96) from by decide)) (fun j => hFσ183 98 j (show ¬ ((98 = 88 ∧ (j = 10 ∨ j = 13 ∨ j = 14 ∨ j = 15 ∨ j = 16 ∨ j = 17 ∨ j = 18)) ∨ 98 = 94 ∨ 98 = 96) from fun h => h.elim (fun h => absurd h.1 (by decide)) (fun h => h.elim (fun h => absurd h (by decide)) (fun h => absurd h (by decide)))))
                refine j_callV (pc := 195) (As := [vI 1, vI 10]) (st := [vI ((5 * h) + 1), vR 94]) (c_X12_readNumber hM 1 (by (first | decide | exact ⟨by omega, by omega⟩)) 10 (by (first | decide | exact ⟨by omega, by omega⟩)) σ183 hIσ183) mv_X12_140 rfl rfl rfl (a_88 hM) dX12_readAt_195 ⟨Nat.le_of_ble_eq_true rfl, Nat.le_of_ble_eq_true rfl⟩ ⟨Nat.le_refl _, Nat.le_refl _⟩ rfl (Nat.le_of_ble_eq_true rfl) rfl (fun z232 σ233 hz232 => ?_)
                obtain ⟨r235, rfl, hr235, hIσ233, hGσ233, q234_0, q234_1, q234_2, q234_3, q234_4⟩ := hz232
                replace q234_0 : ¬ σ233 88 17 = 0 ∨ (σ183 88 17 = 0 ∧ (1 : Int) ≤ r235 ∧ r235 ≤ (10 : Int)) := q234_0
                replace q234_1 : σ183 88 13 ≤ σ233 88 13 := q234_1
                replace q234_2 : ¬ σ233 88 17 = 0 ∨ σ233 88 15 = 0 ∨ σ183 88 13 < σ233 88 13 := q234_2
                replace q234_3 : aM σ233 = tok (fM σ183) (numS (1 : Int) (10 : Int) (aM σ183)) := q234_3
                replace q234_4 : (aM σ233) 4 = 0 → r235 = (numS (1 : Int) (10 : Int) (aM σ183)) 3 := q234_4
                have hFσ233 : tw_F (fun c j => (c = 88 ∧ (j = 10 ∨ j = 13 ∨ j = 14 ∨ j = 15 ∨ j = 16 ∨ j = 17 ∨ j = 18)) ∨ c = 94 ∨ c = 96) σ σ233 := tw_F_tr hFσ183 hGσ233 (fun c j q => (show (c = 88 ∧ (j = 10 ∨ j = 13 ∨ j = 14 ∨ j = 15 ∨ j = 16 ∨ j = 17 ∨ j = 18)) ∨ c = 94 ∨ c = 96 from by replace q : (c = 88 ∧ (j = 13 ∨ j = 14 ∨ j = 15 ∨ j = 16 ∨ j = 17 ∨ j = 18)) := q; exact (Or.inl ⟨q.1, (q.2.elim (fun z => (Or.inr (Or.inl z))) (fun z => (z.elim (fun z => (Or.inr (Or.inr (Or.inl z)))) (fun z => (z.elim (fun z => (Or.inr (Or.inr (Or.inr (Or.inl z))))) (fun z => (z.elim (fun z => (Or.inr (Or.inr (Or.inr (Or.inr (Or.inl z)))))) (fun z => (z.elim (fun z => (Or.inr (Or.inr (Or.inr (Or.inr (Or.inr (Or.inl z))))))) (fun z => (Or.inr (Or.inr (Or.inr (Or.inr (Or.inr (Or.inr z))))))))))))))))⟩)))
                refine j_st (st' := [vI r235, vI ((5 * h) + 1), vR 94]) rfl ?_
                have d2 := q234_3; rw [fz] at d2
                have v2 := q234_4
                refine j_iast (pc := 198) dX12_readAt_198 (a_94 hM) (by omega) (by omega) (by decide) (j_nm (fun σ236 (eσ236 : σ236 = tw_up σ233 94 (((5 * h) + 1).toNat) r235) => ?_))
                have hIσ236 : tw_I σ236 := tw_I_up hIσ233 eσ236 (show (-2147483648 : Int) ≤ r235 ∧ r235 ≤ 2147483647 from ⟨by omega, by omega⟩)
                have hFσ236 : tw_F (fun c j => (c = 88 ∧ (j = 10 ∨ j = 13 ∨ j = 14 ∨ j = 15 ∨ j = 16 ∨ j = 17 ∨ j = 18)) ∨ c = 94 ∨ c = 96) σ σ236 := tw_F_up hFσ233 eσ236 (show (94 = 88 ∧ (((5 * h) + 1).toNat = 10 ∨ ((5 * h) + 1).toNat = 13 ∨ ((5 * h) + 1).toNat = 14 ∨ ((5 * h) + 1).toNat = 15 ∨ ((5 * h) + 1).toNat = 16 ∨ ((5 * h) + 1).toNat = 17 ∨ ((5 * h) + 1).toNat = 18)) ∨ 94 = 94 ∨ 94 = 96 from (Or.inr (Or.inl rfl)))
                have d3 : aM σ236 = wr (ci 301 (5 * h)) ((numS 1 10 (aM σ183)) 3) (aM σ233) := by rw [show ci 301 (5 * h) = 300 + (5 * h + 1).toNat from by unfold ci; omega]; exact (aM_wr eσ236 (Or.inr (Or.inr (Or.inr (Or.inr (Or.inl ⟨rfl, by omega, by omega⟩)))))).trans (wr_cg v2)
                refine j_goto (pc := 199) (tgt := 249) dX12_readAt_199 rfl ?_
                have d4 := withM_0 (f := fM σ) (h := h) (w := r8 - 20) (by omega) d1 d2 d3
                have nx : (it wstopM (wstepM (fM σ) h) wmes (aM σ236, z181)).1 = footM (fM σ) (aM σ) := by rw [t2, ← wstepM_yes (f := fM σ) (h := h) (t := d) w3 (by omega) e2 d4, ← it_s (wstepM_go hq1) hs]; exact i3
                have y237 : σ236 88 13 = σ233 88 13 := (tw_ne1 eσ236 (by (first | decide | omega)))
                have y238 : σ236 88 17 = σ233 88 17 := (tw_ne1 eσ236 (by (first | decide | omega)))
                have y239 : σ236 88 15 = σ233 88 15 := (tw_ne1 eσ236 (by (first | decide | omega)))
                have y1 : σ236 88 17 = σ233 88 17 := by first | rfl | exact tw_ne1 eσ236 (by (first | decide | omega))
                have y2 : σ236 88 15 = σ233 88 15 := by first | rfl | exact tw_ne1 eσ236 (by (first | decide | omega))
                have y3 : σ236 88 13 = σ233 88 13 := by first | rfl | exact tw_ne1 eσ236 (by (first | decide | omega))
                have y4 : (0 : Int) ≤ σ236 88 13 ∧ σ236 88 13 ≤ 400 := hIσ236 88 13
                have lt9 := mMu_lt (f := τ 88 17) (s := τ 88 15) (p := τ 88 13) (f2 := σ236 88 17) (s2 := σ236 88 15) (p2 := σ236 88 13) (by omega) (by omega) (by omega) (by omega) (by omega)
                refine j_goto (pc := 249) (tgt := 99) dX12_readAt_249 rfl ?_
                refine j_ls (ls' := [(0, vR 88), (1, vI h), (2, vI z181)]) [0, 1, 2] rfl ?_
                have y240 : σ236 88 17 = σ233 88 17 := (tw_ne1 eσ236 (by (first | decide | omega)))
                have f241 : (0 : Int) ≤ σ233 88 17 ∧ σ233 88 17 ≤ 5 := hIσ233 88 17
                have y242 : σ236 88 13 = σ233 88 13 := (tw_ne1 eσ236 (by (first | decide | omega)))
                have f243 : (0 : Int) ≤ σ233 88 13 ∧ σ233 88 13 ≤ 400 := hIσ233 88 13
                have y244 : σ236 88 17 = σ233 88 17 := (tw_ne1 eσ236 (by (first | decide | omega)))
                have y245 : σ236 88 15 = σ233 88 15 := (tw_ne1 eσ236 (by (first | decide | omega)))
                have f246 : (-2147483648 : Int) ≤ σ233 88 15 ∧ σ233 88 15 ≤ 2147483647 := hIσ233 88 15
                have y247 : σ236 88 13 = σ233 88 13 := (tw_ne1 eσ236 (by (first | decide | omega)))
                exact ih h ⟨by omega, by omega⟩ z181 ⟨by omega, by omega⟩ σ236 hIσ236 hFσ236 (show DQ σ236 from (by first | exact DQ_put (DQ_F i0 (fun j => ((((hGσ233 93 j (show ¬ ((93 = 88 ∧ (j = 13 ∨ j = 14 ∨ j = 15 ∨ j = 16 ∨ j = 17 ∨ j = 18))) from fun h => absurd h.1 (by decide)))).trans (hGσ183 93 j (show ¬ ((93 = 88 ∧ (j = 13 ∨ j = 14 ∨ j = 15 ∨ j = 16 ∨ j = 17 ∨ j = 18))) from fun h => absurd h.1 (by decide)))).trans (hGσ175 93 j (show ¬ ((93 = 88 ∧ (j = 17 ∨ j = 18))) from fun h => absurd h.1 (by decide)))).trans (hGσ86 93 j (show ¬ ((93 = 88 ∧ (j = 17 ∨ j = 18))) from fun h => absurd h.1 (by decide)))) (fun j => ((((hGσ233 94 j (show ¬ ((94 = 88 ∧ (j = 13 ∨ j = 14 ∨ j = 15 ∨ j = 16 ∨ j = 17 ∨ j = 18))) from fun h => absurd h.1 (by decide)))).trans (hGσ183 94 j (show ¬ ((94 = 88 ∧ (j = 13 ∨ j = 14 ∨ j = 15 ∨ j = 16 ∨ j = 17 ∨ j = 18))) from fun h => absurd h.1 (by decide)))).trans (hGσ175 94 j (show ¬ ((94 = 88 ∧ (j = 17 ∨ j = 18))) from fun h => absurd h.1 (by decide)))).trans (hGσ86 94 j (show ¬ ((94 = 88 ∧ (j = 17 ∨ j = 18))) from fun h => absurd h.1 (by decide)))) (by omega)) eσ236 (by clear q7_0 q7_1 q87_0 q87_1 q87_2 q176_0 q176_1 q176_2 q184_0 q184_1 q184_2 q184_3 q234_1 q234_2 q234_3 q234_4; first | exact Or.inr (w92 (by omega) (by omega) (by omega)) | (rcases q234_0 with q | q; exact Or.inl (by omega); (first | exact Or.inr (w92 (by omega) (by omega) (by omega)) | exact Or.inr (w92 (h := 0) (k := 0) (by omega) (by omega) (by omega))))) | exact DQ_F i0 (fun j => (((((tw_ne1 eσ236 (by (first | decide | omega)))).trans (hGσ233 93 j (show ¬ ((93 = 88 ∧ (j = 13 ∨ j = 14 ∨ j = 15 ∨ j = 16 ∨ j = 17 ∨ j = 18))) from fun h => absurd h.1 (by decide)))).trans (hGσ183 93 j (show ¬ ((93 = 88 ∧ (j = 13 ∨ j = 14 ∨ j = 15 ∨ j = 16 ∨ j = 17 ∨ j = 18))) from fun h => absurd h.1 (by decide)))).trans (hGσ175 93 j (show ¬ ((93 = 88 ∧ (j = 17 ∨ j = 18))) from fun h => absurd h.1 (by decide)))).trans (hGσ86 93 j (show ¬ ((93 = 88 ∧ (j = 17 ∨ j = 18))) from fun h => absurd h.1 (by decide)))) (fun j => rfl) (by omega))) (show ¬ σ236 88 17 = 0 ∨ σ 88 17 = 0 from (by clear q7_0 q7_1 q87_1 q87_2 q176_1 q176_2 q184_1 q184_2 q184_3 q234_1 q234_2 q234_3 q234_4; omega)) (show σ 88 13 ≤ σ236 88 13 from (by clear q7_0 q7_1 q87_0 q87_1 q87_2 q176_0 q176_1 q176_2 q184_0 q184_2 q184_3 q234_0 q234_2 q234_3 q234_4; omega)) (show (it wstopM (wstepM (fM σ) h) wmes (aM σ236, z181)).1 = footM (fM σ) (aM σ) from nx) (show (mMu (σ236 88 17) (σ236 88 15) (σ236 88 13)).toNat < N_ from by omega)
set_option maxHeartbeats 4000000 in
set_option maxRecDepth 100000 in
theorem c_X12_readAt {G : tw_G} (hM : tw_isM G) (σ : tw_M) (hI : tw_I σ) (hq0 : DQ σ) (hq1 : FB (fM σ)) : tw_C G yX12_readAt cX12_readAt 4 none 3 [vR 88] σ (q_X12_readAt σ) := by
  refine tw_met [(0, vR 88)] (by decide +kernel) rfl (Nat.le_of_ble_eq_true rfl) ?_
  refine j_aload_n (pc := 0) dX12_readAt_0 rfl rfl ?_
  refine j_iconst (pc := 1) dX12_readAt_1 ?_
  refine j_bipush (pc := 2) dX12_readAt_2 rfl ?_
  refine j_callV (pc := 4) (As := [vI 1, vI 40]) (st := []) (c_X12_isNumber hM 1 (by (first | decide | exact ⟨by omega, by omega⟩)) 40 (by (first | decide | exact ⟨by omega, by omega⟩)) σ hI) mv_X12_133 rfl rfl rfl (a_88 hM) dX12_readAt_4 ⟨Nat.le_of_ble_eq_true rfl, Nat.le_of_ble_eq_true rfl⟩ ⟨Nat.le_refl _, Nat.le_refl _⟩ rfl (Nat.le_of_ble_eq_true rfl) rfl (fun z248 σ249 hz248 => ?_)
  obtain ⟨rfl, hIσ249, hGσ249, q250_0, q250_1⟩ := hz248
  replace q250_0 : ¬ σ249 88 17 = 0 ∨ (σ 88 17 = 0 ∧ (1 : Int) ≤ σ 88 16 ∧ σ 88 16 ≤ (40 : Int)) := q250_0
  replace q250_1 : aM σ249 = numS (1 : Int) (40 : Int) (aM σ) := q250_1
  have hFσ249 : tw_F (fun c j => (c = 88 ∧ (j = 10 ∨ j = 13 ∨ j = 14 ∨ j = 15 ∨ j = 16 ∨ j = 17 ∨ j = 18)) ∨ c = 94 ∨ c = 96) σ σ249 := tw_F_tr (tw_F_rf) hGσ249 (fun c j q => (show (c = 88 ∧ (j = 10 ∨ j = 13 ∨ j = 14 ∨ j = 15 ∨ j = 16 ∨ j = 17 ∨ j = 18)) ∨ c = 94 ∨ c = 96 from by replace q : (c = 88 ∧ (j = 17 ∨ j = 18)) := q; exact (Or.inl ⟨q.1, (q.2.elim (fun z => (Or.inr (Or.inr (Or.inr (Or.inr (Or.inr (Or.inl z))))))) (fun z => (Or.inr (Or.inr (Or.inr (Or.inr (Or.inr (Or.inr z))))))))⟩)))
  refine j_st (st' := []) rfl ?_
  have c1 := q250_1
  have y96 : ∀ j, σ249 96 j = σ 96 j := fun j => hGσ249 96 j (show ¬ ((96 = 88 ∧ (j = 17 ∨ j = 18))) from fun h => absurd h.1 (by decide))
  have y252 : σ249 88 10 = σ 88 10 := (hGσ249 88 10 (show ¬ ((88 = 88 ∧ (10 = 17 ∨ 10 = 18))) from by decide))
  refine j_aload_n (pc := 7) dX12_readAt_7 rfl rfl ?_
  refine j_getI (pc := 8) fl_X12_91 dX12_readAt_8 (a_88 hM) rfl ?_
  have f253 : (0 : Int) ≤ σ249 88 17 ∧ σ249 88 17 ≤ 5 := hIσ249 88 17
  refine j_ifR_ne (pc := 11) (tgt := 21) ⟨by omega, by omega⟩ dX12_readAt_11 rfl (fun h254 => ?_) (fun h254 => ?_)
  · refine j_iconst (pc := 21) dX12_readAt_21 ?_
    refine j_istore_n (pc := 22) (i := 1) (ls' := [(0, vR 88), (1, vI 0)]) [1, 0] dX12_readAt_22 rfl (Nat.le_of_ble_eq_true rfl) rfl rfl ?_
    have v1 := aM_numv (r := 0) c1 ((hGσ249 88 15 (show ¬ ((88 = 88 ∧ (15 = 17 ∨ 15 = 18))) from by decide))) ((hGσ249 88 16 (show ¬ ((88 = 88 ∧ (16 = 17 ∨ 16 = 18))) from by decide))) (by omega)
    refine j_aload_n (pc := 23) dX12_readAt_23 rfl rfl ?_
    refine j_getI (pc := 24) fl_X12_91 dX12_readAt_24 (a_88 hM) rfl ?_
    refine j_ifR_ne (pc := 27) (tgt := 76) ⟨by omega, by omega⟩ dX12_readAt_27 rfl (fun h255 => ?_) (fun h255 => by exfalso; omega)
    have fz : fM σ249 = fM σ := fM_F (hFσ249 88 12 (show ¬ ((88 = 88 ∧ (12 = 10 ∨ 12 = 13 ∨ 12 = 14 ∨ 12 = 15 ∨ 12 = 16 ∨ 12 = 17 ∨ 12 = 18)) ∨ 88 = 94 ∨ 88 = 96) from by decide)) (fun j => hFσ249 98 j (show ¬ ((98 = 88 ∧ (j = 10 ∨ j = 13 ∨ j = 14 ∨ j = 15 ∨ j = 16 ∨ j = 17 ∨ j = 18)) ∨ 98 = 94 ∨ 98 = 96) from fun h => h.elim (fun h => absurd h.1 (by decide)) (fun h => h.elim (fun h => absurd h (by decide)) (fun h => absurd h (by decide)))))
    refine j_aload_n (pc := 76) dX12_readAt_76 rfl rfl ?_
    refine j_callV (pc := 77) (As := []) (st := []) (c_X12_next hM σ249 hIσ249) mv_X12_137 rfl rfl rfl (a_88 hM) dX12_readAt_77 ⟨Nat.le_of_ble_eq_true rfl, Nat.le_of_ble_eq_true rfl⟩ ⟨Nat.le_refl _, Nat.le_refl _⟩ rfl (Nat.le_of_ble_eq_true rfl) rfl (fun z256 σ257 hz256 => ?_)
    obtain ⟨rfl, hIσ257, hGσ257, q258_0, q258_1, q258_2, q258_3⟩ := hz256
    replace q258_0 : ¬ σ257 88 17 = 0 ∨ σ249 88 17 = 0 := q258_0
    replace q258_1 : σ249 88 13 ≤ σ257 88 13 := q258_1
    have y260 : σ249 88 13 = σ 88 13 := (hGσ249 88 13 (show ¬ ((88 = 88 ∧ (13 = 17 ∨ 13 = 18))) from by decide))
    have f261 : (0 : Int) ≤ σ 88 13 ∧ σ 88 13 ≤ 400 := hI 88 13
    replace q258_2 : ¬ σ257 88 17 = 0 ∨ σ257 88 15 = 0 ∨ σ249 88 13 < σ257 88 13 := q258_2
    have y262 : σ249 88 13 = σ 88 13 := (hGσ249 88 13 (show ¬ ((88 = 88 ∧ (13 = 17 ∨ 13 = 18))) from by decide))
    replace q258_3 : aM σ257 = tok (fM σ249) (aM σ249) := q258_3
    have hFσ257 : tw_F (fun c j => (c = 88 ∧ (j = 10 ∨ j = 13 ∨ j = 14 ∨ j = 15 ∨ j = 16 ∨ j = 17 ∨ j = 18)) ∨ c = 94 ∨ c = 96) σ σ257 := tw_F_tr hFσ249 hGσ257 (fun c j q => (show (c = 88 ∧ (j = 10 ∨ j = 13 ∨ j = 14 ∨ j = 15 ∨ j = 16 ∨ j = 17 ∨ j = 18)) ∨ c = 94 ∨ c = 96 from by replace q : (c = 88 ∧ (j = 13 ∨ j = 14 ∨ j = 15 ∨ j = 16 ∨ j = 17 ∨ j = 18)) := q; exact (Or.inl ⟨q.1, (q.2.elim (fun z => (Or.inr (Or.inl z))) (fun z => (z.elim (fun z => (Or.inr (Or.inr (Or.inl z)))) (fun z => (z.elim (fun z => (Or.inr (Or.inr (Or.inr (Or.inl z))))) (fun z => (z.elim (fun z => (Or.inr (Or.inr (Or.inr (Or.inr (Or.inl z)))))) (fun z => (z.elim (fun z => (Or.inr (Or.inr (Or.inr (Or.inr (Or.inr (Or.inl z))))))) (fun z => (Or.inr (Or.inr (Or.inr (Or.inr (Or.inr (Or.inr z))))))))))))))))⟩)))
    refine j_st (st' := []) rfl ?_
    have c5 := q258_3; rw [fz] at c5
    have fz : fM σ257 = fM σ := fM_F (hFσ257 88 12 (show ¬ ((88 = 88 ∧ (12 = 10 ∨ 12 = 13 ∨ 12 = 14 ∨ 12 = 15 ∨ 12 = 16 ∨ 12 = 17 ∨ 12 = 18)) ∨ 88 = 94 ∨ 88 = 96) from by decide)) (fun j => hFσ257 98 j (show ¬ ((98 = 88 ∧ (j = 10 ∨ j = 13 ∨ j = 14 ∨ j = 15 ∨ j = 16 ∨ j = 17 ∨ j = 18)) ∨ 98 = 94 ∨ 98 = 96) from fun h => h.elim (fun h => absurd h.1 (by decide)) (fun h => h.elim (fun h => absurd h (by decide)) (fun h => absurd h (by decide)))))
    refine j_aload_n (pc := 80) dX12_readAt_80 rfl rfl ?_
    refine j_getR (pc := 81) (r := 94) fl_X12_26 dX12_readAt_81 (a_88 hM) rfl ?_
    refine j_iconst (pc := 84) dX12_readAt_84 ?_
    refine j_iload_n (pc := 85) dX12_readAt_85 rfl rfl ?_
    refine j_imul (pc := 86) dX12_readAt_86 ?_
    refine j_topV (show (5 * 0 : Int) = 0 from by decide) ?_
    refine j_iconst (pc := 87) dX12_readAt_87 ?_
    refine j_iadd (pc := 88) dX12_readAt_88 ?_
    refine j_topV (show (0 + 0 : Int) = 0 from by decide) ?_
    refine j_aload_n (pc := 89) dX12_readAt_89 rfl rfl ?_
    refine j_iconst (pc := 90) dX12_readAt_90 ?_
    refine j_bipush (pc := 91) dX12_readAt_91 rfl ?_
    refine j_callV (pc := 93) (As := [vI 0, vI 9]) (st := [vI 0, vR 94]) (c_X12_readNumber hM 0 (by (first | decide | exact ⟨by omega, by omega⟩)) 9 (by (first | decide | exact ⟨by omega, by omega⟩)) σ257 hIσ257) mv_X12_140 rfl rfl rfl (a_88 hM) dX12_readAt_93 ⟨Nat.le_of_ble_eq_true rfl, Nat.le_of_ble_eq_true rfl⟩ ⟨Nat.le_refl _, Nat.le_refl _⟩ rfl (Nat.le_of_ble_eq_true rfl) rfl (fun z263 σ264 hz263 => ?_)
    obtain ⟨r266, rfl, hr266, hIσ264, hGσ264, q265_0, q265_1, q265_2, q265_3, q265_4⟩ := hz263
    replace q265_0 : ¬ σ264 88 17 = 0 ∨ (σ257 88 17 = 0 ∧ (0 : Int) ≤ r266 ∧ r266 ≤ (9 : Int)) := q265_0
    replace q265_1 : σ257 88 13 ≤ σ264 88 13 := q265_1
    replace q265_2 : ¬ σ264 88 17 = 0 ∨ σ264 88 15 = 0 ∨ σ257 88 13 < σ264 88 13 := q265_2
    replace q265_3 : aM σ264 = tok (fM σ257) (numS (0 : Int) (9 : Int) (aM σ257)) := q265_3
    replace q265_4 : (aM σ264) 4 = 0 → r266 = (numS (0 : Int) (9 : Int) (aM σ257)) 3 := q265_4
    have hFσ264 : tw_F (fun c j => (c = 88 ∧ (j = 10 ∨ j = 13 ∨ j = 14 ∨ j = 15 ∨ j = 16 ∨ j = 17 ∨ j = 18)) ∨ c = 94 ∨ c = 96) σ σ264 := tw_F_tr hFσ257 hGσ264 (fun c j q => (show (c = 88 ∧ (j = 10 ∨ j = 13 ∨ j = 14 ∨ j = 15 ∨ j = 16 ∨ j = 17 ∨ j = 18)) ∨ c = 94 ∨ c = 96 from by replace q : (c = 88 ∧ (j = 13 ∨ j = 14 ∨ j = 15 ∨ j = 16 ∨ j = 17 ∨ j = 18)) := q; exact (Or.inl ⟨q.1, (q.2.elim (fun z => (Or.inr (Or.inl z))) (fun z => (z.elim (fun z => (Or.inr (Or.inr (Or.inl z)))) (fun z => (z.elim (fun z => (Or.inr (Or.inr (Or.inr (Or.inl z))))) (fun z => (z.elim (fun z => (Or.inr (Or.inr (Or.inr (Or.inr (Or.inl z)))))) (fun z => (z.elim (fun z => (Or.inr (Or.inr (Or.inr (Or.inr (Or.inr (Or.inl z))))))) (fun z => (Or.inr (Or.inr (Or.inr (Or.inr (Or.inr (Or.inr z))))))))))))))))⟩)))
    refine j_st (st' := [vI r266, vI 0, vR 94]) rfl ?_
    have c6 := q265_3; rw [fz] at c6
    have v6 := q265_4
    refine j_iast (pc := 96) dX12_readAt_96 (a_94 hM) (by omega) (by omega) (by decide) (j_nm (fun σ267 (eσ267 : σ267 = tw_up σ264 94 0 r266) => ?_))
    have hIσ267 : tw_I σ267 := tw_I_up hIσ264 eσ267 (show (-2147483648 : Int) ≤ r266 ∧ r266 ≤ 2147483647 from ⟨by omega, by omega⟩)
    have hFσ267 : tw_F (fun c j => (c = 88 ∧ (j = 10 ∨ j = 13 ∨ j = 14 ∨ j = 15 ∨ j = 16 ∨ j = 17 ∨ j = 18)) ∨ c = 94 ∨ c = 96) σ σ267 := tw_F_up hFσ264 eσ267 (show (94 = 88 ∧ (0 = 10 ∨ 0 = 13 ∨ 0 = 14 ∨ 0 = 15 ∨ 0 = 16 ∨ 0 = 17 ∨ 0 = 18)) ∨ 94 = 94 ∨ 94 = 96 from (Or.inr (Or.inl rfl)))
    have c7 := (aM_wr (i := 300 + (5 * 0 + 0 : Int).toNat) eσ267 (Or.inr (Or.inr (Or.inr (Or.inr (Or.inl ⟨rfl, by omega, by omega⟩)))))).trans ((wr_cg v6).trans (congrArg (fun z => wr z _ _) (show 300 + (5 * 0 + 0 : Int).toNat = ci 300 (5 * 0) from by unfold ci; omega)))
    refine j_iconst (pc := 97) dX12_readAt_97 ?_
    have nx : (it wstopM (wstepM (fM σ) 0) wmes (aM σ267, (0 : Int))).1 = footM (fM σ) (aM σ) := footM_no (f := fM σ) c1 (by rw [aM_4]; omega) c5 c6 c7
    refine j_istore_n (pc := 98) (i := 2) (ls' := [(0, vR 88), (1, vI 0), (2, vI 0)]) [1, 2, 0] dX12_readAt_98 rfl (Nat.le_of_ble_eq_true rfl) rfl rfl ?_
    refine j_ls (ls' := [(0, vR 88), (1, vI 0), (2, vI 0)]) [0, 1, 2] rfl ?_
    have y268 : σ267 88 17 = σ264 88 17 := (tw_ne1 eσ267 (by (first | decide | omega)))
    have f269 : (0 : Int) ≤ σ264 88 17 ∧ σ264 88 17 ≤ 5 := hIσ264 88 17
    have y270 : σ267 88 13 = σ264 88 13 := (tw_ne1 eσ267 (by (first | decide | omega)))
    have f271 : (0 : Int) ≤ σ264 88 13 ∧ σ264 88 13 ≤ 400 := hIσ264 88 13
    have y272 : σ267 88 17 = σ264 88 17 := (tw_ne1 eσ267 (by (first | decide | omega)))
    have y273 : σ267 88 15 = σ264 88 15 := (tw_ne1 eσ267 (by (first | decide | omega)))
    have f274 : (-2147483648 : Int) ≤ σ264 88 15 ∧ σ264 88 15 ≤ 2147483647 := hIσ264 88 15
    have y275 : σ267 88 13 = σ264 88 13 := (tw_ne1 eσ267 (by (first | decide | omega)))
    exact (l_X12_readAt hM σ hI hq0 hq1 (((mMu (σ267 88 17) (σ267 88 15) (σ267 88 13)).toNat) + 1)) 0 (by (first | decide | exact ⟨by omega, by omega⟩)) 0 (by (first | decide | exact ⟨by omega, by omega⟩)) σ267 hIσ267 hFσ267 (show DQ σ267 from DQ_put (DQ_F hq0 (fun j => (((hGσ264 93 j (show ¬ ((93 = 88 ∧ (j = 13 ∨ j = 14 ∨ j = 15 ∨ j = 16 ∨ j = 17 ∨ j = 18))) from fun h => absurd h.1 (by decide)))).trans (hGσ257 93 j (show ¬ ((93 = 88 ∧ (j = 13 ∨ j = 14 ∨ j = 15 ∨ j = 16 ∨ j = 17 ∨ j = 18))) from fun h => absurd h.1 (by decide)))).trans (hGσ249 93 j (show ¬ ((93 = 88 ∧ (j = 17 ∨ j = 18))) from fun h => absurd h.1 (by decide)))) (fun j => (((hGσ264 94 j (show ¬ ((94 = 88 ∧ (j = 13 ∨ j = 14 ∨ j = 15 ∨ j = 16 ∨ j = 17 ∨ j = 18))) from fun h => absurd h.1 (by decide)))).trans (hGσ257 94 j (show ¬ ((94 = 88 ∧ (j = 13 ∨ j = 14 ∨ j = 15 ∨ j = 16 ∨ j = 17 ∨ j = 18))) from fun h => absurd h.1 (by decide)))).trans (hGσ249 94 j (show ¬ ((94 = 88 ∧ (j = 17 ∨ j = 18))) from fun h => absurd h.1 (by decide)))) (by omega)) eσ267 (by clear q250_1 q258_0 q258_1 q258_2 q258_3 q265_1 q265_2 q265_3 q265_4; first | exact Or.inr (w92 (by omega) (by omega) (by omega)) | (rcases q265_0 with q | q; exact Or.inl (by omega); (first | exact Or.inr (w92 (by omega) (by omega) (by omega)) | exact Or.inr (w92 (h := 0) (k := 0) (by omega) (by omega) (by omega)))))) (show ¬ σ267 88 17 = 0 ∨ σ 88 17 = 0 from (by clear q250_1 q258_1 q258_2 q258_3 q265_1 q265_2 q265_3 q265_4; omega)) (show σ 88 13 ≤ σ267 88 13 from (by clear q250_0 q250_1 q258_0 q258_2 q258_3 q265_0 q265_2 q265_3 q265_4; omega)) (show (it wstopM (wstepM (fM σ) (0 : Int)) wmes (aM σ267, (0 : Int))).1 = footM (fM σ) (aM σ) from nx) (Nat.lt_succ_self _)
  · refine j_aload_n (pc := 14) dX12_readAt_14 rfl rfl ?_
    refine j_getI (pc := 15) fl_X12_126 dX12_readAt_15 (a_88 hM) rfl ?_
    refine j_topV (show σ249 88 16 = σ 88 16 from (hGσ249 88 16 (show ¬ ((88 = 88 ∧ (16 = 17 ∨ 16 = 18))) from by decide))) ?_
    have f276 : (-2147483648 : Int) ≤ σ 88 16 ∧ σ 88 16 ≤ 2147483647 := hI 88 16
    have g277 : (0 : Int) ≤ σ 88 16 ∧ σ 88 16 ≤ 40 := (by omega)
    refine j_goto (pc := 18) (tgt := 22) dX12_readAt_18 rfl ?_
    refine j_istore_n (pc := 22) (i := 1) (ls' := [(0, vR 88), (1, vI (σ 88 16))]) [1, 0] dX12_readAt_22 rfl (Nat.le_of_ble_eq_true rfl) rfl rfl ?_
    have v1 := aM_numv (r := (σ 88 16)) c1 ((hGσ249 88 15 (show ¬ ((88 = 88 ∧ (15 = 17 ∨ 15 = 18))) from by decide))) ((hGσ249 88 16 (show ¬ ((88 = 88 ∧ (16 = 17 ∨ 16 = 18))) from by decide))) (by omega)
    refine j_aload_n (pc := 23) dX12_readAt_23 rfl rfl ?_
    refine j_getI (pc := 24) fl_X12_91 dX12_readAt_24 (a_88 hM) rfl ?_
    refine j_ifR_ne (pc := 27) (tgt := 76) ⟨by omega, by omega⟩ dX12_readAt_27 rfl (fun h278 => by exfalso; omega) (fun h278 => ?_)
    refine j_aload_n (pc := 30) dX12_readAt_30 rfl rfl ?_
    refine j_aload_n (pc := 31) dX12_readAt_31 rfl rfl ?_
    refine j_getR (pc := 32) (r := 96) fl_X12_32 dX12_readAt_32 (a_88 hM) rfl ?_
    refine j_iload_n (pc := 35) dX12_readAt_35 rfl rfl ?_
    refine j_zald (pc := 36) dX12_readAt_36 (a_96 hM) (by omega) (by omega) (by decide) ?_
    refine j_topV (show σ249 96 ((σ 88 16).toNat) = σ 96 ((σ 88 16).toNat) from (hGσ249 96 ((σ 88 16).toNat) (show ¬ ((96 = 88 ∧ ((σ 88 16).toNat = 17 ∨ (σ 88 16).toNat = 18))) from fun h => absurd h.1 (by decide)))) ?_
    have f279 : (0 : Int) ≤ σ 96 ((σ 88 16).toNat) ∧ σ 96 ((σ 88 16).toNat) ≤ 1 := hI 96 ((σ 88 16).toNat)
    refine j_ifR_ne (pc := 37) (tgt := 44) ⟨by omega, by omega⟩ dX12_readAt_37 rfl (fun h280 => ?_) (fun h280 => ?_)
    · refine j_iconst (pc := 44) dX12_readAt_44 ?_
      refine j_iconst (pc := 45) dX12_readAt_45 ?_
      refine j_callV (pc := 46) (As := [vI 0, vI 4]) (st := []) (c_X12_needs hM 0 (by (first | decide | exact ⟨by omega, by omega⟩)) 4 (by (first | decide | exact ⟨by omega, by omega⟩)) σ249 hIσ249) mv_X12_129 rfl rfl rfl (a_88 hM) dX12_readAt_46 ⟨Nat.le_of_ble_eq_true rfl, Nat.le_of_ble_eq_true rfl⟩ ⟨Nat.le_refl _, Nat.le_refl _⟩ rfl (Nat.le_of_ble_eq_true rfl) rfl (fun z281 σ282 hz281 => ?_)
      obtain ⟨rfl, hIσ282, hGσ282, q283_0, q283_1, q283_2⟩ := hz281
      replace q283_0 : (¬ (0 : Int) = 0 ∧ σ282 88 17 = σ249 88 17) ∨ ((0 : Int) = 0 ∧ σ249 88 17 = 0 ∧ σ282 88 17 = (4 : Int)) ∨ ((0 : Int) = 0 ∧ ¬ σ249 88 17 = 0 ∧ σ282 88 17 = σ249 88 17) := q283_0
      replace q283_1 : (¬ (0 : Int) = 0 ∧ σ282 88 17 = σ249 88 17 ∧ σ282 88 18 = σ249 88 18) ∨ ((0 : Int) = 0 ∧ σ249 88 17 = 0 ∧ σ282 88 17 = (4 : Int) ∧ σ282 88 18 = σ249 88 14) ∨ ((0 : Int) = 0 ∧ ¬ σ249 88 17 = 0 ∧ σ282 88 17 = σ249 88 17 ∧ σ282 88 18 = σ249 88 18) := q283_1
      have y285 : σ249 88 14 = σ 88 14 := (hGσ249 88 14 (show ¬ ((88 = 88 ∧ (14 = 17 ∨ 14 = 18))) from by decide))
      have f286 : (0 : Int) ≤ σ 88 14 ∧ σ 88 14 ≤ 400 := hI 88 14
      replace q283_2 : aM σ282 = need (decide (¬ (0 : Int) = 0)) (4 : Int) (aM σ249) := q283_2
      have hFσ282 : tw_F (fun c j => (c = 88 ∧ (j = 10 ∨ j = 13 ∨ j = 14 ∨ j = 15 ∨ j = 16 ∨ j = 17 ∨ j = 18)) ∨ c = 94 ∨ c = 96) σ σ282 := tw_F_tr hFσ249 hGσ282 (fun c j q => (show (c = 88 ∧ (j = 10 ∨ j = 13 ∨ j = 14 ∨ j = 15 ∨ j = 16 ∨ j = 17 ∨ j = 18)) ∨ c = 94 ∨ c = 96 from by replace q : (c = 88 ∧ (j = 17 ∨ j = 18)) := q; exact (Or.inl ⟨q.1, (q.2.elim (fun z => (Or.inr (Or.inr (Or.inr (Or.inr (Or.inr (Or.inl z))))))) (fun z => (Or.inr (Or.inr (Or.inr (Or.inr (Or.inr (Or.inr z))))))))⟩)))
      refine j_st (st' := []) rfl ?_
      have c2 : aM σ282 = need (decide ((aM σ249) (ci 600 ((aM σ249) 3)) = 0)) 4 (aM σ249) := (q283_2).trans (need_cg (fun h4 => by rw [aM_4] at h4; first | exact (decide_eq_true (by omega)).trans (mtoldF_t h4 v1 ⟨by omega, by omega⟩ (by rw [y96]; omega)).symm | exact (decide_eq_false (by omega)).trans (mtoldF_f h4 v1 ⟨by omega, by omega⟩ (by rw [y96]; omega)).symm))
      have y287 : σ282 88 10 = σ 88 10 := ((hGσ282 88 10 (show ¬ ((88 = 88 ∧ (10 = 17 ∨ 10 = 18))) from by decide))).trans (hGσ249 88 10 (show ¬ ((88 = 88 ∧ (10 = 17 ∨ 10 = 18))) from by decide))
      have hx4 : (aM σ282) 4 = 0 → (aM σ282) 7 = σ282 88 10 := fun h4 => by rw [aM_4] at h4; rw [aM_d h4 (by decide), drM_7]
      refine j_aload_n (pc := 49) dX12_readAt_49 rfl rfl ?_
      refine j_getR (pc := 50) (r := 96) fl_X12_32 dX12_readAt_50 (a_88 hM) rfl ?_
      refine j_iload_n (pc := 53) dX12_readAt_53 rfl rfl ?_
      refine j_iconst (pc := 54) dX12_readAt_54 ?_
      refine j_zast (pc := 55) (by omega) dX12_readAt_55 (a_96 hM) (by omega) (by omega) (by decide) (j_nm (fun σ288 (eσ288 : σ288 = tw_up σ282 96 ((σ 88 16).toNat) 1) => ?_))
      have hIσ288 : tw_I σ288 := tw_I_up hIσ282 eσ288 (show (0 : Int) ≤ 1 ∧ 1 ≤ 1 from by decide)
      have hFσ288 : tw_F (fun c j => (c = 88 ∧ (j = 10 ∨ j = 13 ∨ j = 14 ∨ j = 15 ∨ j = 16 ∨ j = 17 ∨ j = 18)) ∨ c = 94 ∨ c = 96) σ σ288 := tw_F_up hFσ282 eσ288 (show (96 = 88 ∧ ((σ 88 16).toNat = 10 ∨ (σ 88 16).toNat = 13 ∨ (σ 88 16).toNat = 14 ∨ (σ 88 16).toNat = 15 ∨ (σ 88 16).toNat = 16 ∨ (σ 88 16).toNat = 17 ∨ (σ 88 16).toNat = 18)) ∨ 96 = 94 ∨ 96 = 96 from (Or.inr (Or.inr rfl)))
      have c3 := aM_wr (i := 600 + (σ 88 16).toNat) eσ288 (Or.inr (Or.inr (Or.inr (Or.inr (Or.inr (Or.inl ⟨rfl, by omega, by omega⟩))))))
      refine j_aload_n (pc := 56) dX12_readAt_56 rfl rfl ?_
      refine j_iload_n (pc := 57) dX12_readAt_57 rfl rfl ?_
      refine j_aload_n (pc := 58) dX12_readAt_58 rfl rfl ?_
      refine j_getI (pc := 59) fl_X12_75 dX12_readAt_59 (a_88 hM) rfl ?_
      refine j_topV (show σ288 88 10 = σ 88 10 from (((tw_ne1 eσ288 (by (first | decide | omega)))).trans (hGσ282 88 10 (show ¬ ((88 = 88 ∧ (10 = 17 ∨ 10 = 18))) from by decide))).trans (hGσ249 88 10 (show ¬ ((88 = 88 ∧ (10 = 17 ∨ 10 = 18))) from by decide))) ?_
      have f289 : (0 : Int) ≤ σ 88 10 ∧ σ 88 10 ≤ 40 := hI 88 10
      refine j_icmpR_le (pc := 62) (tgt := 69) ⟨by omega, by omega⟩ ⟨by omega, by omega⟩ dX12_readAt_62 rfl (fun h290 => ?_) (fun h290 => ?_)
      · refine j_aload_n (pc := 69) dX12_readAt_69 rfl rfl ?_
        refine j_getI (pc := 70) fl_X12_75 dX12_readAt_70 (a_88 hM) rfl ?_
        refine j_topV (show σ288 88 10 = σ 88 10 from (((tw_ne1 eσ288 (by (first | decide | omega)))).trans (hGσ282 88 10 (show ¬ ((88 = 88 ∧ (10 = 17 ∨ 10 = 18))) from by decide))).trans (hGσ249 88 10 (show ¬ ((88 = 88 ∧ (10 = 17 ∨ 10 = 18))) from by decide))) ?_
        have hv : (aM σ282) 4 = 0 → (σ 88 10) = (if (aM σ282) 7 < (σ 88 16) then (σ 88 16) else (aM σ282) 7) := fun h4 => by (have h5 := hx4 h4); rw [h5]; split <;> omega
        refine j_putI (pc := 73) fl_X12_75 fp_X12_10 dX12_readAt_73 (a_88 hM) rfl (j_nm (fun σ291 (eσ291 : σ291 = tw_up σ288 88 10 (σ 88 10)) => ?_))
        have hIσ291 : tw_I σ291 := tw_I_up hIσ288 eσ291 (show (0 : Int) ≤ σ 88 10 ∧ σ 88 10 ≤ 40 from ⟨by omega, by omega⟩)
        have hFσ291 : tw_F (fun c j => (c = 88 ∧ (j = 10 ∨ j = 13 ∨ j = 14 ∨ j = 15 ∨ j = 16 ∨ j = 17 ∨ j = 18)) ∨ c = 94 ∨ c = 96) σ σ291 := tw_F_up hFσ288 eσ291 (show (88 = 88 ∧ (10 = 10 ∨ 10 = 13 ∨ 10 = 14 ∨ 10 = 15 ∨ 10 = 16 ∨ 10 = 17 ∨ 10 = 18)) ∨ 88 = 94 ∨ 88 = 96 from (Or.inl ⟨rfl, (Or.inl rfl)⟩))
        have c4 := aM_wr (i := 7) eσ291 (Or.inr (Or.inl ⟨rfl, by omega, by omega⟩))
        have fz : fM σ291 = fM σ := fM_F (hFσ291 88 12 (show ¬ ((88 = 88 ∧ (12 = 10 ∨ 12 = 13 ∨ 12 = 14 ∨ 12 = 15 ∨ 12 = 16 ∨ 12 = 17 ∨ 12 = 18)) ∨ 88 = 94 ∨ 88 = 96) from by decide)) (fun j => hFσ291 98 j (show ¬ ((98 = 88 ∧ (j = 10 ∨ j = 13 ∨ j = 14 ∨ j = 15 ∨ j = 16 ∨ j = 17 ∨ j = 18)) ∨ 98 = 94 ∨ 98 = 96) from fun h => h.elim (fun h => absurd h.1 (by decide)) (fun h => h.elim (fun h => absurd h (by decide)) (fun h => absurd h (by decide)))))
        refine j_aload_n (pc := 76) dX12_readAt_76 rfl rfl ?_
        refine j_callV (pc := 77) (As := []) (st := []) (c_X12_next hM σ291 hIσ291) mv_X12_137 rfl rfl rfl (a_88 hM) dX12_readAt_77 ⟨Nat.le_of_ble_eq_true rfl, Nat.le_of_ble_eq_true rfl⟩ ⟨Nat.le_refl _, Nat.le_refl _⟩ rfl (Nat.le_of_ble_eq_true rfl) rfl (fun z292 σ293 hz292 => ?_)
        obtain ⟨rfl, hIσ293, hGσ293, q294_0, q294_1, q294_2, q294_3⟩ := hz292
        replace q294_0 : ¬ σ293 88 17 = 0 ∨ σ291 88 17 = 0 := q294_0
        have y296 : σ291 88 17 = σ282 88 17 := ((tw_ne1 eσ291 (by (first | decide | omega)))).trans (tw_ne1 eσ288 (by (first | decide | omega)))
        have f297 : (0 : Int) ≤ σ282 88 17 ∧ σ282 88 17 ≤ 5 := hIσ282 88 17
        replace q294_1 : σ291 88 13 ≤ σ293 88 13 := q294_1
        have y298 : σ291 88 13 = σ 88 13 := ((((tw_ne1 eσ291 (by (first | decide | omega)))).trans (tw_ne1 eσ288 (by (first | decide | omega)))).trans (hGσ282 88 13 (show ¬ ((88 = 88 ∧ (13 = 17 ∨ 13 = 18))) from by decide))).trans (hGσ249 88 13 (show ¬ ((88 = 88 ∧ (13 = 17 ∨ 13 = 18))) from by decide))
        have f299 : (0 : Int) ≤ σ 88 13 ∧ σ 88 13 ≤ 400 := hI 88 13
        replace q294_2 : ¬ σ293 88 17 = 0 ∨ σ293 88 15 = 0 ∨ σ291 88 13 < σ293 88 13 := q294_2
        have y300 : σ291 88 13 = σ 88 13 := ((((tw_ne1 eσ291 (by (first | decide | omega)))).trans (tw_ne1 eσ288 (by (first | decide | omega)))).trans (hGσ282 88 13 (show ¬ ((88 = 88 ∧ (13 = 17 ∨ 13 = 18))) from by decide))).trans (hGσ249 88 13 (show ¬ ((88 = 88 ∧ (13 = 17 ∨ 13 = 18))) from by decide))
        replace q294_3 : aM σ293 = tok (fM σ291) (aM σ291) := q294_3
        have hFσ293 : tw_F (fun c j => (c = 88 ∧ (j = 10 ∨ j = 13 ∨ j = 14 ∨ j = 15 ∨ j = 16 ∨ j = 17 ∨ j = 18)) ∨ c = 94 ∨ c = 96) σ σ293 := tw_F_tr hFσ291 hGσ293 (fun c j q => (show (c = 88 ∧ (j = 10 ∨ j = 13 ∨ j = 14 ∨ j = 15 ∨ j = 16 ∨ j = 17 ∨ j = 18)) ∨ c = 94 ∨ c = 96 from by replace q : (c = 88 ∧ (j = 13 ∨ j = 14 ∨ j = 15 ∨ j = 16 ∨ j = 17 ∨ j = 18)) := q; exact (Or.inl ⟨q.1, (q.2.elim (fun z => (Or.inr (Or.inl z))) (fun z => (z.elim (fun z => (Or.inr (Or.inr (Or.inl z)))) (fun z => (z.elim (fun z => (Or.inr (Or.inr (Or.inr (Or.inl z))))) (fun z => (z.elim (fun z => (Or.inr (Or.inr (Or.inr (Or.inr (Or.inl z)))))) (fun z => (z.elim (fun z => (Or.inr (Or.inr (Or.inr (Or.inr (Or.inr (Or.inl z))))))) (fun z => (Or.inr (Or.inr (Or.inr (Or.inr (Or.inr (Or.inr z))))))))))))))))⟩)))
        refine j_st (st' := []) rfl ?_
        have c5 := q294_3; rw [fz] at c5
        have fz : fM σ293 = fM σ := fM_F (hFσ293 88 12 (show ¬ ((88 = 88 ∧ (12 = 10 ∨ 12 = 13 ∨ 12 = 14 ∨ 12 = 15 ∨ 12 = 16 ∨ 12 = 17 ∨ 12 = 18)) ∨ 88 = 94 ∨ 88 = 96) from by decide)) (fun j => hFσ293 98 j (show ¬ ((98 = 88 ∧ (j = 10 ∨ j = 13 ∨ j = 14 ∨ j = 15 ∨ j = 16 ∨ j = 17 ∨ j = 18)) ∨ 98 = 94 ∨ 98 = 96) from fun h => h.elim (fun h => absurd h.1 (by decide)) (fun h => h.elim (fun h => absurd h (by decide)) (fun h => absurd h (by decide)))))
        refine j_aload_n (pc := 80) dX12_readAt_80 rfl rfl ?_
        refine j_getR (pc := 81) (r := 94) fl_X12_26 dX12_readAt_81 (a_88 hM) rfl ?_
        refine j_iconst (pc := 84) dX12_readAt_84 ?_
        refine j_iload_n (pc := 85) dX12_readAt_85 rfl rfl ?_
        refine j_imul (pc := 86) dX12_readAt_86 ?_
        refine j_iconst (pc := 87) dX12_readAt_87 ?_
        refine j_iadd (pc := 88) dX12_readAt_88 ?_
        refine j_aload_n (pc := 89) dX12_readAt_89 rfl rfl ?_
        refine j_iconst (pc := 90) dX12_readAt_90 ?_
        refine j_bipush (pc := 91) dX12_readAt_91 rfl ?_
        refine j_callV (pc := 93) (As := [vI 0, vI 9]) (st := [vI ((5 * (σ 88 16)) + 0), vR 94]) (c_X12_readNumber hM 0 (by (first | decide | exact ⟨by omega, by omega⟩)) 9 (by (first | decide | exact ⟨by omega, by omega⟩)) σ293 hIσ293) mv_X12_140 rfl rfl rfl (a_88 hM) dX12_readAt_93 ⟨Nat.le_of_ble_eq_true rfl, Nat.le_of_ble_eq_true rfl⟩ ⟨Nat.le_refl _, Nat.le_refl _⟩ rfl (Nat.le_of_ble_eq_true rfl) rfl (fun z301 σ302 hz301 => ?_)
        obtain ⟨r304, rfl, hr304, hIσ302, hGσ302, q303_0, q303_1, q303_2, q303_3, q303_4⟩ := hz301
        replace q303_0 : ¬ σ302 88 17 = 0 ∨ (σ293 88 17 = 0 ∧ (0 : Int) ≤ r304 ∧ r304 ≤ (9 : Int)) := q303_0
        replace q303_1 : σ293 88 13 ≤ σ302 88 13 := q303_1
        replace q303_2 : ¬ σ302 88 17 = 0 ∨ σ302 88 15 = 0 ∨ σ293 88 13 < σ302 88 13 := q303_2
        replace q303_3 : aM σ302 = tok (fM σ293) (numS (0 : Int) (9 : Int) (aM σ293)) := q303_3
        replace q303_4 : (aM σ302) 4 = 0 → r304 = (numS (0 : Int) (9 : Int) (aM σ293)) 3 := q303_4
        have hFσ302 : tw_F (fun c j => (c = 88 ∧ (j = 10 ∨ j = 13 ∨ j = 14 ∨ j = 15 ∨ j = 16 ∨ j = 17 ∨ j = 18)) ∨ c = 94 ∨ c = 96) σ σ302 := tw_F_tr hFσ293 hGσ302 (fun c j q => (show (c = 88 ∧ (j = 10 ∨ j = 13 ∨ j = 14 ∨ j = 15 ∨ j = 16 ∨ j = 17 ∨ j = 18)) ∨ c = 94 ∨ c = 96 from by replace q : (c = 88 ∧ (j = 13 ∨ j = 14 ∨ j = 15 ∨ j = 16 ∨ j = 17 ∨ j = 18)) := q; exact (Or.inl ⟨q.1, (q.2.elim (fun z => (Or.inr (Or.inl z))) (fun z => (z.elim (fun z => (Or.inr (Or.inr (Or.inl z)))) (fun z => (z.elim (fun z => (Or.inr (Or.inr (Or.inr (Or.inl z))))) (fun z => (z.elim (fun z => (Or.inr (Or.inr (Or.inr (Or.inr (Or.inl z)))))) (fun z => (z.elim (fun z => (Or.inr (Or.inr (Or.inr (Or.inr (Or.inr (Or.inl z))))))) (fun z => (Or.inr (Or.inr (Or.inr (Or.inr (Or.inr (Or.inr z))))))))))))))))⟩)))
        refine j_st (st' := [vI r304, vI ((5 * (σ 88 16)) + 0), vR 94]) rfl ?_
        have c6 := q303_3; rw [fz] at c6
        have v6 := q303_4
        refine j_iast (pc := 96) dX12_readAt_96 (a_94 hM) (by omega) (by omega) (by decide) (j_nm (fun σ305 (eσ305 : σ305 = tw_up σ302 94 (((5 * (σ 88 16)) + 0).toNat) r304) => ?_))
        have hIσ305 : tw_I σ305 := tw_I_up hIσ302 eσ305 (show (-2147483648 : Int) ≤ r304 ∧ r304 ≤ 2147483647 from ⟨by omega, by omega⟩)
        have hFσ305 : tw_F (fun c j => (c = 88 ∧ (j = 10 ∨ j = 13 ∨ j = 14 ∨ j = 15 ∨ j = 16 ∨ j = 17 ∨ j = 18)) ∨ c = 94 ∨ c = 96) σ σ305 := tw_F_up hFσ302 eσ305 (show (94 = 88 ∧ (((5 * (σ 88 16)) + 0).toNat = 10 ∨ ((5 * (σ 88 16)) + 0).toNat = 13 ∨ ((5 * (σ 88 16)) + 0).toNat = 14 ∨ ((5 * (σ 88 16)) + 0).toNat = 15 ∨ ((5 * (σ 88 16)) + 0).toNat = 16 ∨ ((5 * (σ 88 16)) + 0).toNat = 17 ∨ ((5 * (σ 88 16)) + 0).toNat = 18)) ∨ 94 = 94 ∨ 94 = 96 from (Or.inr (Or.inl rfl)))
        have c7 := (aM_wr (i := 300 + (5 * (σ 88 16) + 0 : Int).toNat) eσ305 (Or.inr (Or.inr (Or.inr (Or.inr (Or.inl ⟨rfl, by omega, by omega⟩)))))).trans ((wr_cg v6).trans (congrArg (fun z => wr z _ _) (show 300 + (5 * (σ 88 16) + 0 : Int).toNat = ci 300 (5 * (σ 88 16)) from by unfold ci; omega)))
        refine j_iconst (pc := 97) dX12_readAt_97 ?_
        have nx : (it wstopM (wstepM (fM σ) (σ 88 16)) wmes (aM σ305, (0 : Int))).1 = footM (fM σ) (aM σ) := footM_of (f := fM σ) c1 c2 v1 c3 (ci_n).symm c4 rfl hv c5 c6 c7 rfl
        refine j_istore_n (pc := 98) (i := 2) (ls' := [(0, vR 88), (1, vI (σ 88 16)), (2, vI 0)]) [1, 2, 0] dX12_readAt_98 rfl (Nat.le_of_ble_eq_true rfl) rfl rfl ?_
        refine j_ls (ls' := [(0, vR 88), (1, vI (σ 88 16)), (2, vI 0)]) [0, 1, 2] rfl ?_
        have y306 : σ305 88 17 = σ302 88 17 := (tw_ne1 eσ305 (by (first | decide | omega)))
        have f307 : (0 : Int) ≤ σ302 88 17 ∧ σ302 88 17 ≤ 5 := hIσ302 88 17
        have y308 : σ305 88 13 = σ302 88 13 := (tw_ne1 eσ305 (by (first | decide | omega)))
        have f309 : (0 : Int) ≤ σ302 88 13 ∧ σ302 88 13 ≤ 400 := hIσ302 88 13
        have y310 : σ305 88 17 = σ302 88 17 := (tw_ne1 eσ305 (by (first | decide | omega)))
        have y311 : σ305 88 15 = σ302 88 15 := (tw_ne1 eσ305 (by (first | decide | omega)))
        have f312 : (-2147483648 : Int) ≤ σ302 88 15 ∧ σ302 88 15 ≤ 2147483647 := hIσ302 88 15
        have y313 : σ305 88 13 = σ302 88 13 := (tw_ne1 eσ305 (by (first | decide | omega)))
        exact (l_X12_readAt hM σ hI hq0 hq1 (((mMu (σ305 88 17) (σ305 88 15) (σ305 88 13)).toNat) + 1)) (σ 88 16) ⟨by omega, by omega⟩ 0 (by (first | decide | exact ⟨by omega, by omega⟩)) σ305 hIσ305 hFσ305 (show DQ σ305 from DQ_put (DQ_F hq0 (fun j => ((((((hGσ302 93 j (show ¬ ((93 = 88 ∧ (j = 13 ∨ j = 14 ∨ j = 15 ∨ j = 16 ∨ j = 17 ∨ j = 18))) from fun h => absurd h.1 (by decide)))).trans (hGσ293 93 j (show ¬ ((93 = 88 ∧ (j = 13 ∨ j = 14 ∨ j = 15 ∨ j = 16 ∨ j = 17 ∨ j = 18))) from fun h => absurd h.1 (by decide)))).trans (tw_ne1 eσ291 (by (first | decide | omega)))).trans (tw_ne1 eσ288 (by (first | decide | omega)))).trans (hGσ282 93 j (show ¬ ((93 = 88 ∧ (j = 17 ∨ j = 18))) from fun h => absurd h.1 (by decide)))).trans (hGσ249 93 j (show ¬ ((93 = 88 ∧ (j = 17 ∨ j = 18))) from fun h => absurd h.1 (by decide)))) (fun j => ((((((hGσ302 94 j (show ¬ ((94 = 88 ∧ (j = 13 ∨ j = 14 ∨ j = 15 ∨ j = 16 ∨ j = 17 ∨ j = 18))) from fun h => absurd h.1 (by decide)))).trans (hGσ293 94 j (show ¬ ((94 = 88 ∧ (j = 13 ∨ j = 14 ∨ j = 15 ∨ j = 16 ∨ j = 17 ∨ j = 18))) from fun h => absurd h.1 (by decide)))).trans (tw_ne1 eσ291 (by (first | decide | omega)))).trans (tw_ne1 eσ288 (by (first | decide | omega)))).trans (hGσ282 94 j (show ¬ ((94 = 88 ∧ (j = 17 ∨ j = 18))) from fun h => absurd h.1 (by decide)))).trans (hGσ249 94 j (show ¬ ((94 = 88 ∧ (j = 17 ∨ j = 18))) from fun h => absurd h.1 (by decide)))) (by omega)) eσ305 (by clear q250_1 q283_0 q283_1 q283_2 q294_0 q294_1 q294_2 q294_3 q303_1 q303_2 q303_3 q303_4; first | exact Or.inr (w92 (by omega) (by omega) (by omega)) | (rcases q303_0 with q | q; exact Or.inl (by omega); (first | exact Or.inr (w92 (by omega) (by omega) (by omega)) | exact Or.inr (w92 (h := 0) (k := 0) (by omega) (by omega) (by omega)))))) (show ¬ σ305 88 17 = 0 ∨ σ 88 17 = 0 from (by clear q250_1 q283_1 q283_2 q294_1 q294_2 q294_3 q303_1 q303_2 q303_3 q303_4; omega)) (show σ 88 13 ≤ σ305 88 13 from (by clear q250_0 q250_1 q283_0 q283_1 q283_2 q294_0 q294_2 q294_3 q303_0 q303_2 q303_3 q303_4; omega)) (show (it wstopM (wstepM (fM σ) (σ 88 16)) wmes (aM σ305, (0 : Int))).1 = footM (fM σ) (aM σ) from nx) (Nat.lt_succ_self _)
      · refine j_iload_n (pc := 65) dX12_readAt_65 rfl rfl ?_
        refine j_goto (pc := 66) (tgt := 73) dX12_readAt_66 rfl ?_
        have hv : (aM σ282) 4 = 0 → (σ 88 16) = (if (aM σ282) 7 < (σ 88 16) then (σ 88 16) else (aM σ282) 7) := fun h4 => by (have h5 := hx4 h4); rw [h5]; split <;> omega
        refine j_putI (pc := 73) fl_X12_75 fp_X12_10 dX12_readAt_73 (a_88 hM) rfl (j_nm (fun σ314 (eσ314 : σ314 = tw_up σ288 88 10 (σ 88 16)) => ?_))
        have hIσ314 : tw_I σ314 := tw_I_up hIσ288 eσ314 (show (0 : Int) ≤ σ 88 16 ∧ σ 88 16 ≤ 40 from ⟨by omega, by omega⟩)
        have hFσ314 : tw_F (fun c j => (c = 88 ∧ (j = 10 ∨ j = 13 ∨ j = 14 ∨ j = 15 ∨ j = 16 ∨ j = 17 ∨ j = 18)) ∨ c = 94 ∨ c = 96) σ σ314 := tw_F_up hFσ288 eσ314 (show (88 = 88 ∧ (10 = 10 ∨ 10 = 13 ∨ 10 = 14 ∨ 10 = 15 ∨ 10 = 16 ∨ 10 = 17 ∨ 10 = 18)) ∨ 88 = 94 ∨ 88 = 96 from (Or.inl ⟨rfl, (Or.inl rfl)⟩))
        have c4 := aM_wr (i := 7) eσ314 (Or.inr (Or.inl ⟨rfl, by omega, by omega⟩))
        have fz : fM σ314 = fM σ := fM_F (hFσ314 88 12 (show ¬ ((88 = 88 ∧ (12 = 10 ∨ 12 = 13 ∨ 12 = 14 ∨ 12 = 15 ∨ 12 = 16 ∨ 12 = 17 ∨ 12 = 18)) ∨ 88 = 94 ∨ 88 = 96) from by decide)) (fun j => hFσ314 98 j (show ¬ ((98 = 88 ∧ (j = 10 ∨ j = 13 ∨ j = 14 ∨ j = 15 ∨ j = 16 ∨ j = 17 ∨ j = 18)) ∨ 98 = 94 ∨ 98 = 96) from fun h => h.elim (fun h => absurd h.1 (by decide)) (fun h => h.elim (fun h => absurd h (by decide)) (fun h => absurd h (by decide)))))
        refine j_aload_n (pc := 76) dX12_readAt_76 rfl rfl ?_
        refine j_callV (pc := 77) (As := []) (st := []) (c_X12_next hM σ314 hIσ314) mv_X12_137 rfl rfl rfl (a_88 hM) dX12_readAt_77 ⟨Nat.le_of_ble_eq_true rfl, Nat.le_of_ble_eq_true rfl⟩ ⟨Nat.le_refl _, Nat.le_refl _⟩ rfl (Nat.le_of_ble_eq_true rfl) rfl (fun z315 σ316 hz315 => ?_)
        obtain ⟨rfl, hIσ316, hGσ316, q317_0, q317_1, q317_2, q317_3⟩ := hz315
        replace q317_0 : ¬ σ316 88 17 = 0 ∨ σ314 88 17 = 0 := q317_0
        have y319 : σ314 88 17 = σ282 88 17 := ((tw_ne1 eσ314 (by (first | decide | omega)))).trans (tw_ne1 eσ288 (by (first | decide | omega)))
        have f320 : (0 : Int) ≤ σ282 88 17 ∧ σ282 88 17 ≤ 5 := hIσ282 88 17
        replace q317_1 : σ314 88 13 ≤ σ316 88 13 := q317_1
        have y321 : σ314 88 13 = σ 88 13 := ((((tw_ne1 eσ314 (by (first | decide | omega)))).trans (tw_ne1 eσ288 (by (first | decide | omega)))).trans (hGσ282 88 13 (show ¬ ((88 = 88 ∧ (13 = 17 ∨ 13 = 18))) from by decide))).trans (hGσ249 88 13 (show ¬ ((88 = 88 ∧ (13 = 17 ∨ 13 = 18))) from by decide))
        have f322 : (0 : Int) ≤ σ 88 13 ∧ σ 88 13 ≤ 400 := hI 88 13
        replace q317_2 : ¬ σ316 88 17 = 0 ∨ σ316 88 15 = 0 ∨ σ314 88 13 < σ316 88 13 := q317_2
        have y323 : σ314 88 13 = σ 88 13 := ((((tw_ne1 eσ314 (by (first | decide | omega)))).trans (tw_ne1 eσ288 (by (first | decide | omega)))).trans (hGσ282 88 13 (show ¬ ((88 = 88 ∧ (13 = 17 ∨ 13 = 18))) from by decide))).trans (hGσ249 88 13 (show ¬ ((88 = 88 ∧ (13 = 17 ∨ 13 = 18))) from by decide))
        replace q317_3 : aM σ316 = tok (fM σ314) (aM σ314) := q317_3
        have hFσ316 : tw_F (fun c j => (c = 88 ∧ (j = 10 ∨ j = 13 ∨ j = 14 ∨ j = 15 ∨ j = 16 ∨ j = 17 ∨ j = 18)) ∨ c = 94 ∨ c = 96) σ σ316 := tw_F_tr hFσ314 hGσ316 (fun c j q => (show (c = 88 ∧ (j = 10 ∨ j = 13 ∨ j = 14 ∨ j = 15 ∨ j = 16 ∨ j = 17 ∨ j = 18)) ∨ c = 94 ∨ c = 96 from by replace q : (c = 88 ∧ (j = 13 ∨ j = 14 ∨ j = 15 ∨ j = 16 ∨ j = 17 ∨ j = 18)) := q; exact (Or.inl ⟨q.1, (q.2.elim (fun z => (Or.inr (Or.inl z))) (fun z => (z.elim (fun z => (Or.inr (Or.inr (Or.inl z)))) (fun z => (z.elim (fun z => (Or.inr (Or.inr (Or.inr (Or.inl z))))) (fun z => (z.elim (fun z => (Or.inr (Or.inr (Or.inr (Or.inr (Or.inl z)))))) (fun z => (z.elim (fun z => (Or.inr (Or.inr (Or.inr (Or.inr (Or.inr (Or.inl z))))))) (fun z => (Or.inr (Or.inr (Or.inr (Or.inr (Or.inr (Or.inr z))))))))))))))))⟩)))
        refine j_st (st' := []) rfl ?_
        have c5 := q317_3; rw [fz] at c5
        have fz : fM σ316 = fM σ := fM_F (hFσ316 88 12 (show ¬ ((88 = 88 ∧ (12 = 10 ∨ 12 = 13 ∨ 12 = 14 ∨ 12 = 15 ∨ 12 = 16 ∨ 12 = 17 ∨ 12 = 18)) ∨ 88 = 94 ∨ 88 = 96) from by decide)) (fun j => hFσ316 98 j (show ¬ ((98 = 88 ∧ (j = 10 ∨ j = 13 ∨ j = 14 ∨ j = 15 ∨ j = 16 ∨ j = 17 ∨ j = 18)) ∨ 98 = 94 ∨ 98 = 96) from fun h => h.elim (fun h => absurd h.1 (by decide)) (fun h => h.elim (fun h => absurd h (by decide)) (fun h => absurd h (by decide)))))
        refine j_aload_n (pc := 80) dX12_readAt_80 rfl rfl ?_
        refine j_getR (pc := 81) (r := 94) fl_X12_26 dX12_readAt_81 (a_88 hM) rfl ?_
        refine j_iconst (pc := 84) dX12_readAt_84 ?_
        refine j_iload_n (pc := 85) dX12_readAt_85 rfl rfl ?_
        refine j_imul (pc := 86) dX12_readAt_86 ?_
        refine j_iconst (pc := 87) dX12_readAt_87 ?_
        refine j_iadd (pc := 88) dX12_readAt_88 ?_
        refine j_aload_n (pc := 89) dX12_readAt_89 rfl rfl ?_
        refine j_iconst (pc := 90) dX12_readAt_90 ?_
        refine j_bipush (pc := 91) dX12_readAt_91 rfl ?_
        refine j_callV (pc := 93) (As := [vI 0, vI 9]) (st := [vI ((5 * (σ 88 16)) + 0), vR 94]) (c_X12_readNumber hM 0 (by (first | decide | exact ⟨by omega, by omega⟩)) 9 (by (first | decide | exact ⟨by omega, by omega⟩)) σ316 hIσ316) mv_X12_140 rfl rfl rfl (a_88 hM) dX12_readAt_93 ⟨Nat.le_of_ble_eq_true rfl, Nat.le_of_ble_eq_true rfl⟩ ⟨Nat.le_refl _, Nat.le_refl _⟩ rfl (Nat.le_of_ble_eq_true rfl) rfl (fun z324 σ325 hz324 => ?_)
        obtain ⟨r327, rfl, hr327, hIσ325, hGσ325, q326_0, q326_1, q326_2, q326_3, q326_4⟩ := hz324
        replace q326_0 : ¬ σ325 88 17 = 0 ∨ (σ316 88 17 = 0 ∧ (0 : Int) ≤ r327 ∧ r327 ≤ (9 : Int)) := q326_0
        replace q326_1 : σ316 88 13 ≤ σ325 88 13 := q326_1
        replace q326_2 : ¬ σ325 88 17 = 0 ∨ σ325 88 15 = 0 ∨ σ316 88 13 < σ325 88 13 := q326_2
        replace q326_3 : aM σ325 = tok (fM σ316) (numS (0 : Int) (9 : Int) (aM σ316)) := q326_3
        replace q326_4 : (aM σ325) 4 = 0 → r327 = (numS (0 : Int) (9 : Int) (aM σ316)) 3 := q326_4
        have hFσ325 : tw_F (fun c j => (c = 88 ∧ (j = 10 ∨ j = 13 ∨ j = 14 ∨ j = 15 ∨ j = 16 ∨ j = 17 ∨ j = 18)) ∨ c = 94 ∨ c = 96) σ σ325 := tw_F_tr hFσ316 hGσ325 (fun c j q => (show (c = 88 ∧ (j = 10 ∨ j = 13 ∨ j = 14 ∨ j = 15 ∨ j = 16 ∨ j = 17 ∨ j = 18)) ∨ c = 94 ∨ c = 96 from by replace q : (c = 88 ∧ (j = 13 ∨ j = 14 ∨ j = 15 ∨ j = 16 ∨ j = 17 ∨ j = 18)) := q; exact (Or.inl ⟨q.1, (q.2.elim (fun z => (Or.inr (Or.inl z))) (fun z => (z.elim (fun z => (Or.inr (Or.inr (Or.inl z)))) (fun z => (z.elim (fun z => (Or.inr (Or.inr (Or.inr (Or.inl z))))) (fun z => (z.elim (fun z => (Or.inr (Or.inr (Or.inr (Or.inr (Or.inl z)))))) (fun z => (z.elim (fun z => (Or.inr (Or.inr (Or.inr (Or.inr (Or.inr (Or.inl z))))))) (fun z => (Or.inr (Or.inr (Or.inr (Or.inr (Or.inr (Or.inr z))))))))))))))))⟩)))
        refine j_st (st' := [vI r327, vI ((5 * (σ 88 16)) + 0), vR 94]) rfl ?_
        have c6 := q326_3; rw [fz] at c6
        have v6 := q326_4
        refine j_iast (pc := 96) dX12_readAt_96 (a_94 hM) (by omega) (by omega) (by decide) (j_nm (fun σ328 (eσ328 : σ328 = tw_up σ325 94 (((5 * (σ 88 16)) + 0).toNat) r327) => ?_))
        have hIσ328 : tw_I σ328 := tw_I_up hIσ325 eσ328 (show (-2147483648 : Int) ≤ r327 ∧ r327 ≤ 2147483647 from ⟨by omega, by omega⟩)
        have hFσ328 : tw_F (fun c j => (c = 88 ∧ (j = 10 ∨ j = 13 ∨ j = 14 ∨ j = 15 ∨ j = 16 ∨ j = 17 ∨ j = 18)) ∨ c = 94 ∨ c = 96) σ σ328 := tw_F_up hFσ325 eσ328 (show (94 = 88 ∧ (((5 * (σ 88 16)) + 0).toNat = 10 ∨ ((5 * (σ 88 16)) + 0).toNat = 13 ∨ ((5 * (σ 88 16)) + 0).toNat = 14 ∨ ((5 * (σ 88 16)) + 0).toNat = 15 ∨ ((5 * (σ 88 16)) + 0).toNat = 16 ∨ ((5 * (σ 88 16)) + 0).toNat = 17 ∨ ((5 * (σ 88 16)) + 0).toNat = 18)) ∨ 94 = 94 ∨ 94 = 96 from (Or.inr (Or.inl rfl)))
        have c7 := (aM_wr (i := 300 + (5 * (σ 88 16) + 0 : Int).toNat) eσ328 (Or.inr (Or.inr (Or.inr (Or.inr (Or.inl ⟨rfl, by omega, by omega⟩)))))).trans ((wr_cg v6).trans (congrArg (fun z => wr z _ _) (show 300 + (5 * (σ 88 16) + 0 : Int).toNat = ci 300 (5 * (σ 88 16)) from by unfold ci; omega)))
        refine j_iconst (pc := 97) dX12_readAt_97 ?_
        have nx : (it wstopM (wstepM (fM σ) (σ 88 16)) wmes (aM σ328, (0 : Int))).1 = footM (fM σ) (aM σ) := footM_of (f := fM σ) c1 c2 v1 c3 (ci_n).symm c4 rfl hv c5 c6 c7 rfl
        refine j_istore_n (pc := 98) (i := 2) (ls' := [(0, vR 88), (1, vI (σ 88 16)), (2, vI 0)]) [1, 2, 0] dX12_readAt_98 rfl (Nat.le_of_ble_eq_true rfl) rfl rfl ?_
        refine j_ls (ls' := [(0, vR 88), (1, vI (σ 88 16)), (2, vI 0)]) [0, 1, 2] rfl ?_
        have y329 : σ328 88 17 = σ325 88 17 := (tw_ne1 eσ328 (by (first | decide | omega)))
        have f330 : (0 : Int) ≤ σ325 88 17 ∧ σ325 88 17 ≤ 5 := hIσ325 88 17
        have y331 : σ328 88 13 = σ325 88 13 := (tw_ne1 eσ328 (by (first | decide | omega)))
        have f332 : (0 : Int) ≤ σ325 88 13 ∧ σ325 88 13 ≤ 400 := hIσ325 88 13
        have y333 : σ328 88 17 = σ325 88 17 := (tw_ne1 eσ328 (by (first | decide | omega)))
        have y334 : σ328 88 15 = σ325 88 15 := (tw_ne1 eσ328 (by (first | decide | omega)))
        have f335 : (-2147483648 : Int) ≤ σ325 88 15 ∧ σ325 88 15 ≤ 2147483647 := hIσ325 88 15
        have y336 : σ328 88 13 = σ325 88 13 := (tw_ne1 eσ328 (by (first | decide | omega)))
        exact (l_X12_readAt hM σ hI hq0 hq1 (((mMu (σ328 88 17) (σ328 88 15) (σ328 88 13)).toNat) + 1)) (σ 88 16) ⟨by omega, by omega⟩ 0 (by (first | decide | exact ⟨by omega, by omega⟩)) σ328 hIσ328 hFσ328 (show DQ σ328 from DQ_put (DQ_F hq0 (fun j => ((((((hGσ325 93 j (show ¬ ((93 = 88 ∧ (j = 13 ∨ j = 14 ∨ j = 15 ∨ j = 16 ∨ j = 17 ∨ j = 18))) from fun h => absurd h.1 (by decide)))).trans (hGσ316 93 j (show ¬ ((93 = 88 ∧ (j = 13 ∨ j = 14 ∨ j = 15 ∨ j = 16 ∨ j = 17 ∨ j = 18))) from fun h => absurd h.1 (by decide)))).trans (tw_ne1 eσ314 (by (first | decide | omega)))).trans (tw_ne1 eσ288 (by (first | decide | omega)))).trans (hGσ282 93 j (show ¬ ((93 = 88 ∧ (j = 17 ∨ j = 18))) from fun h => absurd h.1 (by decide)))).trans (hGσ249 93 j (show ¬ ((93 = 88 ∧ (j = 17 ∨ j = 18))) from fun h => absurd h.1 (by decide)))) (fun j => ((((((hGσ325 94 j (show ¬ ((94 = 88 ∧ (j = 13 ∨ j = 14 ∨ j = 15 ∨ j = 16 ∨ j = 17 ∨ j = 18))) from fun h => absurd h.1 (by decide)))).trans (hGσ316 94 j (show ¬ ((94 = 88 ∧ (j = 13 ∨ j = 14 ∨ j = 15 ∨ j = 16 ∨ j = 17 ∨ j = 18))) from fun h => absurd h.1 (by decide)))).trans (tw_ne1 eσ314 (by (first | decide | omega)))).trans (tw_ne1 eσ288 (by (first | decide | omega)))).trans (hGσ282 94 j (show ¬ ((94 = 88 ∧ (j = 17 ∨ j = 18))) from fun h => absurd h.1 (by decide)))).trans (hGσ249 94 j (show ¬ ((94 = 88 ∧ (j = 17 ∨ j = 18))) from fun h => absurd h.1 (by decide)))) (by omega)) eσ328 (by clear q250_1 q283_0 q283_1 q283_2 q317_0 q317_1 q317_2 q317_3 q326_1 q326_2 q326_3 q326_4; first | exact Or.inr (w92 (by omega) (by omega) (by omega)) | (rcases q326_0 with q | q; exact Or.inl (by omega); (first | exact Or.inr (w92 (by omega) (by omega) (by omega)) | exact Or.inr (w92 (h := 0) (k := 0) (by omega) (by omega) (by omega)))))) (show ¬ σ328 88 17 = 0 ∨ σ 88 17 = 0 from (by clear q250_1 q283_1 q283_2 q317_1 q317_2 q317_3 q326_1 q326_2 q326_3 q326_4; omega)) (show σ 88 13 ≤ σ328 88 13 from (by clear q250_0 q250_1 q283_0 q283_1 q283_2 q317_0 q317_2 q317_3 q326_0 q326_2 q326_3 q326_4; omega)) (show (it wstopM (wstepM (fM σ) (σ 88 16)) wmes (aM σ328, (0 : Int))).1 = footM (fM σ) (aM σ) from nx) (Nat.lt_succ_self _)
    · refine j_iconst (pc := 40) dX12_readAt_40 ?_
      refine j_goto (pc := 41) (tgt := 45) dX12_readAt_41 rfl ?_
      refine j_iconst (pc := 45) dX12_readAt_45 ?_
      refine j_callV (pc := 46) (As := [vI 1, vI 4]) (st := []) (c_X12_needs hM 1 (by (first | decide | exact ⟨by omega, by omega⟩)) 4 (by (first | decide | exact ⟨by omega, by omega⟩)) σ249 hIσ249) mv_X12_129 rfl rfl rfl (a_88 hM) dX12_readAt_46 ⟨Nat.le_of_ble_eq_true rfl, Nat.le_of_ble_eq_true rfl⟩ ⟨Nat.le_refl _, Nat.le_refl _⟩ rfl (Nat.le_of_ble_eq_true rfl) rfl (fun z337 σ338 hz337 => ?_)
      obtain ⟨rfl, hIσ338, hGσ338, q339_0, q339_1, q339_2⟩ := hz337
      replace q339_0 : (¬ (1 : Int) = 0 ∧ σ338 88 17 = σ249 88 17) ∨ ((1 : Int) = 0 ∧ σ249 88 17 = 0 ∧ σ338 88 17 = (4 : Int)) ∨ ((1 : Int) = 0 ∧ ¬ σ249 88 17 = 0 ∧ σ338 88 17 = σ249 88 17) := q339_0
      replace q339_1 : (¬ (1 : Int) = 0 ∧ σ338 88 17 = σ249 88 17 ∧ σ338 88 18 = σ249 88 18) ∨ ((1 : Int) = 0 ∧ σ249 88 17 = 0 ∧ σ338 88 17 = (4 : Int) ∧ σ338 88 18 = σ249 88 14) ∨ ((1 : Int) = 0 ∧ ¬ σ249 88 17 = 0 ∧ σ338 88 17 = σ249 88 17 ∧ σ338 88 18 = σ249 88 18) := q339_1
      have y341 : σ249 88 14 = σ 88 14 := (hGσ249 88 14 (show ¬ ((88 = 88 ∧ (14 = 17 ∨ 14 = 18))) from by decide))
      have f342 : (0 : Int) ≤ σ 88 14 ∧ σ 88 14 ≤ 400 := hI 88 14
      replace q339_2 : aM σ338 = need (decide (¬ (1 : Int) = 0)) (4 : Int) (aM σ249) := q339_2
      have hFσ338 : tw_F (fun c j => (c = 88 ∧ (j = 10 ∨ j = 13 ∨ j = 14 ∨ j = 15 ∨ j = 16 ∨ j = 17 ∨ j = 18)) ∨ c = 94 ∨ c = 96) σ σ338 := tw_F_tr hFσ249 hGσ338 (fun c j q => (show (c = 88 ∧ (j = 10 ∨ j = 13 ∨ j = 14 ∨ j = 15 ∨ j = 16 ∨ j = 17 ∨ j = 18)) ∨ c = 94 ∨ c = 96 from by replace q : (c = 88 ∧ (j = 17 ∨ j = 18)) := q; exact (Or.inl ⟨q.1, (q.2.elim (fun z => (Or.inr (Or.inr (Or.inr (Or.inr (Or.inr (Or.inl z))))))) (fun z => (Or.inr (Or.inr (Or.inr (Or.inr (Or.inr (Or.inr z))))))))⟩)))
      refine j_st (st' := []) rfl ?_
      have c2 : aM σ338 = need (decide ((aM σ249) (ci 600 ((aM σ249) 3)) = 0)) 4 (aM σ249) := (q339_2).trans (need_cg (fun h4 => by rw [aM_4] at h4; first | exact (decide_eq_true (by omega)).trans (mtoldF_t h4 v1 ⟨by omega, by omega⟩ (by rw [y96]; omega)).symm | exact (decide_eq_false (by omega)).trans (mtoldF_f h4 v1 ⟨by omega, by omega⟩ (by rw [y96]; omega)).symm))
      have y343 : σ338 88 10 = σ 88 10 := ((hGσ338 88 10 (show ¬ ((88 = 88 ∧ (10 = 17 ∨ 10 = 18))) from by decide))).trans (hGσ249 88 10 (show ¬ ((88 = 88 ∧ (10 = 17 ∨ 10 = 18))) from by decide))
      have hx4 : (aM σ338) 4 = 0 → (aM σ338) 7 = σ338 88 10 := fun h4 => by rw [aM_4] at h4; rw [aM_d h4 (by decide), drM_7]
      refine j_aload_n (pc := 49) dX12_readAt_49 rfl rfl ?_
      refine j_getR (pc := 50) (r := 96) fl_X12_32 dX12_readAt_50 (a_88 hM) rfl ?_
      refine j_iload_n (pc := 53) dX12_readAt_53 rfl rfl ?_
      refine j_iconst (pc := 54) dX12_readAt_54 ?_
      refine j_zast (pc := 55) (by omega) dX12_readAt_55 (a_96 hM) (by omega) (by omega) (by decide) (j_nm (fun σ344 (eσ344 : σ344 = tw_up σ338 96 ((σ 88 16).toNat) 1) => ?_))
      have hIσ344 : tw_I σ344 := tw_I_up hIσ338 eσ344 (show (0 : Int) ≤ 1 ∧ 1 ≤ 1 from by decide)
      have hFσ344 : tw_F (fun c j => (c = 88 ∧ (j = 10 ∨ j = 13 ∨ j = 14 ∨ j = 15 ∨ j = 16 ∨ j = 17 ∨ j = 18)) ∨ c = 94 ∨ c = 96) σ σ344 := tw_F_up hFσ338 eσ344 (show (96 = 88 ∧ ((σ 88 16).toNat = 10 ∨ (σ 88 16).toNat = 13 ∨ (σ 88 16).toNat = 14 ∨ (σ 88 16).toNat = 15 ∨ (σ 88 16).toNat = 16 ∨ (σ 88 16).toNat = 17 ∨ (σ 88 16).toNat = 18)) ∨ 96 = 94 ∨ 96 = 96 from (Or.inr (Or.inr rfl)))
      have c3 := aM_wr (i := 600 + (σ 88 16).toNat) eσ344 (Or.inr (Or.inr (Or.inr (Or.inr (Or.inr (Or.inl ⟨rfl, by omega, by omega⟩))))))
      refine j_aload_n (pc := 56) dX12_readAt_56 rfl rfl ?_
      refine j_iload_n (pc := 57) dX12_readAt_57 rfl rfl ?_
      refine j_aload_n (pc := 58) dX12_readAt_58 rfl rfl ?_
      refine j_getI (pc := 59) fl_X12_75 dX12_readAt_59 (a_88 hM) rfl ?_
      refine j_topV (show σ344 88 10 = σ 88 10 from (((tw_ne1 eσ344 (by (first | decide | omega)))).trans (hGσ338 88 10 (show ¬ ((88 = 88 ∧ (10 = 17 ∨ 10 = 18))) from by decide))).trans (hGσ249 88 10 (show ¬ ((88 = 88 ∧ (10 = 17 ∨ 10 = 18))) from by decide))) ?_
      have f345 : (0 : Int) ≤ σ 88 10 ∧ σ 88 10 ≤ 40 := hI 88 10
      refine j_icmpR_le (pc := 62) (tgt := 69) ⟨by omega, by omega⟩ ⟨by omega, by omega⟩ dX12_readAt_62 rfl (fun h346 => ?_) (fun h346 => ?_)
      · refine j_aload_n (pc := 69) dX12_readAt_69 rfl rfl ?_
        refine j_getI (pc := 70) fl_X12_75 dX12_readAt_70 (a_88 hM) rfl ?_
        refine j_topV (show σ344 88 10 = σ 88 10 from (((tw_ne1 eσ344 (by (first | decide | omega)))).trans (hGσ338 88 10 (show ¬ ((88 = 88 ∧ (10 = 17 ∨ 10 = 18))) from by decide))).trans (hGσ249 88 10 (show ¬ ((88 = 88 ∧ (10 = 17 ∨ 10 = 18))) from by decide))) ?_
        have hv : (aM σ338) 4 = 0 → (σ 88 10) = (if (aM σ338) 7 < (σ 88 16) then (σ 88 16) else (aM σ338) 7) := fun h4 => by (have h5 := hx4 h4); rw [h5]; split <;> omega
        refine j_putI (pc := 73) fl_X12_75 fp_X12_10 dX12_readAt_73 (a_88 hM) rfl (j_nm (fun σ347 (eσ347 : σ347 = tw_up σ344 88 10 (σ 88 10)) => ?_))
        have hIσ347 : tw_I σ347 := tw_I_up hIσ344 eσ347 (show (0 : Int) ≤ σ 88 10 ∧ σ 88 10 ≤ 40 from ⟨by omega, by omega⟩)
        have hFσ347 : tw_F (fun c j => (c = 88 ∧ (j = 10 ∨ j = 13 ∨ j = 14 ∨ j = 15 ∨ j = 16 ∨ j = 17 ∨ j = 18)) ∨ c = 94 ∨ c = 96) σ σ347 := tw_F_up hFσ344 eσ347 (show (88 = 88 ∧ (10 = 10 ∨ 10 = 13 ∨ 10 = 14 ∨ 10 = 15 ∨ 10 = 16 ∨ 10 = 17 ∨ 10 = 18)) ∨ 88 = 94 ∨ 88 = 96 from (Or.inl ⟨rfl, (Or.inl rfl)⟩))
        have c4 := aM_wr (i := 7) eσ347 (Or.inr (Or.inl ⟨rfl, by omega, by omega⟩))
        have fz : fM σ347 = fM σ := fM_F (hFσ347 88 12 (show ¬ ((88 = 88 ∧ (12 = 10 ∨ 12 = 13 ∨ 12 = 14 ∨ 12 = 15 ∨ 12 = 16 ∨ 12 = 17 ∨ 12 = 18)) ∨ 88 = 94 ∨ 88 = 96) from by decide)) (fun j => hFσ347 98 j (show ¬ ((98 = 88 ∧ (j = 10 ∨ j = 13 ∨ j = 14 ∨ j = 15 ∨ j = 16 ∨ j = 17 ∨ j = 18)) ∨ 98 = 94 ∨ 98 = 96) from fun h => h.elim (fun h => absurd h.1 (by decide)) (fun h => h.elim (fun h => absurd h (by decide)) (fun h => absurd h (by decide)))))
        refine j_aload_n (pc := 76) dX12_readAt_76 rfl rfl ?_
        refine j_callV (pc := 77) (As := []) (st := []) (c_X12_next hM σ347 hIσ347) mv_X12_137 rfl rfl rfl (a_88 hM) dX12_readAt_77 ⟨Nat.le_of_ble_eq_true rfl, Nat.le_of_ble_eq_true rfl⟩ ⟨Nat.le_refl _, Nat.le_refl _⟩ rfl (Nat.le_of_ble_eq_true rfl) rfl (fun z348 σ349 hz348 => ?_)
        obtain ⟨rfl, hIσ349, hGσ349, q350_0, q350_1, q350_2, q350_3⟩ := hz348
        replace q350_0 : ¬ σ349 88 17 = 0 ∨ σ347 88 17 = 0 := q350_0
        have y352 : σ347 88 17 = σ338 88 17 := ((tw_ne1 eσ347 (by (first | decide | omega)))).trans (tw_ne1 eσ344 (by (first | decide | omega)))
        have f353 : (0 : Int) ≤ σ338 88 17 ∧ σ338 88 17 ≤ 5 := hIσ338 88 17
        replace q350_1 : σ347 88 13 ≤ σ349 88 13 := q350_1
        have y354 : σ347 88 13 = σ 88 13 := ((((tw_ne1 eσ347 (by (first | decide | omega)))).trans (tw_ne1 eσ344 (by (first | decide | omega)))).trans (hGσ338 88 13 (show ¬ ((88 = 88 ∧ (13 = 17 ∨ 13 = 18))) from by decide))).trans (hGσ249 88 13 (show ¬ ((88 = 88 ∧ (13 = 17 ∨ 13 = 18))) from by decide))
        have f355 : (0 : Int) ≤ σ 88 13 ∧ σ 88 13 ≤ 400 := hI 88 13
        replace q350_2 : ¬ σ349 88 17 = 0 ∨ σ349 88 15 = 0 ∨ σ347 88 13 < σ349 88 13 := q350_2
        have y356 : σ347 88 13 = σ 88 13 := ((((tw_ne1 eσ347 (by (first | decide | omega)))).trans (tw_ne1 eσ344 (by (first | decide | omega)))).trans (hGσ338 88 13 (show ¬ ((88 = 88 ∧ (13 = 17 ∨ 13 = 18))) from by decide))).trans (hGσ249 88 13 (show ¬ ((88 = 88 ∧ (13 = 17 ∨ 13 = 18))) from by decide))
        replace q350_3 : aM σ349 = tok (fM σ347) (aM σ347) := q350_3
        have hFσ349 : tw_F (fun c j => (c = 88 ∧ (j = 10 ∨ j = 13 ∨ j = 14 ∨ j = 15 ∨ j = 16 ∨ j = 17 ∨ j = 18)) ∨ c = 94 ∨ c = 96) σ σ349 := tw_F_tr hFσ347 hGσ349 (fun c j q => (show (c = 88 ∧ (j = 10 ∨ j = 13 ∨ j = 14 ∨ j = 15 ∨ j = 16 ∨ j = 17 ∨ j = 18)) ∨ c = 94 ∨ c = 96 from by replace q : (c = 88 ∧ (j = 13 ∨ j = 14 ∨ j = 15 ∨ j = 16 ∨ j = 17 ∨ j = 18)) := q; exact (Or.inl ⟨q.1, (q.2.elim (fun z => (Or.inr (Or.inl z))) (fun z => (z.elim (fun z => (Or.inr (Or.inr (Or.inl z)))) (fun z => (z.elim (fun z => (Or.inr (Or.inr (Or.inr (Or.inl z))))) (fun z => (z.elim (fun z => (Or.inr (Or.inr (Or.inr (Or.inr (Or.inl z)))))) (fun z => (z.elim (fun z => (Or.inr (Or.inr (Or.inr (Or.inr (Or.inr (Or.inl z))))))) (fun z => (Or.inr (Or.inr (Or.inr (Or.inr (Or.inr (Or.inr z))))))))))))))))⟩)))
        refine j_st (st' := []) rfl ?_
        have c5 := q350_3; rw [fz] at c5
        have fz : fM σ349 = fM σ := fM_F (hFσ349 88 12 (show ¬ ((88 = 88 ∧ (12 = 10 ∨ 12 = 13 ∨ 12 = 14 ∨ 12 = 15 ∨ 12 = 16 ∨ 12 = 17 ∨ 12 = 18)) ∨ 88 = 94 ∨ 88 = 96) from by decide)) (fun j => hFσ349 98 j (show ¬ ((98 = 88 ∧ (j = 10 ∨ j = 13 ∨ j = 14 ∨ j = 15 ∨ j = 16 ∨ j = 17 ∨ j = 18)) ∨ 98 = 94 ∨ 98 = 96) from fun h => h.elim (fun h => absurd h.1 (by decide)) (fun h => h.elim (fun h => absurd h (by decide)) (fun h => absurd h (by decide)))))
        refine j_aload_n (pc := 80) dX12_readAt_80 rfl rfl ?_
        refine j_getR (pc := 81) (r := 94) fl_X12_26 dX12_readAt_81 (a_88 hM) rfl ?_
        refine j_iconst (pc := 84) dX12_readAt_84 ?_
        refine j_iload_n (pc := 85) dX12_readAt_85 rfl rfl ?_
        refine j_imul (pc := 86) dX12_readAt_86 ?_
        refine j_iconst (pc := 87) dX12_readAt_87 ?_
        refine j_iadd (pc := 88) dX12_readAt_88 ?_
        refine j_aload_n (pc := 89) dX12_readAt_89 rfl rfl ?_
        refine j_iconst (pc := 90) dX12_readAt_90 ?_
        refine j_bipush (pc := 91) dX12_readAt_91 rfl ?_
        refine j_callV (pc := 93) (As := [vI 0, vI 9]) (st := [vI ((5 * (σ 88 16)) + 0), vR 94]) (c_X12_readNumber hM 0 (by (first | decide | exact ⟨by omega, by omega⟩)) 9 (by (first | decide | exact ⟨by omega, by omega⟩)) σ349 hIσ349) mv_X12_140 rfl rfl rfl (a_88 hM) dX12_readAt_93 ⟨Nat.le_of_ble_eq_true rfl, Nat.le_of_ble_eq_true rfl⟩ ⟨Nat.le_refl _, Nat.le_refl _⟩ rfl (Nat.le_of_ble_eq_true rfl) rfl (fun z357 σ358 hz357 => ?_)
        obtain ⟨r360, rfl, hr360, hIσ358, hGσ358, q359_0, q359_1, q359_2, q359_3, q359_4⟩ := hz357
        replace q359_0 : ¬ σ358 88 17 = 0 ∨ (σ349 88 17 = 0 ∧ (0 : Int) ≤ r360 ∧ r360 ≤ (9 : Int)) := q359_0
        replace q359_1 : σ349 88 13 ≤ σ358 88 13 := q359_1
        replace q359_2 : ¬ σ358 88 17 = 0 ∨ σ358 88 15 = 0 ∨ σ349 88 13 < σ358 88 13 := q359_2
        replace q359_3 : aM σ358 = tok (fM σ349) (numS (0 : Int) (9 : Int) (aM σ349)) := q359_3
        replace q359_4 : (aM σ358) 4 = 0 → r360 = (numS (0 : Int) (9 : Int) (aM σ349)) 3 := q359_4
        have hFσ358 : tw_F (fun c j => (c = 88 ∧ (j = 10 ∨ j = 13 ∨ j = 14 ∨ j = 15 ∨ j = 16 ∨ j = 17 ∨ j = 18)) ∨ c = 94 ∨ c = 96) σ σ358 := tw_F_tr hFσ349 hGσ358 (fun c j q => (show (c = 88 ∧ (j = 10 ∨ j = 13 ∨ j = 14 ∨ j = 15 ∨ j = 16 ∨ j = 17 ∨ j = 18)) ∨ c = 94 ∨ c = 96 from by replace q : (c = 88 ∧ (j = 13 ∨ j = 14 ∨ j = 15 ∨ j = 16 ∨ j = 17 ∨ j = 18)) := q; exact (Or.inl ⟨q.1, (q.2.elim (fun z => (Or.inr (Or.inl z))) (fun z => (z.elim (fun z => (Or.inr (Or.inr (Or.inl z)))) (fun z => (z.elim (fun z => (Or.inr (Or.inr (Or.inr (Or.inl z))))) (fun z => (z.elim (fun z => (Or.inr (Or.inr (Or.inr (Or.inr (Or.inl z)))))) (fun z => (z.elim (fun z => (Or.inr (Or.inr (Or.inr (Or.inr (Or.inr (Or.inl z))))))) (fun z => (Or.inr (Or.inr (Or.inr (Or.inr (Or.inr (Or.inr z))))))))))))))))⟩)))
        refine j_st (st' := [vI r360, vI ((5 * (σ 88 16)) + 0), vR 94]) rfl ?_
        have c6 := q359_3; rw [fz] at c6
        have v6 := q359_4
        refine j_iast (pc := 96) dX12_readAt_96 (a_94 hM) (by omega) (by omega) (by decide) (j_nm (fun σ361 (eσ361 : σ361 = tw_up σ358 94 (((5 * (σ 88 16)) + 0).toNat) r360) => ?_))
        have hIσ361 : tw_I σ361 := tw_I_up hIσ358 eσ361 (show (-2147483648 : Int) ≤ r360 ∧ r360 ≤ 2147483647 from ⟨by omega, by omega⟩)
        have hFσ361 : tw_F (fun c j => (c = 88 ∧ (j = 10 ∨ j = 13 ∨ j = 14 ∨ j = 15 ∨ j = 16 ∨ j = 17 ∨ j = 18)) ∨ c = 94 ∨ c = 96) σ σ361 := tw_F_up hFσ358 eσ361 (show (94 = 88 ∧ (((5 * (σ 88 16)) + 0).toNat = 10 ∨ ((5 * (σ 88 16)) + 0).toNat = 13 ∨ ((5 * (σ 88 16)) + 0).toNat = 14 ∨ ((5 * (σ 88 16)) + 0).toNat = 15 ∨ ((5 * (σ 88 16)) + 0).toNat = 16 ∨ ((5 * (σ 88 16)) + 0).toNat = 17 ∨ ((5 * (σ 88 16)) + 0).toNat = 18)) ∨ 94 = 94 ∨ 94 = 96 from (Or.inr (Or.inl rfl)))
        have c7 := (aM_wr (i := 300 + (5 * (σ 88 16) + 0 : Int).toNat) eσ361 (Or.inr (Or.inr (Or.inr (Or.inr (Or.inl ⟨rfl, by omega, by omega⟩)))))).trans ((wr_cg v6).trans (congrArg (fun z => wr z _ _) (show 300 + (5 * (σ 88 16) + 0 : Int).toNat = ci 300 (5 * (σ 88 16)) from by unfold ci; omega)))
        refine j_iconst (pc := 97) dX12_readAt_97 ?_
        have nx : (it wstopM (wstepM (fM σ) (σ 88 16)) wmes (aM σ361, (0 : Int))).1 = footM (fM σ) (aM σ) := footM_of (f := fM σ) c1 c2 v1 c3 (ci_n).symm c4 rfl hv c5 c6 c7 rfl
        refine j_istore_n (pc := 98) (i := 2) (ls' := [(0, vR 88), (1, vI (σ 88 16)), (2, vI 0)]) [1, 2, 0] dX12_readAt_98 rfl (Nat.le_of_ble_eq_true rfl) rfl rfl ?_
        refine j_ls (ls' := [(0, vR 88), (1, vI (σ 88 16)), (2, vI 0)]) [0, 1, 2] rfl ?_
        have y362 : σ361 88 17 = σ358 88 17 := (tw_ne1 eσ361 (by (first | decide | omega)))
        have f363 : (0 : Int) ≤ σ358 88 17 ∧ σ358 88 17 ≤ 5 := hIσ358 88 17
        have y364 : σ361 88 13 = σ358 88 13 := (tw_ne1 eσ361 (by (first | decide | omega)))
        have f365 : (0 : Int) ≤ σ358 88 13 ∧ σ358 88 13 ≤ 400 := hIσ358 88 13
        have y366 : σ361 88 17 = σ358 88 17 := (tw_ne1 eσ361 (by (first | decide | omega)))
        have y367 : σ361 88 15 = σ358 88 15 := (tw_ne1 eσ361 (by (first | decide | omega)))
        have f368 : (-2147483648 : Int) ≤ σ358 88 15 ∧ σ358 88 15 ≤ 2147483647 := hIσ358 88 15
        have y369 : σ361 88 13 = σ358 88 13 := (tw_ne1 eσ361 (by (first | decide | omega)))
        exact (l_X12_readAt hM σ hI hq0 hq1 (((mMu (σ361 88 17) (σ361 88 15) (σ361 88 13)).toNat) + 1)) (σ 88 16) ⟨by omega, by omega⟩ 0 (by (first | decide | exact ⟨by omega, by omega⟩)) σ361 hIσ361 hFσ361 (show DQ σ361 from DQ_put (DQ_F hq0 (fun j => ((((((hGσ358 93 j (show ¬ ((93 = 88 ∧ (j = 13 ∨ j = 14 ∨ j = 15 ∨ j = 16 ∨ j = 17 ∨ j = 18))) from fun h => absurd h.1 (by decide)))).trans (hGσ349 93 j (show ¬ ((93 = 88 ∧ (j = 13 ∨ j = 14 ∨ j = 15 ∨ j = 16 ∨ j = 17 ∨ j = 18))) from fun h => absurd h.1 (by decide)))).trans (tw_ne1 eσ347 (by (first | decide | omega)))).trans (tw_ne1 eσ344 (by (first | decide | omega)))).trans (hGσ338 93 j (show ¬ ((93 = 88 ∧ (j = 17 ∨ j = 18))) from fun h => absurd h.1 (by decide)))).trans (hGσ249 93 j (show ¬ ((93 = 88 ∧ (j = 17 ∨ j = 18))) from fun h => absurd h.1 (by decide)))) (fun j => ((((((hGσ358 94 j (show ¬ ((94 = 88 ∧ (j = 13 ∨ j = 14 ∨ j = 15 ∨ j = 16 ∨ j = 17 ∨ j = 18))) from fun h => absurd h.1 (by decide)))).trans (hGσ349 94 j (show ¬ ((94 = 88 ∧ (j = 13 ∨ j = 14 ∨ j = 15 ∨ j = 16 ∨ j = 17 ∨ j = 18))) from fun h => absurd h.1 (by decide)))).trans (tw_ne1 eσ347 (by (first | decide | omega)))).trans (tw_ne1 eσ344 (by (first | decide | omega)))).trans (hGσ338 94 j (show ¬ ((94 = 88 ∧ (j = 17 ∨ j = 18))) from fun h => absurd h.1 (by decide)))).trans (hGσ249 94 j (show ¬ ((94 = 88 ∧ (j = 17 ∨ j = 18))) from fun h => absurd h.1 (by decide)))) (by omega)) eσ361 (by clear q250_1 q339_0 q339_1 q339_2 q350_0 q350_1 q350_2 q350_3 q359_1 q359_2 q359_3 q359_4; first | exact Or.inr (w92 (by omega) (by omega) (by omega)) | (rcases q359_0 with q | q; exact Or.inl (by omega); (first | exact Or.inr (w92 (by omega) (by omega) (by omega)) | exact Or.inr (w92 (h := 0) (k := 0) (by omega) (by omega) (by omega)))))) (show ¬ σ361 88 17 = 0 ∨ σ 88 17 = 0 from (by clear q250_1 q339_1 q339_2 q350_1 q350_2 q350_3 q359_1 q359_2 q359_3 q359_4; omega)) (show σ 88 13 ≤ σ361 88 13 from (by clear q250_0 q250_1 q339_0 q339_1 q339_2 q350_0 q350_2 q350_3 q359_0 q359_2 q359_3 q359_4; omega)) (show (it wstopM (wstepM (fM σ) (σ 88 16)) wmes (aM σ361, (0 : Int))).1 = footM (fM σ) (aM σ) from nx) (Nat.lt_succ_self _)
      · refine j_iload_n (pc := 65) dX12_readAt_65 rfl rfl ?_
        refine j_goto (pc := 66) (tgt := 73) dX12_readAt_66 rfl ?_
        have hv : (aM σ338) 4 = 0 → (σ 88 16) = (if (aM σ338) 7 < (σ 88 16) then (σ 88 16) else (aM σ338) 7) := fun h4 => by (have h5 := hx4 h4); rw [h5]; split <;> omega
        refine j_putI (pc := 73) fl_X12_75 fp_X12_10 dX12_readAt_73 (a_88 hM) rfl (j_nm (fun σ370 (eσ370 : σ370 = tw_up σ344 88 10 (σ 88 16)) => ?_))
        have hIσ370 : tw_I σ370 := tw_I_up hIσ344 eσ370 (show (0 : Int) ≤ σ 88 16 ∧ σ 88 16 ≤ 40 from ⟨by omega, by omega⟩)
        have hFσ370 : tw_F (fun c j => (c = 88 ∧ (j = 10 ∨ j = 13 ∨ j = 14 ∨ j = 15 ∨ j = 16 ∨ j = 17 ∨ j = 18)) ∨ c = 94 ∨ c = 96) σ σ370 := tw_F_up hFσ344 eσ370 (show (88 = 88 ∧ (10 = 10 ∨ 10 = 13 ∨ 10 = 14 ∨ 10 = 15 ∨ 10 = 16 ∨ 10 = 17 ∨ 10 = 18)) ∨ 88 = 94 ∨ 88 = 96 from (Or.inl ⟨rfl, (Or.inl rfl)⟩))
        have c4 := aM_wr (i := 7) eσ370 (Or.inr (Or.inl ⟨rfl, by omega, by omega⟩))
        have fz : fM σ370 = fM σ := fM_F (hFσ370 88 12 (show ¬ ((88 = 88 ∧ (12 = 10 ∨ 12 = 13 ∨ 12 = 14 ∨ 12 = 15 ∨ 12 = 16 ∨ 12 = 17 ∨ 12 = 18)) ∨ 88 = 94 ∨ 88 = 96) from by decide)) (fun j => hFσ370 98 j (show ¬ ((98 = 88 ∧ (j = 10 ∨ j = 13 ∨ j = 14 ∨ j = 15 ∨ j = 16 ∨ j = 17 ∨ j = 18)) ∨ 98 = 94 ∨ 98 = 96) from fun h => h.elim (fun h => absurd h.1 (by decide)) (fun h => h.elim (fun h => absurd h (by decide)) (fun h => absurd h (by decide)))))
        refine j_aload_n (pc := 76) dX12_readAt_76 rfl rfl ?_
        refine j_callV (pc := 77) (As := []) (st := []) (c_X12_next hM σ370 hIσ370) mv_X12_137 rfl rfl rfl (a_88 hM) dX12_readAt_77 ⟨Nat.le_of_ble_eq_true rfl, Nat.le_of_ble_eq_true rfl⟩ ⟨Nat.le_refl _, Nat.le_refl _⟩ rfl (Nat.le_of_ble_eq_true rfl) rfl (fun z371 σ372 hz371 => ?_)
        obtain ⟨rfl, hIσ372, hGσ372, q373_0, q373_1, q373_2, q373_3⟩ := hz371
        replace q373_0 : ¬ σ372 88 17 = 0 ∨ σ370 88 17 = 0 := q373_0
        have y375 : σ370 88 17 = σ338 88 17 := ((tw_ne1 eσ370 (by (first | decide | omega)))).trans (tw_ne1 eσ344 (by (first | decide | omega)))
        have f376 : (0 : Int) ≤ σ338 88 17 ∧ σ338 88 17 ≤ 5 := hIσ338 88 17
        replace q373_1 : σ370 88 13 ≤ σ372 88 13 := q373_1
        have y377 : σ370 88 13 = σ 88 13 := ((((tw_ne1 eσ370 (by (first | decide | omega)))).trans (tw_ne1 eσ344 (by (first | decide | omega)))).trans (hGσ338 88 13 (show ¬ ((88 = 88 ∧ (13 = 17 ∨ 13 = 18))) from by decide))).trans (hGσ249 88 13 (show ¬ ((88 = 88 ∧ (13 = 17 ∨ 13 = 18))) from by decide))
        have f378 : (0 : Int) ≤ σ 88 13 ∧ σ 88 13 ≤ 400 := hI 88 13
        replace q373_2 : ¬ σ372 88 17 = 0 ∨ σ372 88 15 = 0 ∨ σ370 88 13 < σ372 88 13 := q373_2
        have y379 : σ370 88 13 = σ 88 13 := ((((tw_ne1 eσ370 (by (first | decide | omega)))).trans (tw_ne1 eσ344 (by (first | decide | omega)))).trans (hGσ338 88 13 (show ¬ ((88 = 88 ∧ (13 = 17 ∨ 13 = 18))) from by decide))).trans (hGσ249 88 13 (show ¬ ((88 = 88 ∧ (13 = 17 ∨ 13 = 18))) from by decide))
        replace q373_3 : aM σ372 = tok (fM σ370) (aM σ370) := q373_3
        have hFσ372 : tw_F (fun c j => (c = 88 ∧ (j = 10 ∨ j = 13 ∨ j = 14 ∨ j = 15 ∨ j = 16 ∨ j = 17 ∨ j = 18)) ∨ c = 94 ∨ c = 96) σ σ372 := tw_F_tr hFσ370 hGσ372 (fun c j q => (show (c = 88 ∧ (j = 10 ∨ j = 13 ∨ j = 14 ∨ j = 15 ∨ j = 16 ∨ j = 17 ∨ j = 18)) ∨ c = 94 ∨ c = 96 from by replace q : (c = 88 ∧ (j = 13 ∨ j = 14 ∨ j = 15 ∨ j = 16 ∨ j = 17 ∨ j = 18)) := q; exact (Or.inl ⟨q.1, (q.2.elim (fun z => (Or.inr (Or.inl z))) (fun z => (z.elim (fun z => (Or.inr (Or.inr (Or.inl z)))) (fun z => (z.elim (fun z => (Or.inr (Or.inr (Or.inr (Or.inl z))))) (fun z => (z.elim (fun z => (Or.inr (Or.inr (Or.inr (Or.inr (Or.inl z)))))) (fun z => (z.elim (fun z => (Or.inr (Or.inr (Or.inr (Or.inr (Or.inr (Or.inl z))))))) (fun z => (Or.inr (Or.inr (Or.inr (Or.inr (Or.inr (Or.inr z))))))))))))))))⟩)))
        refine j_st (st' := []) rfl ?_
        have c5 := q373_3; rw [fz] at c5
        have fz : fM σ372 = fM σ := fM_F (hFσ372 88 12 (show ¬ ((88 = 88 ∧ (12 = 10 ∨ 12 = 13 ∨ 12 = 14 ∨ 12 = 15 ∨ 12 = 16 ∨ 12 = 17 ∨ 12 = 18)) ∨ 88 = 94 ∨ 88 = 96) from by decide)) (fun j => hFσ372 98 j (show ¬ ((98 = 88 ∧ (j = 10 ∨ j = 13 ∨ j = 14 ∨ j = 15 ∨ j = 16 ∨ j = 17 ∨ j = 18)) ∨ 98 = 94 ∨ 98 = 96) from fun h => h.elim (fun h => absurd h.1 (by decide)) (fun h => h.elim (fun h => absurd h (by decide)) (fun h => absurd h (by decide)))))
        refine j_aload_n (pc := 80) dX12_readAt_80 rfl rfl ?_
        refine j_getR (pc := 81) (r := 94) fl_X12_26 dX12_readAt_81 (a_88 hM) rfl ?_
        refine j_iconst (pc := 84) dX12_readAt_84 ?_
        refine j_iload_n (pc := 85) dX12_readAt_85 rfl rfl ?_
        refine j_imul (pc := 86) dX12_readAt_86 ?_
        refine j_iconst (pc := 87) dX12_readAt_87 ?_
        refine j_iadd (pc := 88) dX12_readAt_88 ?_
        refine j_aload_n (pc := 89) dX12_readAt_89 rfl rfl ?_
        refine j_iconst (pc := 90) dX12_readAt_90 ?_
        refine j_bipush (pc := 91) dX12_readAt_91 rfl ?_
        refine j_callV (pc := 93) (As := [vI 0, vI 9]) (st := [vI ((5 * (σ 88 16)) + 0), vR 94]) (c_X12_readNumber hM 0 (by (first | decide | exact ⟨by omega, by omega⟩)) 9 (by (first | decide | exact ⟨by omega, by omega⟩)) σ372 hIσ372) mv_X12_140 rfl rfl rfl (a_88 hM) dX12_readAt_93 ⟨Nat.le_of_ble_eq_true rfl, Nat.le_of_ble_eq_true rfl⟩ ⟨Nat.le_refl _, Nat.le_refl _⟩ rfl (Nat.le_of_ble_eq_true rfl) rfl (fun z380 σ381 hz380 => ?_)
        obtain ⟨r383, rfl, hr383, hIσ381, hGσ381, q382_0, q382_1, q382_2, q382_3, q382_4⟩ := hz380
        replace q382_0 : ¬ σ381 88 17 = 0 ∨ (σ372 88 17 = 0 ∧ (0 : Int) ≤ r383 ∧ r383 ≤ (9 : Int)) := q382_0
        replace q382_1 : σ372 88 13 ≤ σ381 88 13 := q382_1
        replace q382_2 : ¬ σ381 88 17 = 0 ∨ σ381 88 15 = 0 ∨ σ372 88 13 < σ381 88 13 := q382_2
        replace q382_3 : aM σ381 = tok (fM σ372) (numS (0 : Int) (9 : Int) (aM σ372)) := q382_3
        replace q382_4 : (aM σ381) 4 = 0 → r383 = (numS (0 : Int) (9 : Int) (aM σ372)) 3 := q382_4
        have hFσ381 : tw_F (fun c j => (c = 88 ∧ (j = 10 ∨ j = 13 ∨ j = 14 ∨ j = 15 ∨ j = 16 ∨ j = 17 ∨ j = 18)) ∨ c = 94 ∨ c = 96) σ σ381 := tw_F_tr hFσ372 hGσ381 (fun c j q => (show (c = 88 ∧ (j = 10 ∨ j = 13 ∨ j = 14 ∨ j = 15 ∨ j = 16 ∨ j = 17 ∨ j = 18)) ∨ c = 94 ∨ c = 96 from by replace q : (c = 88 ∧ (j = 13 ∨ j = 14 ∨ j = 15 ∨ j = 16 ∨ j = 17 ∨ j = 18)) := q; exact (Or.inl ⟨q.1, (q.2.elim (fun z => (Or.inr (Or.inl z))) (fun z => (z.elim (fun z => (Or.inr (Or.inr (Or.inl z)))) (fun z => (z.elim (fun z => (Or.inr (Or.inr (Or.inr (Or.inl z))))) (fun z => (z.elim (fun z => (Or.inr (Or.inr (Or.inr (Or.inr (Or.inl z)))))) (fun z => (z.elim (fun z => (Or.inr (Or.inr (Or.inr (Or.inr (Or.inr (Or.inl z))))))) (fun z => (Or.inr (Or.inr (Or.inr (Or.inr (Or.inr (Or.inr z))))))))))))))))⟩)))
        refine j_st (st' := [vI r383, vI ((5 * (σ 88 16)) + 0), vR 94]) rfl ?_
        have c6 := q382_3; rw [fz] at c6
        have v6 := q382_4
        refine j_iast (pc := 96) dX12_readAt_96 (a_94 hM) (by omega) (by omega) (by decide) (j_nm (fun σ384 (eσ384 : σ384 = tw_up σ381 94 (((5 * (σ 88 16)) + 0).toNat) r383) => ?_))
        have hIσ384 : tw_I σ384 := tw_I_up hIσ381 eσ384 (show (-2147483648 : Int) ≤ r383 ∧ r383 ≤ 2147483647 from ⟨by omega, by omega⟩)
        have hFσ384 : tw_F (fun c j => (c = 88 ∧ (j = 10 ∨ j = 13 ∨ j = 14 ∨ j = 15 ∨ j = 16 ∨ j = 17 ∨ j = 18)) ∨ c = 94 ∨ c = 96) σ σ384 := tw_F_up hFσ381 eσ384 (show (94 = 88 ∧ (((5 * (σ 88 16)) + 0).toNat = 10 ∨ ((5 * (σ 88 16)) + 0).toNat = 13 ∨ ((5 * (σ 88 16)) + 0).toNat = 14 ∨ ((5 * (σ 88 16)) + 0).toNat = 15 ∨ ((5 * (σ 88 16)) + 0).toNat = 16 ∨ ((5 * (σ 88 16)) + 0).toNat = 17 ∨ ((5 * (σ 88 16)) + 0).toNat = 18)) ∨ 94 = 94 ∨ 94 = 96 from (Or.inr (Or.inl rfl)))
        have c7 := (aM_wr (i := 300 + (5 * (σ 88 16) + 0 : Int).toNat) eσ384 (Or.inr (Or.inr (Or.inr (Or.inr (Or.inl ⟨rfl, by omega, by omega⟩)))))).trans ((wr_cg v6).trans (congrArg (fun z => wr z _ _) (show 300 + (5 * (σ 88 16) + 0 : Int).toNat = ci 300 (5 * (σ 88 16)) from by unfold ci; omega)))
        refine j_iconst (pc := 97) dX12_readAt_97 ?_
        have nx : (it wstopM (wstepM (fM σ) (σ 88 16)) wmes (aM σ384, (0 : Int))).1 = footM (fM σ) (aM σ) := footM_of (f := fM σ) c1 c2 v1 c3 (ci_n).symm c4 rfl hv c5 c6 c7 rfl
        refine j_istore_n (pc := 98) (i := 2) (ls' := [(0, vR 88), (1, vI (σ 88 16)), (2, vI 0)]) [1, 2, 0] dX12_readAt_98 rfl (Nat.le_of_ble_eq_true rfl) rfl rfl ?_
        refine j_ls (ls' := [(0, vR 88), (1, vI (σ 88 16)), (2, vI 0)]) [0, 1, 2] rfl ?_
        have y385 : σ384 88 17 = σ381 88 17 := (tw_ne1 eσ384 (by (first | decide | omega)))
        have f386 : (0 : Int) ≤ σ381 88 17 ∧ σ381 88 17 ≤ 5 := hIσ381 88 17
        have y387 : σ384 88 13 = σ381 88 13 := (tw_ne1 eσ384 (by (first | decide | omega)))
        have f388 : (0 : Int) ≤ σ381 88 13 ∧ σ381 88 13 ≤ 400 := hIσ381 88 13
        have y389 : σ384 88 17 = σ381 88 17 := (tw_ne1 eσ384 (by (first | decide | omega)))
        have y390 : σ384 88 15 = σ381 88 15 := (tw_ne1 eσ384 (by (first | decide | omega)))
        have f391 : (-2147483648 : Int) ≤ σ381 88 15 ∧ σ381 88 15 ≤ 2147483647 := hIσ381 88 15
        have y392 : σ384 88 13 = σ381 88 13 := (tw_ne1 eσ384 (by (first | decide | omega)))
        exact (l_X12_readAt hM σ hI hq0 hq1 (((mMu (σ384 88 17) (σ384 88 15) (σ384 88 13)).toNat) + 1)) (σ 88 16) ⟨by omega, by omega⟩ 0 (by (first | decide | exact ⟨by omega, by omega⟩)) σ384 hIσ384 hFσ384 (show DQ σ384 from DQ_put (DQ_F hq0 (fun j => ((((((hGσ381 93 j (show ¬ ((93 = 88 ∧ (j = 13 ∨ j = 14 ∨ j = 15 ∨ j = 16 ∨ j = 17 ∨ j = 18))) from fun h => absurd h.1 (by decide)))).trans (hGσ372 93 j (show ¬ ((93 = 88 ∧ (j = 13 ∨ j = 14 ∨ j = 15 ∨ j = 16 ∨ j = 17 ∨ j = 18))) from fun h => absurd h.1 (by decide)))).trans (tw_ne1 eσ370 (by (first | decide | omega)))).trans (tw_ne1 eσ344 (by (first | decide | omega)))).trans (hGσ338 93 j (show ¬ ((93 = 88 ∧ (j = 17 ∨ j = 18))) from fun h => absurd h.1 (by decide)))).trans (hGσ249 93 j (show ¬ ((93 = 88 ∧ (j = 17 ∨ j = 18))) from fun h => absurd h.1 (by decide)))) (fun j => ((((((hGσ381 94 j (show ¬ ((94 = 88 ∧ (j = 13 ∨ j = 14 ∨ j = 15 ∨ j = 16 ∨ j = 17 ∨ j = 18))) from fun h => absurd h.1 (by decide)))).trans (hGσ372 94 j (show ¬ ((94 = 88 ∧ (j = 13 ∨ j = 14 ∨ j = 15 ∨ j = 16 ∨ j = 17 ∨ j = 18))) from fun h => absurd h.1 (by decide)))).trans (tw_ne1 eσ370 (by (first | decide | omega)))).trans (tw_ne1 eσ344 (by (first | decide | omega)))).trans (hGσ338 94 j (show ¬ ((94 = 88 ∧ (j = 17 ∨ j = 18))) from fun h => absurd h.1 (by decide)))).trans (hGσ249 94 j (show ¬ ((94 = 88 ∧ (j = 17 ∨ j = 18))) from fun h => absurd h.1 (by decide)))) (by omega)) eσ384 (by clear q250_1 q339_0 q339_1 q339_2 q373_0 q373_1 q373_2 q373_3 q382_1 q382_2 q382_3 q382_4; first | exact Or.inr (w92 (by omega) (by omega) (by omega)) | (rcases q382_0 with q | q; exact Or.inl (by omega); (first | exact Or.inr (w92 (by omega) (by omega) (by omega)) | exact Or.inr (w92 (h := 0) (k := 0) (by omega) (by omega) (by omega)))))) (show ¬ σ384 88 17 = 0 ∨ σ 88 17 = 0 from (by clear q250_1 q339_1 q339_2 q373_1 q373_2 q373_3 q382_1 q382_2 q382_3 q382_4; omega)) (show σ 88 13 ≤ σ384 88 13 from (by clear q250_0 q250_1 q339_0 q339_1 q339_2 q373_0 q373_2 q373_3 q382_0 q382_2 q382_3 q382_4; omega)) (show (it wstopM (wstepM (fM σ) (σ 88 16)) wmes (aM σ384, (0 : Int))).1 = footM (fM σ) (aM σ) from nx) (Nat.lt_succ_self _)
