/-! 34b.model -/
theorem dX12_nameNow_0 : decode cX12_nameNow 0 = .ok (.aload_n 0, 1) := by decide +kernel
theorem dX12_nameNow_1 : decode cX12_nameNow 1 = .ok (.iconst 2, 1) := by decide +kernel
theorem dX12_nameNow_2 : decode cX12_nameNow 2 = .ok (.bipush 97, 2) := by decide +kernel
theorem dX12_nameNow_4 : decode cX12_nameNow 4 = .ok (.bipush 116, 2) := by decide +kernel
theorem dX12_nameNow_6 : decode cX12_nameNow 6 = .ok (.iconst 0, 1) := by decide +kernel
theorem dX12_nameNow_7 : decode cX12_nameNow 7 = .ok (.iconst 0, 1) := by decide +kernel
theorem dX12_nameNow_8 : decode cX12_nameNow 8 = .ok (.invokevirtual 107, 3) := by decide +kernel
theorem dX12_nameNow_11 : decode cX12_nameNow 11 = .ok (.ifCond .eq 6, 3) := by decide +kernel
theorem dX12_nameNow_14 : decode cX12_nameNow 14 = .ok (.bipush 10, 2) := by decide +kernel
theorem dX12_nameNow_16 : decode cX12_nameNow 16 = .ok (.ireturn, 1) := by decide +kernel
theorem dX12_nameNow_17 : decode cX12_nameNow 17 = .ok (.aload_n 0, 1) := by decide +kernel
theorem dX12_nameNow_18 : decode cX12_nameNow 18 = .ok (.iconst 4, 1) := by decide +kernel
theorem dX12_nameNow_19 : decode cX12_nameNow 19 = .ok (.bipush 114, 2) := by decide +kernel
theorem dX12_nameNow_21 : decode cX12_nameNow 21 = .ok (.bipush 97, 2) := by decide +kernel
theorem dX12_nameNow_23 : decode cX12_nameNow 23 = .ok (.bipush 99, 2) := by decide +kernel
theorem dX12_nameNow_25 : decode cX12_nameNow 25 = .ok (.bipush 107, 2) := by decide +kernel
theorem dX12_nameNow_27 : decode cX12_nameNow 27 = .ok (.invokevirtual 107, 3) := by decide +kernel
theorem dX12_nameNow_30 : decode cX12_nameNow 30 = .ok (.ifCond .eq 6, 3) := by decide +kernel
theorem dX12_nameNow_33 : decode cX12_nameNow 33 = .ok (.bipush 11, 2) := by decide +kernel
theorem dX12_nameNow_35 : decode cX12_nameNow 35 = .ok (.ireturn, 1) := by decide +kernel
theorem dX12_nameNow_36 : decode cX12_nameNow 36 = .ok (.aload_n 0, 1) := by decide +kernel
theorem dX12_nameNow_37 : decode cX12_nameNow 37 = .ok (.iconst 3, 1) := by decide +kernel
theorem dX12_nameNow_38 : decode cX12_nameNow 38 = .ok (.bipush 116, 2) := by decide +kernel
theorem dX12_nameNow_40 : decode cX12_nameNow 40 = .ok (.bipush 111, 2) := by decide +kernel
theorem dX12_nameNow_42 : decode cX12_nameNow 42 = .ok (.bipush 112, 2) := by decide +kernel
theorem dX12_nameNow_44 : decode cX12_nameNow 44 = .ok (.iconst 0, 1) := by decide +kernel
theorem dX12_nameNow_45 : decode cX12_nameNow 45 = .ok (.invokevirtual 107, 3) := by decide +kernel
theorem dX12_nameNow_48 : decode cX12_nameNow 48 = .ok (.ifCond .eq 5, 3) := by decide +kernel
theorem dX12_nameNow_51 : decode cX12_nameNow 51 = .ok (.iconst 0, 1) := by decide +kernel
theorem dX12_nameNow_52 : decode cX12_nameNow 52 = .ok (.ireturn, 1) := by decide +kernel
theorem dX12_nameNow_53 : decode cX12_nameNow 53 = .ok (.aload_n 0, 1) := by decide +kernel
theorem dX12_nameNow_54 : decode cX12_nameNow 54 = .ok (.bipush 8, 2) := by decide +kernel
theorem dX12_nameNow_56 : decode cX12_nameNow 56 = .ok (.bipush 115, 2) := by decide +kernel
theorem dX12_nameNow_58 : decode cX12_nameNow 58 = .ok (.bipush 116, 2) := by decide +kernel
theorem dX12_nameNow_60 : decode cX12_nameNow 60 = .ok (.bipush 114, 2) := by decide +kernel
theorem dX12_nameNow_62 : decode cX12_nameNow 62 = .ok (.bipush 101, 2) := by decide +kernel
theorem dX12_nameNow_64 : decode cX12_nameNow 64 = .ok (.invokevirtual 107, 3) := by decide +kernel
theorem dX12_nameNow_67 : decode cX12_nameNow 67 = .ok (.ifCond .eq 67, 3) := by decide +kernel
theorem dX12_nameNow_70 : decode cX12_nameNow 70 = .ok (.aload_n 0, 1) := by decide +kernel
theorem dX12_nameNow_71 : decode cX12_nameNow 71 = .ok (.aload_n 0, 1) := by decide +kernel
theorem dX12_nameNow_72 : decode cX12_nameNow 72 = .ok (.getfield 94, 3) := by decide +kernel
theorem dX12_nameNow_75 : decode cX12_nameNow 75 = .ok (.iconst 4, 1) := by decide +kernel
theorem dX12_nameNow_76 : decode cX12_nameNow 76 = .ok (.iadd, 1) := by decide +kernel
theorem dX12_nameNow_77 : decode cX12_nameNow 77 = .ok (.invokevirtual 103, 3) := by decide +kernel
theorem dX12_nameNow_80 : decode cX12_nameNow 80 = .ok (.bipush 110, 2) := by decide +kernel
theorem dX12_nameNow_82 : decode cX12_nameNow 82 = .ok (.if_icmp .ne 52, 3) := by decide +kernel
theorem dX12_nameNow_85 : decode cX12_nameNow 85 = .ok (.aload_n 0, 1) := by decide +kernel
theorem dX12_nameNow_86 : decode cX12_nameNow 86 = .ok (.aload_n 0, 1) := by decide +kernel
theorem dX12_nameNow_87 : decode cX12_nameNow 87 = .ok (.getfield 94, 3) := by decide +kernel
theorem dX12_nameNow_90 : decode cX12_nameNow 90 = .ok (.iconst 5, 1) := by decide +kernel
theorem dX12_nameNow_91 : decode cX12_nameNow 91 = .ok (.iadd, 1) := by decide +kernel
theorem dX12_nameNow_92 : decode cX12_nameNow 92 = .ok (.invokevirtual 103, 3) := by decide +kernel
theorem dX12_nameNow_95 : decode cX12_nameNow 95 = .ok (.bipush 103, 2) := by decide +kernel
theorem dX12_nameNow_97 : decode cX12_nameNow 97 = .ok (.if_icmp .ne 37, 3) := by decide +kernel
theorem dX12_nameNow_100 : decode cX12_nameNow 100 = .ok (.aload_n 0, 1) := by decide +kernel
theorem dX12_nameNow_101 : decode cX12_nameNow 101 = .ok (.aload_n 0, 1) := by decide +kernel
theorem dX12_nameNow_102 : decode cX12_nameNow 102 = .ok (.getfield 94, 3) := by decide +kernel
theorem dX12_nameNow_105 : decode cX12_nameNow 105 = .ok (.bipush 6, 2) := by decide +kernel
theorem dX12_nameNow_107 : decode cX12_nameNow 107 = .ok (.iadd, 1) := by decide +kernel
theorem dX12_nameNow_108 : decode cX12_nameNow 108 = .ok (.invokevirtual 103, 3) := by decide +kernel
theorem dX12_nameNow_111 : decode cX12_nameNow 111 = .ok (.bipush 116, 2) := by decide +kernel
theorem dX12_nameNow_113 : decode cX12_nameNow 113 = .ok (.if_icmp .ne 21, 3) := by decide +kernel
theorem dX12_nameNow_116 : decode cX12_nameNow 116 = .ok (.aload_n 0, 1) := by decide +kernel
theorem dX12_nameNow_117 : decode cX12_nameNow 117 = .ok (.aload_n 0, 1) := by decide +kernel
theorem dX12_nameNow_118 : decode cX12_nameNow 118 = .ok (.getfield 94, 3) := by decide +kernel
theorem dX12_nameNow_121 : decode cX12_nameNow 121 = .ok (.bipush 7, 2) := by decide +kernel
theorem dX12_nameNow_123 : decode cX12_nameNow 123 = .ok (.iadd, 1) := by decide +kernel
theorem dX12_nameNow_124 : decode cX12_nameNow 124 = .ok (.invokevirtual 103, 3) := by decide +kernel
theorem dX12_nameNow_127 : decode cX12_nameNow 127 = .ok (.bipush 104, 2) := by decide +kernel
theorem dX12_nameNow_129 : decode cX12_nameNow 129 = .ok (.if_icmp .ne 5, 3) := by decide +kernel
theorem dX12_nameNow_132 : decode cX12_nameNow 132 = .ok (.iconst 1, 1) := by decide +kernel
theorem dX12_nameNow_133 : decode cX12_nameNow 133 = .ok (.ireturn, 1) := by decide +kernel
theorem dX12_nameNow_134 : decode cX12_nameNow 134 = .ok (.aload_n 0, 1) := by decide +kernel
theorem dX12_nameNow_135 : decode cX12_nameNow 135 = .ok (.iconst 5, 1) := by decide +kernel
theorem dX12_nameNow_136 : decode cX12_nameNow 136 = .ok (.bipush 112, 2) := by decide +kernel
theorem dX12_nameNow_138 : decode cX12_nameNow 138 = .ok (.bipush 108, 2) := by decide +kernel
theorem dX12_nameNow_140 : decode cX12_nameNow 140 = .ok (.bipush 97, 2) := by decide +kernel
theorem dX12_nameNow_142 : decode cX12_nameNow 142 = .ok (.bipush 99, 2) := by decide +kernel
theorem dX12_nameNow_144 : decode cX12_nameNow 144 = .ok (.invokevirtual 107, 3) := by decide +kernel
theorem dX12_nameNow_147 : decode cX12_nameNow 147 = .ok (.ifCond .eq 20, 3) := by decide +kernel
theorem dX12_nameNow_150 : decode cX12_nameNow 150 = .ok (.aload_n 0, 1) := by decide +kernel
theorem dX12_nameNow_151 : decode cX12_nameNow 151 = .ok (.aload_n 0, 1) := by decide +kernel
theorem dX12_nameNow_152 : decode cX12_nameNow 152 = .ok (.getfield 94, 3) := by decide +kernel
theorem dX12_nameNow_155 : decode cX12_nameNow 155 = .ok (.iconst 4, 1) := by decide +kernel
theorem dX12_nameNow_156 : decode cX12_nameNow 156 = .ok (.iadd, 1) := by decide +kernel
theorem dX12_nameNow_157 : decode cX12_nameNow 157 = .ok (.invokevirtual 103, 3) := by decide +kernel
theorem dX12_nameNow_160 : decode cX12_nameNow 160 = .ok (.bipush 101, 2) := by decide +kernel
theorem dX12_nameNow_162 : decode cX12_nameNow 162 = .ok (.if_icmp .ne 5, 3) := by decide +kernel
theorem dX12_nameNow_165 : decode cX12_nameNow 165 = .ok (.iconst 2, 1) := by decide +kernel
theorem dX12_nameNow_166 : decode cX12_nameNow 166 = .ok (.ireturn, 1) := by decide +kernel
theorem dX12_nameNow_167 : decode cX12_nameNow 167 = .ok (.aload_n 0, 1) := by decide +kernel
theorem dX12_nameNow_168 : decode cX12_nameNow 168 = .ok (.iconst 4, 1) := by decide +kernel
theorem dX12_nameNow_169 : decode cX12_nameNow 169 = .ok (.bipush 114, 2) := by decide +kernel
theorem dX12_nameNow_171 : decode cX12_nameNow 171 = .ok (.bipush 111, 2) := by decide +kernel
theorem dX12_nameNow_173 : decode cX12_nameNow 173 = .ok (.bipush 112, 2) := by decide +kernel
theorem dX12_nameNow_175 : decode cX12_nameNow 175 = .ok (.bipush 101, 2) := by decide +kernel
theorem dX12_nameNow_177 : decode cX12_nameNow 177 = .ok (.invokevirtual 107, 3) := by decide +kernel
theorem dX12_nameNow_180 : decode cX12_nameNow 180 = .ok (.ifCond .eq 5, 3) := by decide +kernel
theorem dX12_nameNow_183 : decode cX12_nameNow 183 = .ok (.iconst 3, 1) := by decide +kernel
theorem dX12_nameNow_184 : decode cX12_nameNow 184 = .ok (.ireturn, 1) := by decide +kernel
theorem dX12_nameNow_185 : decode cX12_nameNow 185 = .ok (.aload_n 0, 1) := by decide +kernel
theorem dX12_nameNow_186 : decode cX12_nameNow 186 = .ok (.iconst 4, 1) := by decide +kernel
theorem dX12_nameNow_187 : decode cX12_nameNow 187 = .ok (.bipush 103, 2) := by decide +kernel
theorem dX12_nameNow_189 : decode cX12_nameNow 189 = .ok (.bipush 105, 2) := by decide +kernel
theorem dX12_nameNow_191 : decode cX12_nameNow 191 = .ok (.bipush 118, 2) := by decide +kernel
theorem dX12_nameNow_193 : decode cX12_nameNow 193 = .ok (.bipush 101, 2) := by decide +kernel
theorem dX12_nameNow_195 : decode cX12_nameNow 195 = .ok (.invokevirtual 107, 3) := by decide +kernel
theorem dX12_nameNow_198 : decode cX12_nameNow 198 = .ok (.ifCond .eq 5, 3) := by decide +kernel
theorem dX12_nameNow_201 : decode cX12_nameNow 201 = .ok (.iconst 4, 1) := by decide +kernel
theorem dX12_nameNow_202 : decode cX12_nameNow 202 = .ok (.ireturn, 1) := by decide +kernel
theorem dX12_nameNow_203 : decode cX12_nameNow 203 = .ok (.aload_n 0, 1) := by decide +kernel
theorem dX12_nameNow_204 : decode cX12_nameNow 204 = .ok (.iconst 4, 1) := by decide +kernel
theorem dX12_nameNow_205 : decode cX12_nameNow 205 = .ok (.bipush 102, 2) := by decide +kernel
theorem dX12_nameNow_207 : decode cX12_nameNow 207 = .ok (.bipush 105, 2) := by decide +kernel
theorem dX12_nameNow_209 : decode cX12_nameNow 209 = .ok (.bipush 116, 2) := by decide +kernel
theorem dX12_nameNow_211 : decode cX12_nameNow 211 = .ok (.bipush 115, 2) := by decide +kernel
theorem dX12_nameNow_213 : decode cX12_nameNow 213 = .ok (.invokevirtual 107, 3) := by decide +kernel
theorem dX12_nameNow_216 : decode cX12_nameNow 216 = .ok (.ifCond .eq 5, 3) := by decide +kernel
theorem dX12_nameNow_219 : decode cX12_nameNow 219 = .ok (.iconst 5, 1) := by decide +kernel
theorem dX12_nameNow_220 : decode cX12_nameNow 220 = .ok (.ireturn, 1) := by decide +kernel
theorem dX12_nameNow_221 : decode cX12_nameNow 221 = .ok (.aload_n 0, 1) := by decide +kernel
theorem dX12_nameNow_222 : decode cX12_nameNow 222 = .ok (.iconst 5, 1) := by decide +kernel
theorem dX12_nameNow_223 : decode cX12_nameNow 223 = .ok (.bipush 104, 2) := by decide +kernel
theorem dX12_nameNow_225 : decode cX12_nameNow 225 = .ok (.bipush 111, 2) := by decide +kernel
theorem dX12_nameNow_227 : decode cX12_nameNow 227 = .ok (.bipush 108, 2) := by decide +kernel
theorem dX12_nameNow_229 : decode cX12_nameNow 229 = .ok (.bipush 100, 2) := by decide +kernel
theorem dX12_nameNow_231 : decode cX12_nameNow 231 = .ok (.invokevirtual 107, 3) := by decide +kernel
theorem dX12_nameNow_234 : decode cX12_nameNow 234 = .ok (.ifCond .eq 21, 3) := by decide +kernel
theorem dX12_nameNow_237 : decode cX12_nameNow 237 = .ok (.aload_n 0, 1) := by decide +kernel
theorem dX12_nameNow_238 : decode cX12_nameNow 238 = .ok (.aload_n 0, 1) := by decide +kernel
theorem dX12_nameNow_239 : decode cX12_nameNow 239 = .ok (.getfield 94, 3) := by decide +kernel
theorem dX12_nameNow_242 : decode cX12_nameNow 242 = .ok (.iconst 4, 1) := by decide +kernel
theorem dX12_nameNow_243 : decode cX12_nameNow 243 = .ok (.iadd, 1) := by decide +kernel
theorem dX12_nameNow_244 : decode cX12_nameNow 244 = .ok (.invokevirtual 103, 3) := by decide +kernel
theorem dX12_nameNow_247 : decode cX12_nameNow 247 = .ok (.bipush 115, 2) := by decide +kernel
theorem dX12_nameNow_249 : decode cX12_nameNow 249 = .ok (.if_icmp .ne 6, 3) := by decide +kernel
theorem dX12_nameNow_252 : decode cX12_nameNow 252 = .ok (.bipush 7, 2) := by decide +kernel
theorem dX12_nameNow_254 : decode cX12_nameNow 254 = .ok (.ireturn, 1) := by decide +kernel
theorem dX12_nameNow_255 : decode cX12_nameNow 255 = .ok (.aload_n 0, 1) := by decide +kernel
theorem dX12_nameNow_256 : decode cX12_nameNow 256 = .ok (.iconst 3, 1) := by decide +kernel
theorem dX12_nameNow_257 : decode cX12_nameNow 257 = .ok (.bipush 108, 2) := by decide +kernel
theorem dX12_nameNow_259 : decode cX12_nameNow 259 = .ok (.bipush 111, 2) := by decide +kernel
theorem dX12_nameNow_261 : decode cX12_nameNow 261 = .ok (.bipush 119, 2) := by decide +kernel
theorem dX12_nameNow_263 : decode cX12_nameNow 263 = .ok (.iconst 0, 1) := by decide +kernel
theorem dX12_nameNow_264 : decode cX12_nameNow 264 = .ok (.invokevirtual 107, 3) := by decide +kernel
theorem dX12_nameNow_267 : decode cX12_nameNow 267 = .ok (.ifCond .eq 8, 3) := by decide +kernel
theorem dX12_nameNow_270 : decode cX12_nameNow 270 = .ok (.bipush 8, 2) := by decide +kernel
theorem dX12_nameNow_272 : decode cX12_nameNow 272 = .ok (.goto 7, 3) := by decide +kernel
theorem dX12_nameNow_275 : decode cX12_nameNow 275 = .ok (.aload_n 0, 1) := by decide +kernel
theorem dX12_nameNow_276 : decode cX12_nameNow 276 = .ok (.invokevirtual 111, 3) := by decide +kernel
theorem dX12_nameNow_279 : decode cX12_nameNow 279 = .ok (.ireturn, 1) := by decide +kernel
abbrev q_X12_nameNow  (σ : tw_M) : Option tw_V → tw_M → Prop := fun z τ => ∃ r : Int, z = some (vI r) ∧ (-4 ≤ r ∧ r ≤ 23) ∧ σ = τ ∧ ((lnm (fM σ) 1 (σ 88 14) (σ 88 13) = -1 ∧ (r = -4 ∨ 20 ≤ r)) ∨ (lnm (fM σ) 1 (σ 88 14) (σ 88 13) = 9 ∧ r = 10) ∨ (lnm (fM σ) 1 (σ 88 14) (σ 88 13) = 10 ∧ r = 11) ∨ (0 ≤ lnm (fM σ) 1 (σ 88 14) (σ 88 13) ∧ lnm (fM σ) 1 (σ 88 14) (σ 88 13) ≤ 8 ∧ ¬ lnm (fM σ) 1 (σ 88 14) (σ 88 13) = 6 ∧ r = lnm (fM σ) 1 (σ 88 14) (σ 88 13)))
set_option maxHeartbeats 4000000 in
set_option maxRecDepth 100000 in
theorem c_X12_nameNow {G : tw_G} (hM : tw_isM G) (σ : tw_M) (hI : tw_I σ) : tw_C G yX12_nameNow cX12_nameNow 1 (some .int) 3 [vR 88] σ (q_X12_nameNow σ) := by
  refine tw_met [(0, vR 88)] (by decide +kernel) rfl (Nat.le_of_ble_eq_true rfl) ?_
  refine j_aload_n (pc := 0) dX12_nameNow_0 rfl rfl ?_
  refine j_iconst (pc := 1) dX12_nameNow_1 ?_
  refine j_bipush (pc := 2) dX12_nameNow_2 rfl ?_
  refine j_bipush (pc := 4) dX12_nameNow_4 rfl ?_
  refine j_iconst (pc := 6) dX12_nameNow_6 ?_
  refine j_iconst (pc := 7) dX12_nameNow_7 ?_
  refine j_callV (pc := 8) (As := [vI 2, vI 97, vI 116, vI 0, vI 0]) (st := []) (c_X12_is hM 2 (by (first | decide | exact ⟨by omega, by omega⟩)) 97 (by (first | decide | exact ⟨by omega, by omega⟩)) 116 (by (first | decide | exact ⟨by omega, by omega⟩)) 0 (by (first | decide | exact ⟨by omega, by omega⟩)) 0 (by (first | decide | exact ⟨by omega, by omega⟩)) σ hI) mv_X12_107 rfl rfl rfl (a_88 hM) dX12_nameNow_8 ⟨Nat.le_of_ble_eq_true rfl, Nat.le_of_ble_eq_true rfl⟩ ⟨Nat.le_refl _, Nat.le_refl _⟩ rfl (Nat.le_of_ble_eq_true rfl) rfl (fun z1 σ2 hz1 => ?_)
  obtain ⟨r4, rfl, hr4, rfl, q3_0⟩ := hz1
  replace q3_0 : (r4 = 1 ∧ σ 88 13 - σ 88 14 = (2 : Int) ∧ fM σ (σ 88 14) = (97 : Int) ∧ fM σ (σ 88 14 + 1) = (116 : Int) ∧ ((2 : Int) < 3 ∨ fM σ (σ 88 14 + 2) = (0 : Int)) ∧ ((2 : Int) < 4 ∨ fM σ (σ 88 14 + 3) = (0 : Int))) ∨ (r4 = 0 ∧ ¬ (σ 88 13 - σ 88 14 = (2 : Int) ∧ fM σ (σ 88 14) = (97 : Int) ∧ fM σ (σ 88 14 + 1) = (116 : Int) ∧ ((2 : Int) < 3 ∨ fM σ (σ 88 14 + 2) = (0 : Int)) ∧ ((2 : Int) < 4 ∨ fM σ (σ 88 14 + 3) = (0 : Int)))) := q3_0
  refine j_st (st' := [vI r4]) rfl ?_
  refine j_ifR_eq (pc := 11) (tgt := 17) ⟨by omega, by omega⟩ dX12_nameNow_11 rfl (fun h5 => ?_) (fun h5 => ?_)
  · have z0 : ¬ nm (fM σ) (σ 88 14) (σ 88 13) 0 = 1 := by (have e := nmE_0 (fM σ) (σ 88 14) (σ 88 13)); omega
    clear q3_0
    refine j_aload_n (pc := 17) dX12_nameNow_17 rfl rfl ?_
    refine j_iconst (pc := 18) dX12_nameNow_18 ?_
    refine j_bipush (pc := 19) dX12_nameNow_19 rfl ?_
    refine j_bipush (pc := 21) dX12_nameNow_21 rfl ?_
    refine j_bipush (pc := 23) dX12_nameNow_23 rfl ?_
    refine j_bipush (pc := 25) dX12_nameNow_25 rfl ?_
    refine j_callV (pc := 27) (As := [vI 4, vI 114, vI 97, vI 99, vI 107]) (st := []) (c_X12_is hM 4 (by (first | decide | exact ⟨by omega, by omega⟩)) 114 (by (first | decide | exact ⟨by omega, by omega⟩)) 97 (by (first | decide | exact ⟨by omega, by omega⟩)) 99 (by (first | decide | exact ⟨by omega, by omega⟩)) 107 (by (first | decide | exact ⟨by omega, by omega⟩)) σ hI) mv_X12_107 rfl rfl rfl (a_88 hM) dX12_nameNow_27 ⟨Nat.le_of_ble_eq_true rfl, Nat.le_of_ble_eq_true rfl⟩ ⟨Nat.le_refl _, Nat.le_refl _⟩ rfl (Nat.le_of_ble_eq_true rfl) rfl (fun z6 σ7 hz6 => ?_)
    obtain ⟨r9, rfl, hr9, rfl, q8_0⟩ := hz6
    replace q8_0 : (r9 = 1 ∧ σ 88 13 - σ 88 14 = (4 : Int) ∧ fM σ (σ 88 14) = (114 : Int) ∧ fM σ (σ 88 14 + 1) = (97 : Int) ∧ ((4 : Int) < 3 ∨ fM σ (σ 88 14 + 2) = (99 : Int)) ∧ ((4 : Int) < 4 ∨ fM σ (σ 88 14 + 3) = (107 : Int))) ∨ (r9 = 0 ∧ ¬ (σ 88 13 - σ 88 14 = (4 : Int) ∧ fM σ (σ 88 14) = (114 : Int) ∧ fM σ (σ 88 14 + 1) = (97 : Int) ∧ ((4 : Int) < 3 ∨ fM σ (σ 88 14 + 2) = (99 : Int)) ∧ ((4 : Int) < 4 ∨ fM σ (σ 88 14 + 3) = (107 : Int)))) := q8_0
    refine j_st (st' := [vI r9]) rfl ?_
    refine j_ifR_eq (pc := 30) (tgt := 36) ⟨by omega, by omega⟩ dX12_nameNow_30 rfl (fun h10 => ?_) (fun h10 => ?_)
    · have z1 : ¬ nm (fM σ) (σ 88 14) (σ 88 13) 1 = 1 := by (have e := nmE_1 (fM σ) (σ 88 14) (σ 88 13)); omega
      clear q8_0
      refine j_aload_n (pc := 36) dX12_nameNow_36 rfl rfl ?_
      refine j_iconst (pc := 37) dX12_nameNow_37 ?_
      refine j_bipush (pc := 38) dX12_nameNow_38 rfl ?_
      refine j_bipush (pc := 40) dX12_nameNow_40 rfl ?_
      refine j_bipush (pc := 42) dX12_nameNow_42 rfl ?_
      refine j_iconst (pc := 44) dX12_nameNow_44 ?_
      refine j_callV (pc := 45) (As := [vI 3, vI 116, vI 111, vI 112, vI 0]) (st := []) (c_X12_is hM 3 (by (first | decide | exact ⟨by omega, by omega⟩)) 116 (by (first | decide | exact ⟨by omega, by omega⟩)) 111 (by (first | decide | exact ⟨by omega, by omega⟩)) 112 (by (first | decide | exact ⟨by omega, by omega⟩)) 0 (by (first | decide | exact ⟨by omega, by omega⟩)) σ hI) mv_X12_107 rfl rfl rfl (a_88 hM) dX12_nameNow_45 ⟨Nat.le_of_ble_eq_true rfl, Nat.le_of_ble_eq_true rfl⟩ ⟨Nat.le_refl _, Nat.le_refl _⟩ rfl (Nat.le_of_ble_eq_true rfl) rfl (fun z11 σ12 hz11 => ?_)
      obtain ⟨r14, rfl, hr14, rfl, q13_0⟩ := hz11
      replace q13_0 : (r14 = 1 ∧ σ 88 13 - σ 88 14 = (3 : Int) ∧ fM σ (σ 88 14) = (116 : Int) ∧ fM σ (σ 88 14 + 1) = (111 : Int) ∧ ((3 : Int) < 3 ∨ fM σ (σ 88 14 + 2) = (112 : Int)) ∧ ((3 : Int) < 4 ∨ fM σ (σ 88 14 + 3) = (0 : Int))) ∨ (r14 = 0 ∧ ¬ (σ 88 13 - σ 88 14 = (3 : Int) ∧ fM σ (σ 88 14) = (116 : Int) ∧ fM σ (σ 88 14 + 1) = (111 : Int) ∧ ((3 : Int) < 3 ∨ fM σ (σ 88 14 + 2) = (112 : Int)) ∧ ((3 : Int) < 4 ∨ fM σ (σ 88 14 + 3) = (0 : Int)))) := q13_0
      refine j_st (st' := [vI r14]) rfl ?_
      refine j_ifR_eq (pc := 48) (tgt := 53) ⟨by omega, by omega⟩ dX12_nameNow_48 rfl (fun h15 => ?_) (fun h15 => ?_)
      · have z2 : ¬ nm (fM σ) (σ 88 14) (σ 88 13) 2 = 1 := by (have e := nmE_2 (fM σ) (σ 88 14) (σ 88 13)); omega
        clear q13_0
        refine j_aload_n (pc := 53) dX12_nameNow_53 rfl rfl ?_
        refine j_bipush (pc := 54) dX12_nameNow_54 rfl ?_
        refine j_bipush (pc := 56) dX12_nameNow_56 rfl ?_
        refine j_bipush (pc := 58) dX12_nameNow_58 rfl ?_
        refine j_bipush (pc := 60) dX12_nameNow_60 rfl ?_
        refine j_bipush (pc := 62) dX12_nameNow_62 rfl ?_
        refine j_callV (pc := 64) (As := [vI 8, vI 115, vI 116, vI 114, vI 101]) (st := []) (c_X12_is hM 8 (by (first | decide | exact ⟨by omega, by omega⟩)) 115 (by (first | decide | exact ⟨by omega, by omega⟩)) 116 (by (first | decide | exact ⟨by omega, by omega⟩)) 114 (by (first | decide | exact ⟨by omega, by omega⟩)) 101 (by (first | decide | exact ⟨by omega, by omega⟩)) σ hI) mv_X12_107 rfl rfl rfl (a_88 hM) dX12_nameNow_64 ⟨Nat.le_of_ble_eq_true rfl, Nat.le_of_ble_eq_true rfl⟩ ⟨Nat.le_refl _, Nat.le_refl _⟩ rfl (Nat.le_of_ble_eq_true rfl) rfl (fun z16 σ17 hz16 => ?_)
        obtain ⟨r19, rfl, hr19, rfl, q18_0⟩ := hz16
        replace q18_0 : (r19 = 1 ∧ σ 88 13 - σ 88 14 = (8 : Int) ∧ fM σ (σ 88 14) = (115 : Int) ∧ fM σ (σ 88 14 + 1) = (116 : Int) ∧ ((8 : Int) < 3 ∨ fM σ (σ 88 14 + 2) = (114 : Int)) ∧ ((8 : Int) < 4 ∨ fM σ (σ 88 14 + 3) = (101 : Int))) ∨ (r19 = 0 ∧ ¬ (σ 88 13 - σ 88 14 = (8 : Int) ∧ fM σ (σ 88 14) = (115 : Int) ∧ fM σ (σ 88 14 + 1) = (116 : Int) ∧ ((8 : Int) < 3 ∨ fM σ (σ 88 14 + 2) = (114 : Int)) ∧ ((8 : Int) < 4 ∨ fM σ (σ 88 14 + 3) = (101 : Int)))) := q18_0
        refine j_st (st' := [vI r19]) rfl ?_
        refine j_ifR_eq (pc := 67) (tgt := 134) ⟨by omega, by omega⟩ dX12_nameNow_67 rfl (fun h20 => ?_) (fun h20 => ?_)
        · have z3 : ¬ nm (fM σ) (σ 88 14) (σ 88 13) 3 = 1 := by (have e := nmE_3 (fM σ) (σ 88 14) (σ 88 13)); omega
          clear q18_0
          refine j_aload_n (pc := 134) dX12_nameNow_134 rfl rfl ?_
          refine j_iconst (pc := 135) dX12_nameNow_135 ?_
          refine j_bipush (pc := 136) dX12_nameNow_136 rfl ?_
          refine j_bipush (pc := 138) dX12_nameNow_138 rfl ?_
          refine j_bipush (pc := 140) dX12_nameNow_140 rfl ?_
          refine j_bipush (pc := 142) dX12_nameNow_142 rfl ?_
          refine j_callV (pc := 144) (As := [vI 5, vI 112, vI 108, vI 97, vI 99]) (st := []) (c_X12_is hM 5 (by (first | decide | exact ⟨by omega, by omega⟩)) 112 (by (first | decide | exact ⟨by omega, by omega⟩)) 108 (by (first | decide | exact ⟨by omega, by omega⟩)) 97 (by (first | decide | exact ⟨by omega, by omega⟩)) 99 (by (first | decide | exact ⟨by omega, by omega⟩)) σ hI) mv_X12_107 rfl rfl rfl (a_88 hM) dX12_nameNow_144 ⟨Nat.le_of_ble_eq_true rfl, Nat.le_of_ble_eq_true rfl⟩ ⟨Nat.le_refl _, Nat.le_refl _⟩ rfl (Nat.le_of_ble_eq_true rfl) rfl (fun z21 σ22 hz21 => ?_)
          obtain ⟨r24, rfl, hr24, rfl, q23_0⟩ := hz21
          replace q23_0 : (r24 = 1 ∧ σ 88 13 - σ 88 14 = (5 : Int) ∧ fM σ (σ 88 14) = (112 : Int) ∧ fM σ (σ 88 14 + 1) = (108 : Int) ∧ ((5 : Int) < 3 ∨ fM σ (σ 88 14 + 2) = (97 : Int)) ∧ ((5 : Int) < 4 ∨ fM σ (σ 88 14 + 3) = (99 : Int))) ∨ (r24 = 0 ∧ ¬ (σ 88 13 - σ 88 14 = (5 : Int) ∧ fM σ (σ 88 14) = (112 : Int) ∧ fM σ (σ 88 14 + 1) = (108 : Int) ∧ ((5 : Int) < 3 ∨ fM σ (σ 88 14 + 2) = (97 : Int)) ∧ ((5 : Int) < 4 ∨ fM σ (σ 88 14 + 3) = (99 : Int)))) := q23_0
          refine j_st (st' := [vI r24]) rfl ?_
          refine j_ifR_eq (pc := 147) (tgt := 167) ⟨by omega, by omega⟩ dX12_nameNow_147 rfl (fun h25 => ?_) (fun h25 => ?_)
          · have z4 : ¬ nm (fM σ) (σ 88 14) (σ 88 13) 4 = 1 := by (have e := nmE_4 (fM σ) (σ 88 14) (σ 88 13)); omega
            clear q23_0
            refine j_aload_n (pc := 167) dX12_nameNow_167 rfl rfl ?_
            refine j_iconst (pc := 168) dX12_nameNow_168 ?_
            refine j_bipush (pc := 169) dX12_nameNow_169 rfl ?_
            refine j_bipush (pc := 171) dX12_nameNow_171 rfl ?_
            refine j_bipush (pc := 173) dX12_nameNow_173 rfl ?_
            refine j_bipush (pc := 175) dX12_nameNow_175 rfl ?_
            refine j_callV (pc := 177) (As := [vI 4, vI 114, vI 111, vI 112, vI 101]) (st := []) (c_X12_is hM 4 (by (first | decide | exact ⟨by omega, by omega⟩)) 114 (by (first | decide | exact ⟨by omega, by omega⟩)) 111 (by (first | decide | exact ⟨by omega, by omega⟩)) 112 (by (first | decide | exact ⟨by omega, by omega⟩)) 101 (by (first | decide | exact ⟨by omega, by omega⟩)) σ hI) mv_X12_107 rfl rfl rfl (a_88 hM) dX12_nameNow_177 ⟨Nat.le_of_ble_eq_true rfl, Nat.le_of_ble_eq_true rfl⟩ ⟨Nat.le_refl _, Nat.le_refl _⟩ rfl (Nat.le_of_ble_eq_true rfl) rfl (fun z26 σ27 hz26 => ?_)
            obtain ⟨r29, rfl, hr29, rfl, q28_0⟩ := hz26
            replace q28_0 : (r29 = 1 ∧ σ 88 13 - σ 88 14 = (4 : Int) ∧ fM σ (σ 88 14) = (114 : Int) ∧ fM σ (σ 88 14 + 1) = (111 : Int) ∧ ((4 : Int) < 3 ∨ fM σ (σ 88 14 + 2) = (112 : Int)) ∧ ((4 : Int) < 4 ∨ fM σ (σ 88 14 + 3) = (101 : Int))) ∨ (r29 = 0 ∧ ¬ (σ 88 13 - σ 88 14 = (4 : Int) ∧ fM σ (σ 88 14) = (114 : Int) ∧ fM σ (σ 88 14 + 1) = (111 : Int) ∧ ((4 : Int) < 3 ∨ fM σ (σ 88 14 + 2) = (112 : Int)) ∧ ((4 : Int) < 4 ∨ fM σ (σ 88 14 + 3) = (101 : Int)))) := q28_0
            refine j_st (st' := [vI r29]) rfl ?_
            refine j_ifR_eq (pc := 180) (tgt := 185) ⟨by omega, by omega⟩ dX12_nameNow_180 rfl (fun h30 => ?_) (fun h30 => ?_)
            · have z5 : ¬ nm (fM σ) (σ 88 14) (σ 88 13) 5 = 1 := by (have e := nmE_5 (fM σ) (σ 88 14) (σ 88 13)); omega
              clear q28_0
              refine j_aload_n (pc := 185) dX12_nameNow_185 rfl rfl ?_
              refine j_iconst (pc := 186) dX12_nameNow_186 ?_
              refine j_bipush (pc := 187) dX12_nameNow_187 rfl ?_
              refine j_bipush (pc := 189) dX12_nameNow_189 rfl ?_
              refine j_bipush (pc := 191) dX12_nameNow_191 rfl ?_
              refine j_bipush (pc := 193) dX12_nameNow_193 rfl ?_
              refine j_callV (pc := 195) (As := [vI 4, vI 103, vI 105, vI 118, vI 101]) (st := []) (c_X12_is hM 4 (by (first | decide | exact ⟨by omega, by omega⟩)) 103 (by (first | decide | exact ⟨by omega, by omega⟩)) 105 (by (first | decide | exact ⟨by omega, by omega⟩)) 118 (by (first | decide | exact ⟨by omega, by omega⟩)) 101 (by (first | decide | exact ⟨by omega, by omega⟩)) σ hI) mv_X12_107 rfl rfl rfl (a_88 hM) dX12_nameNow_195 ⟨Nat.le_of_ble_eq_true rfl, Nat.le_of_ble_eq_true rfl⟩ ⟨Nat.le_refl _, Nat.le_refl _⟩ rfl (Nat.le_of_ble_eq_true rfl) rfl (fun z31 σ32 hz31 => ?_)
              obtain ⟨r34, rfl, hr34, rfl, q33_0⟩ := hz31
              replace q33_0 : (r34 = 1 ∧ σ 88 13 - σ 88 14 = (4 : Int) ∧ fM σ (σ 88 14) = (103 : Int) ∧ fM σ (σ 88 14 + 1) = (105 : Int) ∧ ((4 : Int) < 3 ∨ fM σ (σ 88 14 + 2) = (118 : Int)) ∧ ((4 : Int) < 4 ∨ fM σ (σ 88 14 + 3) = (101 : Int))) ∨ (r34 = 0 ∧ ¬ (σ 88 13 - σ 88 14 = (4 : Int) ∧ fM σ (σ 88 14) = (103 : Int) ∧ fM σ (σ 88 14 + 1) = (105 : Int) ∧ ((4 : Int) < 3 ∨ fM σ (σ 88 14 + 2) = (118 : Int)) ∧ ((4 : Int) < 4 ∨ fM σ (σ 88 14 + 3) = (101 : Int)))) := q33_0
              refine j_st (st' := [vI r34]) rfl ?_
              refine j_ifR_eq (pc := 198) (tgt := 203) ⟨by omega, by omega⟩ dX12_nameNow_198 rfl (fun h35 => ?_) (fun h35 => ?_)
              · have z6 : ¬ nm (fM σ) (σ 88 14) (σ 88 13) 6 = 1 := by (have e := nmE_6 (fM σ) (σ 88 14) (σ 88 13)); omega
                clear q33_0
                refine j_aload_n (pc := 203) dX12_nameNow_203 rfl rfl ?_
                refine j_iconst (pc := 204) dX12_nameNow_204 ?_
                refine j_bipush (pc := 205) dX12_nameNow_205 rfl ?_
                refine j_bipush (pc := 207) dX12_nameNow_207 rfl ?_
                refine j_bipush (pc := 209) dX12_nameNow_209 rfl ?_
                refine j_bipush (pc := 211) dX12_nameNow_211 rfl ?_
                refine j_callV (pc := 213) (As := [vI 4, vI 102, vI 105, vI 116, vI 115]) (st := []) (c_X12_is hM 4 (by (first | decide | exact ⟨by omega, by omega⟩)) 102 (by (first | decide | exact ⟨by omega, by omega⟩)) 105 (by (first | decide | exact ⟨by omega, by omega⟩)) 116 (by (first | decide | exact ⟨by omega, by omega⟩)) 115 (by (first | decide | exact ⟨by omega, by omega⟩)) σ hI) mv_X12_107 rfl rfl rfl (a_88 hM) dX12_nameNow_213 ⟨Nat.le_of_ble_eq_true rfl, Nat.le_of_ble_eq_true rfl⟩ ⟨Nat.le_refl _, Nat.le_refl _⟩ rfl (Nat.le_of_ble_eq_true rfl) rfl (fun z36 σ37 hz36 => ?_)
                obtain ⟨r39, rfl, hr39, rfl, q38_0⟩ := hz36
                replace q38_0 : (r39 = 1 ∧ σ 88 13 - σ 88 14 = (4 : Int) ∧ fM σ (σ 88 14) = (102 : Int) ∧ fM σ (σ 88 14 + 1) = (105 : Int) ∧ ((4 : Int) < 3 ∨ fM σ (σ 88 14 + 2) = (116 : Int)) ∧ ((4 : Int) < 4 ∨ fM σ (σ 88 14 + 3) = (115 : Int))) ∨ (r39 = 0 ∧ ¬ (σ 88 13 - σ 88 14 = (4 : Int) ∧ fM σ (σ 88 14) = (102 : Int) ∧ fM σ (σ 88 14 + 1) = (105 : Int) ∧ ((4 : Int) < 3 ∨ fM σ (σ 88 14 + 2) = (116 : Int)) ∧ ((4 : Int) < 4 ∨ fM σ (σ 88 14 + 3) = (115 : Int)))) := q38_0
                refine j_st (st' := [vI r39]) rfl ?_
                refine j_ifR_eq (pc := 216) (tgt := 221) ⟨by omega, by omega⟩ dX12_nameNow_216 rfl (fun h40 => ?_) (fun h40 => ?_)
                · have z7 : ¬ nm (fM σ) (σ 88 14) (σ 88 13) 7 = 1 := by (have e := nmE_7 (fM σ) (σ 88 14) (σ 88 13)); omega
                  clear q38_0
                  refine j_aload_n (pc := 221) dX12_nameNow_221 rfl rfl ?_
                  refine j_iconst (pc := 222) dX12_nameNow_222 ?_
                  refine j_bipush (pc := 223) dX12_nameNow_223 rfl ?_
                  refine j_bipush (pc := 225) dX12_nameNow_225 rfl ?_
                  refine j_bipush (pc := 227) dX12_nameNow_227 rfl ?_
                  refine j_bipush (pc := 229) dX12_nameNow_229 rfl ?_
                  refine j_callV (pc := 231) (As := [vI 5, vI 104, vI 111, vI 108, vI 100]) (st := []) (c_X12_is hM 5 (by (first | decide | exact ⟨by omega, by omega⟩)) 104 (by (first | decide | exact ⟨by omega, by omega⟩)) 111 (by (first | decide | exact ⟨by omega, by omega⟩)) 108 (by (first | decide | exact ⟨by omega, by omega⟩)) 100 (by (first | decide | exact ⟨by omega, by omega⟩)) σ hI) mv_X12_107 rfl rfl rfl (a_88 hM) dX12_nameNow_231 ⟨Nat.le_of_ble_eq_true rfl, Nat.le_of_ble_eq_true rfl⟩ ⟨Nat.le_refl _, Nat.le_refl _⟩ rfl (Nat.le_of_ble_eq_true rfl) rfl (fun z41 σ42 hz41 => ?_)
                  obtain ⟨r44, rfl, hr44, rfl, q43_0⟩ := hz41
                  replace q43_0 : (r44 = 1 ∧ σ 88 13 - σ 88 14 = (5 : Int) ∧ fM σ (σ 88 14) = (104 : Int) ∧ fM σ (σ 88 14 + 1) = (111 : Int) ∧ ((5 : Int) < 3 ∨ fM σ (σ 88 14 + 2) = (108 : Int)) ∧ ((5 : Int) < 4 ∨ fM σ (σ 88 14 + 3) = (100 : Int))) ∨ (r44 = 0 ∧ ¬ (σ 88 13 - σ 88 14 = (5 : Int) ∧ fM σ (σ 88 14) = (104 : Int) ∧ fM σ (σ 88 14 + 1) = (111 : Int) ∧ ((5 : Int) < 3 ∨ fM σ (σ 88 14 + 2) = (108 : Int)) ∧ ((5 : Int) < 4 ∨ fM σ (σ 88 14 + 3) = (100 : Int)))) := q43_0
                  refine j_st (st' := [vI r44]) rfl ?_
                  refine j_ifR_eq (pc := 234) (tgt := 255) ⟨by omega, by omega⟩ dX12_nameNow_234 rfl (fun h45 => ?_) (fun h45 => ?_)
                  · have z8 : ¬ nm (fM σ) (σ 88 14) (σ 88 13) 8 = 1 := by (have e := nmE_8 (fM σ) (σ 88 14) (σ 88 13)); omega
                    clear q43_0
                    refine j_aload_n (pc := 255) dX12_nameNow_255 rfl rfl ?_
                    refine j_iconst (pc := 256) dX12_nameNow_256 ?_
                    refine j_bipush (pc := 257) dX12_nameNow_257 rfl ?_
                    refine j_bipush (pc := 259) dX12_nameNow_259 rfl ?_
                    refine j_bipush (pc := 261) dX12_nameNow_261 rfl ?_
                    refine j_iconst (pc := 263) dX12_nameNow_263 ?_
                    refine j_callV (pc := 264) (As := [vI 3, vI 108, vI 111, vI 119, vI 0]) (st := []) (c_X12_is hM 3 (by (first | decide | exact ⟨by omega, by omega⟩)) 108 (by (first | decide | exact ⟨by omega, by omega⟩)) 111 (by (first | decide | exact ⟨by omega, by omega⟩)) 119 (by (first | decide | exact ⟨by omega, by omega⟩)) 0 (by (first | decide | exact ⟨by omega, by omega⟩)) σ hI) mv_X12_107 rfl rfl rfl (a_88 hM) dX12_nameNow_264 ⟨Nat.le_of_ble_eq_true rfl, Nat.le_of_ble_eq_true rfl⟩ ⟨Nat.le_refl _, Nat.le_refl _⟩ rfl (Nat.le_of_ble_eq_true rfl) rfl (fun z46 σ47 hz46 => ?_)
                    obtain ⟨r49, rfl, hr49, rfl, q48_0⟩ := hz46
                    replace q48_0 : (r49 = 1 ∧ σ 88 13 - σ 88 14 = (3 : Int) ∧ fM σ (σ 88 14) = (108 : Int) ∧ fM σ (σ 88 14 + 1) = (111 : Int) ∧ ((3 : Int) < 3 ∨ fM σ (σ 88 14 + 2) = (119 : Int)) ∧ ((3 : Int) < 4 ∨ fM σ (σ 88 14 + 3) = (0 : Int))) ∨ (r49 = 0 ∧ ¬ (σ 88 13 - σ 88 14 = (3 : Int) ∧ fM σ (σ 88 14) = (108 : Int) ∧ fM σ (σ 88 14 + 1) = (111 : Int) ∧ ((3 : Int) < 3 ∨ fM σ (σ 88 14 + 2) = (119 : Int)) ∧ ((3 : Int) < 4 ∨ fM σ (σ 88 14 + 3) = (0 : Int)))) := q48_0
                    refine j_st (st' := [vI r49]) rfl ?_
                    refine j_ifR_eq (pc := 267) (tgt := 275) ⟨by omega, by omega⟩ dX12_nameNow_267 rfl (fun h50 => ?_) (fun h50 => ?_)
                    · have z9 : ¬ nm (fM σ) (σ 88 14) (σ 88 13) 9 = 1 := by (have e := nmE_9 (fM σ) (σ 88 14) (σ 88 13)); omega
                      clear q48_0
                      have zl : lnm (fM σ) 1 (σ 88 14) (σ 88 13) = -1 := by unfold lnm; rw [if_neg (by decide)]; repeat (first | rw [if_pos (by omega)] | rw [if_neg (by omega)])
                      refine j_aload_n (pc := 275) dX12_nameNow_275 rfl rfl ?_
                      refine j_callV (pc := 276) (As := []) (st := []) (c_X12_withNow hM σ hI) mv_X12_111 rfl rfl rfl (a_88 hM) dX12_nameNow_276 ⟨Nat.le_of_ble_eq_true rfl, Nat.le_of_ble_eq_true rfl⟩ ⟨Nat.le_refl _, Nat.le_refl _⟩ rfl (Nat.le_of_ble_eq_true rfl) rfl (fun z51 σ52 hz51 => ?_)
                      obtain ⟨r54, rfl, hr54, rfl, q53_0, q53_1⟩ := hz51
                      replace q53_0 : r54 = -4 ∨ 20 ≤ r54 := q53_0
                      replace q53_1 : (r54 = -4 ∧ wnm (fM σ) 1 (σ 88 14) (σ 88 13) = -1) ∨ (r54 = 20 + wnm (fM σ) 1 (σ 88 14) (σ 88 13) ∧ 0 ≤ wnm (fM σ) 1 (σ 88 14) (σ 88 13) ∧ wnm (fM σ) 1 (σ 88 14) (σ 88 13) ≤ 3) := q53_1
                      refine j_st (st' := [vI r54]) rfl ?_
                      exact j_iret (pc := 279) ⟨rfl, rfl⟩ dX12_nameNow_279 rfl ⟨_, rfl, ⟨by omega, by omega⟩, rfl, by omega⟩
                    · have z9 : nm (fM σ) (σ 88 14) (σ 88 13) 9 = 1 := by (have e := nmE_9 (fM σ) (σ 88 14) (σ 88 13)); omega
                      clear q48_0
                      have zl : lnm (fM σ) 1 (σ 88 14) (σ 88 13) = 8 := by unfold lnm; rw [if_neg (by decide)]; repeat (first | rw [if_pos (by omega)] | rw [if_neg (by omega)])
                      refine j_bipush (pc := 270) dX12_nameNow_270 rfl ?_
                      refine j_goto (pc := 272) (tgt := 279) dX12_nameNow_272 rfl ?_
                      exact j_iret (pc := 279) ⟨rfl, rfl⟩ dX12_nameNow_279 rfl ⟨_, rfl, ⟨by omega, by omega⟩, rfl, by omega⟩
                  · refine j_aload_n (pc := 237) dX12_nameNow_237 rfl rfl ?_
                    refine j_aload_n (pc := 238) dX12_nameNow_238 rfl rfl ?_
                    refine j_getI (pc := 239) fl_X12_94 dX12_nameNow_239 (a_88 hM) rfl ?_
                    have f55 : (0 : Int) ≤ σ 88 14 ∧ σ 88 14 ≤ 400 := hI 88 14
                    refine j_iconst (pc := 242) dX12_nameNow_242 ?_
                    refine j_iadd (pc := 243) dX12_nameNow_243 ?_
                    refine j_callV (pc := 244) (As := [vI ((σ 88 14) + 4)]) (st := []) (c_X12_look hM ((σ 88 14) + 4) ⟨by omega, by omega⟩ σ hI) mv_X12_103 rfl rfl rfl (a_88 hM) dX12_nameNow_244 ⟨Nat.le_of_ble_eq_true rfl, Nat.le_of_ble_eq_true rfl⟩ ⟨Nat.le_refl _, Nat.le_refl _⟩ rfl (Nat.le_of_ble_eq_true rfl) rfl (fun z56 σ57 hz56 => ?_)
                    obtain ⟨r59, rfl, hr59, rfl, q58_0, q58_1⟩ := hz56
                    replace q58_0 : (((σ 88 14) + 4) < σ 88 12 ∧ r59 = σ 98 ((σ 88 14) + 4).toNat) ∨ (¬ ((σ 88 14) + 4) < σ 88 12 ∧ r59 = -1) := q58_0
                    replace q58_1 : r59 = fM σ ((σ 88 14) + 4) := q58_1
                    refine j_st (st' := [vI r59]) rfl ?_
                    refine j_bipush (pc := 247) dX12_nameNow_247 rfl ?_
                    refine j_icmpR_ne (pc := 249) (tgt := 255) ⟨by omega, by omega⟩ ⟨by omega, by omega⟩ dX12_nameNow_249 rfl (fun h60 => ?_) (fun h60 => ?_)
                    · have z8 : ¬ nm (fM σ) (σ 88 14) (σ 88 13) 8 = 1 := by (have e := nmE_8 (fM σ) (σ 88 14) (σ 88 13)); omega
                      clear q43_0 q58_0 q58_1
                      refine j_aload_n (pc := 255) dX12_nameNow_255 rfl rfl ?_
                      refine j_iconst (pc := 256) dX12_nameNow_256 ?_
                      refine j_bipush (pc := 257) dX12_nameNow_257 rfl ?_
                      refine j_bipush (pc := 259) dX12_nameNow_259 rfl ?_
                      refine j_bipush (pc := 261) dX12_nameNow_261 rfl ?_
                      refine j_iconst (pc := 263) dX12_nameNow_263 ?_
                      refine j_callV (pc := 264) (As := [vI 3, vI 108, vI 111, vI 119, vI 0]) (st := []) (c_X12_is hM 3 (by (first | decide | exact ⟨by omega, by omega⟩)) 108 (by (first | decide | exact ⟨by omega, by omega⟩)) 111 (by (first | decide | exact ⟨by omega, by omega⟩)) 119 (by (first | decide | exact ⟨by omega, by omega⟩)) 0 (by (first | decide | exact ⟨by omega, by omega⟩)) σ hI) mv_X12_107 rfl rfl rfl (a_88 hM) dX12_nameNow_264 ⟨Nat.le_of_ble_eq_true rfl, Nat.le_of_ble_eq_true rfl⟩ ⟨Nat.le_refl _, Nat.le_refl _⟩ rfl (Nat.le_of_ble_eq_true rfl) rfl (fun z61 σ62 hz61 => ?_)
                      obtain ⟨r64, rfl, hr64, rfl, q63_0⟩ := hz61
                      replace q63_0 : (r64 = 1 ∧ σ 88 13 - σ 88 14 = (3 : Int) ∧ fM σ (σ 88 14) = (108 : Int) ∧ fM σ (σ 88 14 + 1) = (111 : Int) ∧ ((3 : Int) < 3 ∨ fM σ (σ 88 14 + 2) = (119 : Int)) ∧ ((3 : Int) < 4 ∨ fM σ (σ 88 14 + 3) = (0 : Int))) ∨ (r64 = 0 ∧ ¬ (σ 88 13 - σ 88 14 = (3 : Int) ∧ fM σ (σ 88 14) = (108 : Int) ∧ fM σ (σ 88 14 + 1) = (111 : Int) ∧ ((3 : Int) < 3 ∨ fM σ (σ 88 14 + 2) = (119 : Int)) ∧ ((3 : Int) < 4 ∨ fM σ (σ 88 14 + 3) = (0 : Int)))) := q63_0
                      refine j_st (st' := [vI r64]) rfl ?_
                      refine j_ifR_eq (pc := 267) (tgt := 275) ⟨by omega, by omega⟩ dX12_nameNow_267 rfl (fun h65 => ?_) (fun h65 => ?_)
                      · have z9 : ¬ nm (fM σ) (σ 88 14) (σ 88 13) 9 = 1 := by (have e := nmE_9 (fM σ) (σ 88 14) (σ 88 13)); omega
                        clear q63_0
                        have zl : lnm (fM σ) 1 (σ 88 14) (σ 88 13) = -1 := by unfold lnm; rw [if_neg (by decide)]; repeat (first | rw [if_pos (by omega)] | rw [if_neg (by omega)])
                        refine j_aload_n (pc := 275) dX12_nameNow_275 rfl rfl ?_
                        refine j_callV (pc := 276) (As := []) (st := []) (c_X12_withNow hM σ hI) mv_X12_111 rfl rfl rfl (a_88 hM) dX12_nameNow_276 ⟨Nat.le_of_ble_eq_true rfl, Nat.le_of_ble_eq_true rfl⟩ ⟨Nat.le_refl _, Nat.le_refl _⟩ rfl (Nat.le_of_ble_eq_true rfl) rfl (fun z66 σ67 hz66 => ?_)
                        obtain ⟨r69, rfl, hr69, rfl, q68_0, q68_1⟩ := hz66
                        replace q68_0 : r69 = -4 ∨ 20 ≤ r69 := q68_0
                        replace q68_1 : (r69 = -4 ∧ wnm (fM σ) 1 (σ 88 14) (σ 88 13) = -1) ∨ (r69 = 20 + wnm (fM σ) 1 (σ 88 14) (σ 88 13) ∧ 0 ≤ wnm (fM σ) 1 (σ 88 14) (σ 88 13) ∧ wnm (fM σ) 1 (σ 88 14) (σ 88 13) ≤ 3) := q68_1
                        refine j_st (st' := [vI r69]) rfl ?_
                        exact j_iret (pc := 279) ⟨rfl, rfl⟩ dX12_nameNow_279 rfl ⟨_, rfl, ⟨by omega, by omega⟩, rfl, by omega⟩
                      · have z9 : nm (fM σ) (σ 88 14) (σ 88 13) 9 = 1 := by (have e := nmE_9 (fM σ) (σ 88 14) (σ 88 13)); omega
                        clear q63_0
                        have zl : lnm (fM σ) 1 (σ 88 14) (σ 88 13) = 8 := by unfold lnm; rw [if_neg (by decide)]; repeat (first | rw [if_pos (by omega)] | rw [if_neg (by omega)])
                        refine j_bipush (pc := 270) dX12_nameNow_270 rfl ?_
                        refine j_goto (pc := 272) (tgt := 279) dX12_nameNow_272 rfl ?_
                        exact j_iret (pc := 279) ⟨rfl, rfl⟩ dX12_nameNow_279 rfl ⟨_, rfl, ⟨by omega, by omega⟩, rfl, by omega⟩
                    · have z8 : nm (fM σ) (σ 88 14) (σ 88 13) 8 = 1 := by (have e := nmE_8 (fM σ) (σ 88 14) (σ 88 13)); omega
                      clear q43_0 q58_0 q58_1
                      have zl : lnm (fM σ) 1 (σ 88 14) (σ 88 13) = 7 := by unfold lnm; rw [if_neg (by decide)]; repeat (first | rw [if_pos (by omega)] | rw [if_neg (by omega)])
                      refine j_bipush (pc := 252) dX12_nameNow_252 rfl ?_
                      exact j_iret (pc := 254) ⟨rfl, rfl⟩ dX12_nameNow_254 rfl ⟨_, rfl, ⟨by omega, by omega⟩, rfl, by omega⟩
                · have z7 : nm (fM σ) (σ 88 14) (σ 88 13) 7 = 1 := by (have e := nmE_7 (fM σ) (σ 88 14) (σ 88 13)); omega
                  clear q38_0
                  have zl : lnm (fM σ) 1 (σ 88 14) (σ 88 13) = 5 := by unfold lnm; rw [if_neg (by decide)]; repeat (first | rw [if_pos (by omega)] | rw [if_neg (by omega)])
                  refine j_iconst (pc := 219) dX12_nameNow_219 ?_
                  exact j_iret (pc := 220) ⟨rfl, rfl⟩ dX12_nameNow_220 rfl ⟨_, rfl, ⟨by omega, by omega⟩, rfl, by omega⟩
              · have z6 : nm (fM σ) (σ 88 14) (σ 88 13) 6 = 1 := by (have e := nmE_6 (fM σ) (σ 88 14) (σ 88 13)); omega
                clear q33_0
                have zl : lnm (fM σ) 1 (σ 88 14) (σ 88 13) = 4 := by unfold lnm; rw [if_neg (by decide)]; repeat (first | rw [if_pos (by omega)] | rw [if_neg (by omega)])
                refine j_iconst (pc := 201) dX12_nameNow_201 ?_
                exact j_iret (pc := 202) ⟨rfl, rfl⟩ dX12_nameNow_202 rfl ⟨_, rfl, ⟨by omega, by omega⟩, rfl, by omega⟩
            · have z5 : nm (fM σ) (σ 88 14) (σ 88 13) 5 = 1 := by (have e := nmE_5 (fM σ) (σ 88 14) (σ 88 13)); omega
              clear q28_0
              have zl : lnm (fM σ) 1 (σ 88 14) (σ 88 13) = 3 := by unfold lnm; rw [if_neg (by decide)]; repeat (first | rw [if_pos (by omega)] | rw [if_neg (by omega)])
              refine j_iconst (pc := 183) dX12_nameNow_183 ?_
              exact j_iret (pc := 184) ⟨rfl, rfl⟩ dX12_nameNow_184 rfl ⟨_, rfl, ⟨by omega, by omega⟩, rfl, by omega⟩
          · refine j_aload_n (pc := 150) dX12_nameNow_150 rfl rfl ?_
            refine j_aload_n (pc := 151) dX12_nameNow_151 rfl rfl ?_
            refine j_getI (pc := 152) fl_X12_94 dX12_nameNow_152 (a_88 hM) rfl ?_
            have f70 : (0 : Int) ≤ σ 88 14 ∧ σ 88 14 ≤ 400 := hI 88 14
            refine j_iconst (pc := 155) dX12_nameNow_155 ?_
            refine j_iadd (pc := 156) dX12_nameNow_156 ?_
            refine j_callV (pc := 157) (As := [vI ((σ 88 14) + 4)]) (st := []) (c_X12_look hM ((σ 88 14) + 4) ⟨by omega, by omega⟩ σ hI) mv_X12_103 rfl rfl rfl (a_88 hM) dX12_nameNow_157 ⟨Nat.le_of_ble_eq_true rfl, Nat.le_of_ble_eq_true rfl⟩ ⟨Nat.le_refl _, Nat.le_refl _⟩ rfl (Nat.le_of_ble_eq_true rfl) rfl (fun z71 σ72 hz71 => ?_)
            obtain ⟨r74, rfl, hr74, rfl, q73_0, q73_1⟩ := hz71
            replace q73_0 : (((σ 88 14) + 4) < σ 88 12 ∧ r74 = σ 98 ((σ 88 14) + 4).toNat) ∨ (¬ ((σ 88 14) + 4) < σ 88 12 ∧ r74 = -1) := q73_0
            replace q73_1 : r74 = fM σ ((σ 88 14) + 4) := q73_1
            refine j_st (st' := [vI r74]) rfl ?_
            refine j_bipush (pc := 160) dX12_nameNow_160 rfl ?_
            refine j_icmpR_ne (pc := 162) (tgt := 167) ⟨by omega, by omega⟩ ⟨by omega, by omega⟩ dX12_nameNow_162 rfl (fun h75 => ?_) (fun h75 => ?_)
            · have z4 : ¬ nm (fM σ) (σ 88 14) (σ 88 13) 4 = 1 := by (have e := nmE_4 (fM σ) (σ 88 14) (σ 88 13)); omega
              clear q23_0 q73_0 q73_1
              refine j_aload_n (pc := 167) dX12_nameNow_167 rfl rfl ?_
              refine j_iconst (pc := 168) dX12_nameNow_168 ?_
              refine j_bipush (pc := 169) dX12_nameNow_169 rfl ?_
              refine j_bipush (pc := 171) dX12_nameNow_171 rfl ?_
              refine j_bipush (pc := 173) dX12_nameNow_173 rfl ?_
              refine j_bipush (pc := 175) dX12_nameNow_175 rfl ?_
              refine j_callV (pc := 177) (As := [vI 4, vI 114, vI 111, vI 112, vI 101]) (st := []) (c_X12_is hM 4 (by (first | decide | exact ⟨by omega, by omega⟩)) 114 (by (first | decide | exact ⟨by omega, by omega⟩)) 111 (by (first | decide | exact ⟨by omega, by omega⟩)) 112 (by (first | decide | exact ⟨by omega, by omega⟩)) 101 (by (first | decide | exact ⟨by omega, by omega⟩)) σ hI) mv_X12_107 rfl rfl rfl (a_88 hM) dX12_nameNow_177 ⟨Nat.le_of_ble_eq_true rfl, Nat.le_of_ble_eq_true rfl⟩ ⟨Nat.le_refl _, Nat.le_refl _⟩ rfl (Nat.le_of_ble_eq_true rfl) rfl (fun z76 σ77 hz76 => ?_)
              obtain ⟨r79, rfl, hr79, rfl, q78_0⟩ := hz76
              replace q78_0 : (r79 = 1 ∧ σ 88 13 - σ 88 14 = (4 : Int) ∧ fM σ (σ 88 14) = (114 : Int) ∧ fM σ (σ 88 14 + 1) = (111 : Int) ∧ ((4 : Int) < 3 ∨ fM σ (σ 88 14 + 2) = (112 : Int)) ∧ ((4 : Int) < 4 ∨ fM σ (σ 88 14 + 3) = (101 : Int))) ∨ (r79 = 0 ∧ ¬ (σ 88 13 - σ 88 14 = (4 : Int) ∧ fM σ (σ 88 14) = (114 : Int) ∧ fM σ (σ 88 14 + 1) = (111 : Int) ∧ ((4 : Int) < 3 ∨ fM σ (σ 88 14 + 2) = (112 : Int)) ∧ ((4 : Int) < 4 ∨ fM σ (σ 88 14 + 3) = (101 : Int)))) := q78_0
              refine j_st (st' := [vI r79]) rfl ?_
              refine j_ifR_eq (pc := 180) (tgt := 185) ⟨by omega, by omega⟩ dX12_nameNow_180 rfl (fun h80 => ?_) (fun h80 => ?_)
              · have z5 : ¬ nm (fM σ) (σ 88 14) (σ 88 13) 5 = 1 := by (have e := nmE_5 (fM σ) (σ 88 14) (σ 88 13)); omega
                clear q78_0
                refine j_aload_n (pc := 185) dX12_nameNow_185 rfl rfl ?_
                refine j_iconst (pc := 186) dX12_nameNow_186 ?_
                refine j_bipush (pc := 187) dX12_nameNow_187 rfl ?_
                refine j_bipush (pc := 189) dX12_nameNow_189 rfl ?_
                refine j_bipush (pc := 191) dX12_nameNow_191 rfl ?_
                refine j_bipush (pc := 193) dX12_nameNow_193 rfl ?_
                refine j_callV (pc := 195) (As := [vI 4, vI 103, vI 105, vI 118, vI 101]) (st := []) (c_X12_is hM 4 (by (first | decide | exact ⟨by omega, by omega⟩)) 103 (by (first | decide | exact ⟨by omega, by omega⟩)) 105 (by (first | decide | exact ⟨by omega, by omega⟩)) 118 (by (first | decide | exact ⟨by omega, by omega⟩)) 101 (by (first | decide | exact ⟨by omega, by omega⟩)) σ hI) mv_X12_107 rfl rfl rfl (a_88 hM) dX12_nameNow_195 ⟨Nat.le_of_ble_eq_true rfl, Nat.le_of_ble_eq_true rfl⟩ ⟨Nat.le_refl _, Nat.le_refl _⟩ rfl (Nat.le_of_ble_eq_true rfl) rfl (fun z81 σ82 hz81 => ?_)
                obtain ⟨r84, rfl, hr84, rfl, q83_0⟩ := hz81
                replace q83_0 : (r84 = 1 ∧ σ 88 13 - σ 88 14 = (4 : Int) ∧ fM σ (σ 88 14) = (103 : Int) ∧ fM σ (σ 88 14 + 1) = (105 : Int) ∧ ((4 : Int) < 3 ∨ fM σ (σ 88 14 + 2) = (118 : Int)) ∧ ((4 : Int) < 4 ∨ fM σ (σ 88 14 + 3) = (101 : Int))) ∨ (r84 = 0 ∧ ¬ (σ 88 13 - σ 88 14 = (4 : Int) ∧ fM σ (σ 88 14) = (103 : Int) ∧ fM σ (σ 88 14 + 1) = (105 : Int) ∧ ((4 : Int) < 3 ∨ fM σ (σ 88 14 + 2) = (118 : Int)) ∧ ((4 : Int) < 4 ∨ fM σ (σ 88 14 + 3) = (101 : Int)))) := q83_0
                refine j_st (st' := [vI r84]) rfl ?_
                refine j_ifR_eq (pc := 198) (tgt := 203) ⟨by omega, by omega⟩ dX12_nameNow_198 rfl (fun h85 => ?_) (fun h85 => ?_)
                · have z6 : ¬ nm (fM σ) (σ 88 14) (σ 88 13) 6 = 1 := by (have e := nmE_6 (fM σ) (σ 88 14) (σ 88 13)); omega
                  clear q83_0
                  refine j_aload_n (pc := 203) dX12_nameNow_203 rfl rfl ?_
                  refine j_iconst (pc := 204) dX12_nameNow_204 ?_
                  refine j_bipush (pc := 205) dX12_nameNow_205 rfl ?_
                  refine j_bipush (pc := 207) dX12_nameNow_207 rfl ?_
                  refine j_bipush (pc := 209) dX12_nameNow_209 rfl ?_
                  refine j_bipush (pc := 211) dX12_nameNow_211 rfl ?_
                  refine j_callV (pc := 213) (As := [vI 4, vI 102, vI 105, vI 116, vI 115]) (st := []) (c_X12_is hM 4 (by (first | decide | exact ⟨by omega, by omega⟩)) 102 (by (first | decide | exact ⟨by omega, by omega⟩)) 105 (by (first | decide | exact ⟨by omega, by omega⟩)) 116 (by (first | decide | exact ⟨by omega, by omega⟩)) 115 (by (first | decide | exact ⟨by omega, by omega⟩)) σ hI) mv_X12_107 rfl rfl rfl (a_88 hM) dX12_nameNow_213 ⟨Nat.le_of_ble_eq_true rfl, Nat.le_of_ble_eq_true rfl⟩ ⟨Nat.le_refl _, Nat.le_refl _⟩ rfl (Nat.le_of_ble_eq_true rfl) rfl (fun z86 σ87 hz86 => ?_)
                  obtain ⟨r89, rfl, hr89, rfl, q88_0⟩ := hz86
                  replace q88_0 : (r89 = 1 ∧ σ 88 13 - σ 88 14 = (4 : Int) ∧ fM σ (σ 88 14) = (102 : Int) ∧ fM σ (σ 88 14 + 1) = (105 : Int) ∧ ((4 : Int) < 3 ∨ fM σ (σ 88 14 + 2) = (116 : Int)) ∧ ((4 : Int) < 4 ∨ fM σ (σ 88 14 + 3) = (115 : Int))) ∨ (r89 = 0 ∧ ¬ (σ 88 13 - σ 88 14 = (4 : Int) ∧ fM σ (σ 88 14) = (102 : Int) ∧ fM σ (σ 88 14 + 1) = (105 : Int) ∧ ((4 : Int) < 3 ∨ fM σ (σ 88 14 + 2) = (116 : Int)) ∧ ((4 : Int) < 4 ∨ fM σ (σ 88 14 + 3) = (115 : Int)))) := q88_0
                  refine j_st (st' := [vI r89]) rfl ?_
                  refine j_ifR_eq (pc := 216) (tgt := 221) ⟨by omega, by omega⟩ dX12_nameNow_216 rfl (fun h90 => ?_) (fun h90 => ?_)
                  · have z7 : ¬ nm (fM σ) (σ 88 14) (σ 88 13) 7 = 1 := by (have e := nmE_7 (fM σ) (σ 88 14) (σ 88 13)); omega
                    clear q88_0
                    refine j_aload_n (pc := 221) dX12_nameNow_221 rfl rfl ?_
                    refine j_iconst (pc := 222) dX12_nameNow_222 ?_
                    refine j_bipush (pc := 223) dX12_nameNow_223 rfl ?_
                    refine j_bipush (pc := 225) dX12_nameNow_225 rfl ?_
                    refine j_bipush (pc := 227) dX12_nameNow_227 rfl ?_
                    refine j_bipush (pc := 229) dX12_nameNow_229 rfl ?_
                    refine j_callV (pc := 231) (As := [vI 5, vI 104, vI 111, vI 108, vI 100]) (st := []) (c_X12_is hM 5 (by (first | decide | exact ⟨by omega, by omega⟩)) 104 (by (first | decide | exact ⟨by omega, by omega⟩)) 111 (by (first | decide | exact ⟨by omega, by omega⟩)) 108 (by (first | decide | exact ⟨by omega, by omega⟩)) 100 (by (first | decide | exact ⟨by omega, by omega⟩)) σ hI) mv_X12_107 rfl rfl rfl (a_88 hM) dX12_nameNow_231 ⟨Nat.le_of_ble_eq_true rfl, Nat.le_of_ble_eq_true rfl⟩ ⟨Nat.le_refl _, Nat.le_refl _⟩ rfl (Nat.le_of_ble_eq_true rfl) rfl (fun z91 σ92 hz91 => ?_)
                    obtain ⟨r94, rfl, hr94, rfl, q93_0⟩ := hz91
                    replace q93_0 : (r94 = 1 ∧ σ 88 13 - σ 88 14 = (5 : Int) ∧ fM σ (σ 88 14) = (104 : Int) ∧ fM σ (σ 88 14 + 1) = (111 : Int) ∧ ((5 : Int) < 3 ∨ fM σ (σ 88 14 + 2) = (108 : Int)) ∧ ((5 : Int) < 4 ∨ fM σ (σ 88 14 + 3) = (100 : Int))) ∨ (r94 = 0 ∧ ¬ (σ 88 13 - σ 88 14 = (5 : Int) ∧ fM σ (σ 88 14) = (104 : Int) ∧ fM σ (σ 88 14 + 1) = (111 : Int) ∧ ((5 : Int) < 3 ∨ fM σ (σ 88 14 + 2) = (108 : Int)) ∧ ((5 : Int) < 4 ∨ fM σ (σ 88 14 + 3) = (100 : Int)))) := q93_0
                    refine j_st (st' := [vI r94]) rfl ?_
                    refine j_ifR_eq (pc := 234) (tgt := 255) ⟨by omega, by omega⟩ dX12_nameNow_234 rfl (fun h95 => ?_) (fun h95 => ?_)
                    · have z8 : ¬ nm (fM σ) (σ 88 14) (σ 88 13) 8 = 1 := by (have e := nmE_8 (fM σ) (σ 88 14) (σ 88 13)); omega
                      clear q93_0
                      refine j_aload_n (pc := 255) dX12_nameNow_255 rfl rfl ?_
                      refine j_iconst (pc := 256) dX12_nameNow_256 ?_
                      refine j_bipush (pc := 257) dX12_nameNow_257 rfl ?_
                      refine j_bipush (pc := 259) dX12_nameNow_259 rfl ?_
                      refine j_bipush (pc := 261) dX12_nameNow_261 rfl ?_
                      refine j_iconst (pc := 263) dX12_nameNow_263 ?_
                      refine j_callV (pc := 264) (As := [vI 3, vI 108, vI 111, vI 119, vI 0]) (st := []) (c_X12_is hM 3 (by (first | decide | exact ⟨by omega, by omega⟩)) 108 (by (first | decide | exact ⟨by omega, by omega⟩)) 111 (by (first | decide | exact ⟨by omega, by omega⟩)) 119 (by (first | decide | exact ⟨by omega, by omega⟩)) 0 (by (first | decide | exact ⟨by omega, by omega⟩)) σ hI) mv_X12_107 rfl rfl rfl (a_88 hM) dX12_nameNow_264 ⟨Nat.le_of_ble_eq_true rfl, Nat.le_of_ble_eq_true rfl⟩ ⟨Nat.le_refl _, Nat.le_refl _⟩ rfl (Nat.le_of_ble_eq_true rfl) rfl (fun z96 σ97 hz96 => ?_)
                      obtain ⟨r99, rfl, hr99, rfl, q98_0⟩ := hz96
                      replace q98_0 : (r99 = 1 ∧ σ 88 13 - σ 88 14 = (3 : Int) ∧ fM σ (σ 88 14) = (108 : Int) ∧ fM σ (σ 88 14 + 1) = (111 : Int) ∧ ((3 : Int) < 3 ∨ fM σ (σ 88 14 + 2) = (119 : Int)) ∧ ((3 : Int) < 4 ∨ fM σ (σ 88 14 + 3) = (0 : Int))) ∨ (r99 = 0 ∧ ¬ (σ 88 13 - σ 88 14 = (3 : Int) ∧ fM σ (σ 88 14) = (108 : Int) ∧ fM σ (σ 88 14 + 1) = (111 : Int) ∧ ((3 : Int) < 3 ∨ fM σ (σ 88 14 + 2) = (119 : Int)) ∧ ((3 : Int) < 4 ∨ fM σ (σ 88 14 + 3) = (0 : Int)))) := q98_0
                      refine j_st (st' := [vI r99]) rfl ?_
                      refine j_ifR_eq (pc := 267) (tgt := 275) ⟨by omega, by omega⟩ dX12_nameNow_267 rfl (fun h100 => ?_) (fun h100 => ?_)
                      · have z9 : ¬ nm (fM σ) (σ 88 14) (σ 88 13) 9 = 1 := by (have e := nmE_9 (fM σ) (σ 88 14) (σ 88 13)); omega
                        clear q98_0
                        have zl : lnm (fM σ) 1 (σ 88 14) (σ 88 13) = -1 := by unfold lnm; rw [if_neg (by decide)]; repeat (first | rw [if_pos (by omega)] | rw [if_neg (by omega)])
                        refine j_aload_n (pc := 275) dX12_nameNow_275 rfl rfl ?_
                        refine j_callV (pc := 276) (As := []) (st := []) (c_X12_withNow hM σ hI) mv_X12_111 rfl rfl rfl (a_88 hM) dX12_nameNow_276 ⟨Nat.le_of_ble_eq_true rfl, Nat.le_of_ble_eq_true rfl⟩ ⟨Nat.le_refl _, Nat.le_refl _⟩ rfl (Nat.le_of_ble_eq_true rfl) rfl (fun z101 σ102 hz101 => ?_)
                        obtain ⟨r104, rfl, hr104, rfl, q103_0, q103_1⟩ := hz101
                        replace q103_0 : r104 = -4 ∨ 20 ≤ r104 := q103_0
                        replace q103_1 : (r104 = -4 ∧ wnm (fM σ) 1 (σ 88 14) (σ 88 13) = -1) ∨ (r104 = 20 + wnm (fM σ) 1 (σ 88 14) (σ 88 13) ∧ 0 ≤ wnm (fM σ) 1 (σ 88 14) (σ 88 13) ∧ wnm (fM σ) 1 (σ 88 14) (σ 88 13) ≤ 3) := q103_1
                        refine j_st (st' := [vI r104]) rfl ?_
                        exact j_iret (pc := 279) ⟨rfl, rfl⟩ dX12_nameNow_279 rfl ⟨_, rfl, ⟨by omega, by omega⟩, rfl, by omega⟩
                      · have z9 : nm (fM σ) (σ 88 14) (σ 88 13) 9 = 1 := by (have e := nmE_9 (fM σ) (σ 88 14) (σ 88 13)); omega
                        clear q98_0
                        have zl : lnm (fM σ) 1 (σ 88 14) (σ 88 13) = 8 := by unfold lnm; rw [if_neg (by decide)]; repeat (first | rw [if_pos (by omega)] | rw [if_neg (by omega)])
                        refine j_bipush (pc := 270) dX12_nameNow_270 rfl ?_
                        refine j_goto (pc := 272) (tgt := 279) dX12_nameNow_272 rfl ?_
                        exact j_iret (pc := 279) ⟨rfl, rfl⟩ dX12_nameNow_279 rfl ⟨_, rfl, ⟨by omega, by omega⟩, rfl, by omega⟩
                    · refine j_aload_n (pc := 237) dX12_nameNow_237 rfl rfl ?_
                      refine j_aload_n (pc := 238) dX12_nameNow_238 rfl rfl ?_
                      refine j_getI (pc := 239) fl_X12_94 dX12_nameNow_239 (a_88 hM) rfl ?_
                      refine j_iconst (pc := 242) dX12_nameNow_242 ?_
                      refine j_iadd (pc := 243) dX12_nameNow_243 ?_
                      refine j_callV (pc := 244) (As := [vI ((σ 88 14) + 4)]) (st := []) (c_X12_look hM ((σ 88 14) + 4) ⟨by omega, by omega⟩ σ hI) mv_X12_103 rfl rfl rfl (a_88 hM) dX12_nameNow_244 ⟨Nat.le_of_ble_eq_true rfl, Nat.le_of_ble_eq_true rfl⟩ ⟨Nat.le_refl _, Nat.le_refl _⟩ rfl (Nat.le_of_ble_eq_true rfl) rfl (fun z105 σ106 hz105 => ?_)
                      obtain ⟨r108, rfl, hr108, rfl, q107_0, q107_1⟩ := hz105
                      replace q107_0 : (((σ 88 14) + 4) < σ 88 12 ∧ r108 = σ 98 ((σ 88 14) + 4).toNat) ∨ (¬ ((σ 88 14) + 4) < σ 88 12 ∧ r108 = -1) := q107_0
                      replace q107_1 : r108 = fM σ ((σ 88 14) + 4) := q107_1
                      refine j_st (st' := [vI r108]) rfl ?_
                      refine j_bipush (pc := 247) dX12_nameNow_247 rfl ?_
                      refine j_icmpR_ne (pc := 249) (tgt := 255) ⟨by omega, by omega⟩ ⟨by omega, by omega⟩ dX12_nameNow_249 rfl (fun h109 => ?_) (fun h109 => ?_)
                      · have z8 : ¬ nm (fM σ) (σ 88 14) (σ 88 13) 8 = 1 := by (have e := nmE_8 (fM σ) (σ 88 14) (σ 88 13)); omega
                        clear q93_0 q107_0 q107_1
                        refine j_aload_n (pc := 255) dX12_nameNow_255 rfl rfl ?_
                        refine j_iconst (pc := 256) dX12_nameNow_256 ?_
                        refine j_bipush (pc := 257) dX12_nameNow_257 rfl ?_
                        refine j_bipush (pc := 259) dX12_nameNow_259 rfl ?_
                        refine j_bipush (pc := 261) dX12_nameNow_261 rfl ?_
                        refine j_iconst (pc := 263) dX12_nameNow_263 ?_
                        refine j_callV (pc := 264) (As := [vI 3, vI 108, vI 111, vI 119, vI 0]) (st := []) (c_X12_is hM 3 (by (first | decide | exact ⟨by omega, by omega⟩)) 108 (by (first | decide | exact ⟨by omega, by omega⟩)) 111 (by (first | decide | exact ⟨by omega, by omega⟩)) 119 (by (first | decide | exact ⟨by omega, by omega⟩)) 0 (by (first | decide | exact ⟨by omega, by omega⟩)) σ hI) mv_X12_107 rfl rfl rfl (a_88 hM) dX12_nameNow_264 ⟨Nat.le_of_ble_eq_true rfl, Nat.le_of_ble_eq_true rfl⟩ ⟨Nat.le_refl _, Nat.le_refl _⟩ rfl (Nat.le_of_ble_eq_true rfl) rfl (fun z110 σ111 hz110 => ?_)
                        obtain ⟨r113, rfl, hr113, rfl, q112_0⟩ := hz110
                        replace q112_0 : (r113 = 1 ∧ σ 88 13 - σ 88 14 = (3 : Int) ∧ fM σ (σ 88 14) = (108 : Int) ∧ fM σ (σ 88 14 + 1) = (111 : Int) ∧ ((3 : Int) < 3 ∨ fM σ (σ 88 14 + 2) = (119 : Int)) ∧ ((3 : Int) < 4 ∨ fM σ (σ 88 14 + 3) = (0 : Int))) ∨ (r113 = 0 ∧ ¬ (σ 88 13 - σ 88 14 = (3 : Int) ∧ fM σ (σ 88 14) = (108 : Int) ∧ fM σ (σ 88 14 + 1) = (111 : Int) ∧ ((3 : Int) < 3 ∨ fM σ (σ 88 14 + 2) = (119 : Int)) ∧ ((3 : Int) < 4 ∨ fM σ (σ 88 14 + 3) = (0 : Int)))) := q112_0
                        refine j_st (st' := [vI r113]) rfl ?_
                        refine j_ifR_eq (pc := 267) (tgt := 275) ⟨by omega, by omega⟩ dX12_nameNow_267 rfl (fun h114 => ?_) (fun h114 => ?_)
                        · have z9 : ¬ nm (fM σ) (σ 88 14) (σ 88 13) 9 = 1 := by (have e := nmE_9 (fM σ) (σ 88 14) (σ 88 13)); omega
                          clear q112_0
                          have zl : lnm (fM σ) 1 (σ 88 14) (σ 88 13) = -1 := by unfold lnm; rw [if_neg (by decide)]; repeat (first | rw [if_pos (by omega)] | rw [if_neg (by omega)])
                          refine j_aload_n (pc := 275) dX12_nameNow_275 rfl rfl ?_
                          refine j_callV (pc := 276) (As := []) (st := []) (c_X12_withNow hM σ hI) mv_X12_111 rfl rfl rfl (a_88 hM) dX12_nameNow_276 ⟨Nat.le_of_ble_eq_true rfl, Nat.le_of_ble_eq_true rfl⟩ ⟨Nat.le_refl _, Nat.le_refl _⟩ rfl (Nat.le_of_ble_eq_true rfl) rfl (fun z115 σ116 hz115 => ?_)
                          obtain ⟨r118, rfl, hr118, rfl, q117_0, q117_1⟩ := hz115
                          replace q117_0 : r118 = -4 ∨ 20 ≤ r118 := q117_0
                          replace q117_1 : (r118 = -4 ∧ wnm (fM σ) 1 (σ 88 14) (σ 88 13) = -1) ∨ (r118 = 20 + wnm (fM σ) 1 (σ 88 14) (σ 88 13) ∧ 0 ≤ wnm (fM σ) 1 (σ 88 14) (σ 88 13) ∧ wnm (fM σ) 1 (σ 88 14) (σ 88 13) ≤ 3) := q117_1
                          refine j_st (st' := [vI r118]) rfl ?_
                          exact j_iret (pc := 279) ⟨rfl, rfl⟩ dX12_nameNow_279 rfl ⟨_, rfl, ⟨by omega, by omega⟩, rfl, by omega⟩
                        · have z9 : nm (fM σ) (σ 88 14) (σ 88 13) 9 = 1 := by (have e := nmE_9 (fM σ) (σ 88 14) (σ 88 13)); omega
                          clear q112_0
                          have zl : lnm (fM σ) 1 (σ 88 14) (σ 88 13) = 8 := by unfold lnm; rw [if_neg (by decide)]; repeat (first | rw [if_pos (by omega)] | rw [if_neg (by omega)])
                          refine j_bipush (pc := 270) dX12_nameNow_270 rfl ?_
                          refine j_goto (pc := 272) (tgt := 279) dX12_nameNow_272 rfl ?_
                          exact j_iret (pc := 279) ⟨rfl, rfl⟩ dX12_nameNow_279 rfl ⟨_, rfl, ⟨by omega, by omega⟩, rfl, by omega⟩
                      · have z8 : nm (fM σ) (σ 88 14) (σ 88 13) 8 = 1 := by (have e := nmE_8 (fM σ) (σ 88 14) (σ 88 13)); omega
                        clear q93_0 q107_0 q107_1
                        have zl : lnm (fM σ) 1 (σ 88 14) (σ 88 13) = 7 := by unfold lnm; rw [if_neg (by decide)]; repeat (first | rw [if_pos (by omega)] | rw [if_neg (by omega)])
                        refine j_bipush (pc := 252) dX12_nameNow_252 rfl ?_
                        exact j_iret (pc := 254) ⟨rfl, rfl⟩ dX12_nameNow_254 rfl ⟨_, rfl, ⟨by omega, by omega⟩, rfl, by omega⟩
                  · have z7 : nm (fM σ) (σ 88 14) (σ 88 13) 7 = 1 := by (have e := nmE_7 (fM σ) (σ 88 14) (σ 88 13)); omega
                    clear q88_0
                    have zl : lnm (fM σ) 1 (σ 88 14) (σ 88 13) = 5 := by unfold lnm; rw [if_neg (by decide)]; repeat (first | rw [if_pos (by omega)] | rw [if_neg (by omega)])
                    refine j_iconst (pc := 219) dX12_nameNow_219 ?_
                    exact j_iret (pc := 220) ⟨rfl, rfl⟩ dX12_nameNow_220 rfl ⟨_, rfl, ⟨by omega, by omega⟩, rfl, by omega⟩
                · have z6 : nm (fM σ) (σ 88 14) (σ 88 13) 6 = 1 := by (have e := nmE_6 (fM σ) (σ 88 14) (σ 88 13)); omega
                  clear q83_0
                  have zl : lnm (fM σ) 1 (σ 88 14) (σ 88 13) = 4 := by unfold lnm; rw [if_neg (by decide)]; repeat (first | rw [if_pos (by omega)] | rw [if_neg (by omega)])
                  refine j_iconst (pc := 201) dX12_nameNow_201 ?_
                  exact j_iret (pc := 202) ⟨rfl, rfl⟩ dX12_nameNow_202 rfl ⟨_, rfl, ⟨by omega, by omega⟩, rfl, by omega⟩
              · have z5 : nm (fM σ) (σ 88 14) (σ 88 13) 5 = 1 := by (have e := nmE_5 (fM σ) (σ 88 14) (σ 88 13)); omega
                clear q78_0
                have zl : lnm (fM σ) 1 (σ 88 14) (σ 88 13) = 3 := by unfold lnm; rw [if_neg (by decide)]; repeat (first | rw [if_pos (by omega)] | rw [if_neg (by omega)])
                refine j_iconst (pc := 183) dX12_nameNow_183 ?_
                exact j_iret (pc := 184) ⟨rfl, rfl⟩ dX12_nameNow_184 rfl ⟨_, rfl, ⟨by omega, by omega⟩, rfl, by omega⟩
            · have z4 : nm (fM σ) (σ 88 14) (σ 88 13) 4 = 1 := by (have e := nmE_4 (fM σ) (σ 88 14) (σ 88 13)); omega
              clear q23_0 q73_0 q73_1
              have zl : lnm (fM σ) 1 (σ 88 14) (σ 88 13) = 2 := by unfold lnm; rw [if_neg (by decide)]; repeat (first | rw [if_pos (by omega)] | rw [if_neg (by omega)])
              refine j_iconst (pc := 165) dX12_nameNow_165 ?_
              exact j_iret (pc := 166) ⟨rfl, rfl⟩ dX12_nameNow_166 rfl ⟨_, rfl, ⟨by omega, by omega⟩, rfl, by omega⟩
        · refine j_aload_n (pc := 70) dX12_nameNow_70 rfl rfl ?_
          refine j_aload_n (pc := 71) dX12_nameNow_71 rfl rfl ?_
          refine j_getI (pc := 72) fl_X12_94 dX12_nameNow_72 (a_88 hM) rfl ?_
          have f119 : (0 : Int) ≤ σ 88 14 ∧ σ 88 14 ≤ 400 := hI 88 14
          refine j_iconst (pc := 75) dX12_nameNow_75 ?_
          refine j_iadd (pc := 76) dX12_nameNow_76 ?_
          refine j_callV (pc := 77) (As := [vI ((σ 88 14) + 4)]) (st := []) (c_X12_look hM ((σ 88 14) + 4) ⟨by omega, by omega⟩ σ hI) mv_X12_103 rfl rfl rfl (a_88 hM) dX12_nameNow_77 ⟨Nat.le_of_ble_eq_true rfl, Nat.le_of_ble_eq_true rfl⟩ ⟨Nat.le_refl _, Nat.le_refl _⟩ rfl (Nat.le_of_ble_eq_true rfl) rfl (fun z120 σ121 hz120 => ?_)
          obtain ⟨r123, rfl, hr123, rfl, q122_0, q122_1⟩ := hz120
          replace q122_0 : (((σ 88 14) + 4) < σ 88 12 ∧ r123 = σ 98 ((σ 88 14) + 4).toNat) ∨ (¬ ((σ 88 14) + 4) < σ 88 12 ∧ r123 = -1) := q122_0
          replace q122_1 : r123 = fM σ ((σ 88 14) + 4) := q122_1
          refine j_st (st' := [vI r123]) rfl ?_
          refine j_bipush (pc := 80) dX12_nameNow_80 rfl ?_
          refine j_icmpR_ne (pc := 82) (tgt := 134) ⟨by omega, by omega⟩ ⟨by omega, by omega⟩ dX12_nameNow_82 rfl (fun h124 => ?_) (fun h124 => ?_)
          · have z3 : ¬ nm (fM σ) (σ 88 14) (σ 88 13) 3 = 1 := by (have e := nmE_3 (fM σ) (σ 88 14) (σ 88 13)); omega
            clear q18_0 q122_0 q122_1
            refine j_aload_n (pc := 134) dX12_nameNow_134 rfl rfl ?_
            refine j_iconst (pc := 135) dX12_nameNow_135 ?_
            refine j_bipush (pc := 136) dX12_nameNow_136 rfl ?_
            refine j_bipush (pc := 138) dX12_nameNow_138 rfl ?_
            refine j_bipush (pc := 140) dX12_nameNow_140 rfl ?_
            refine j_bipush (pc := 142) dX12_nameNow_142 rfl ?_
            refine j_callV (pc := 144) (As := [vI 5, vI 112, vI 108, vI 97, vI 99]) (st := []) (c_X12_is hM 5 (by (first | decide | exact ⟨by omega, by omega⟩)) 112 (by (first | decide | exact ⟨by omega, by omega⟩)) 108 (by (first | decide | exact ⟨by omega, by omega⟩)) 97 (by (first | decide | exact ⟨by omega, by omega⟩)) 99 (by (first | decide | exact ⟨by omega, by omega⟩)) σ hI) mv_X12_107 rfl rfl rfl (a_88 hM) dX12_nameNow_144 ⟨Nat.le_of_ble_eq_true rfl, Nat.le_of_ble_eq_true rfl⟩ ⟨Nat.le_refl _, Nat.le_refl _⟩ rfl (Nat.le_of_ble_eq_true rfl) rfl (fun z125 σ126 hz125 => ?_)
            obtain ⟨r128, rfl, hr128, rfl, q127_0⟩ := hz125
            replace q127_0 : (r128 = 1 ∧ σ 88 13 - σ 88 14 = (5 : Int) ∧ fM σ (σ 88 14) = (112 : Int) ∧ fM σ (σ 88 14 + 1) = (108 : Int) ∧ ((5 : Int) < 3 ∨ fM σ (σ 88 14 + 2) = (97 : Int)) ∧ ((5 : Int) < 4 ∨ fM σ (σ 88 14 + 3) = (99 : Int))) ∨ (r128 = 0 ∧ ¬ (σ 88 13 - σ 88 14 = (5 : Int) ∧ fM σ (σ 88 14) = (112 : Int) ∧ fM σ (σ 88 14 + 1) = (108 : Int) ∧ ((5 : Int) < 3 ∨ fM σ (σ 88 14 + 2) = (97 : Int)) ∧ ((5 : Int) < 4 ∨ fM σ (σ 88 14 + 3) = (99 : Int)))) := q127_0
            refine j_st (st' := [vI r128]) rfl ?_
            refine j_ifR_eq (pc := 147) (tgt := 167) ⟨by omega, by omega⟩ dX12_nameNow_147 rfl (fun h129 => ?_) (fun h129 => ?_)
            · have z4 : ¬ nm (fM σ) (σ 88 14) (σ 88 13) 4 = 1 := by (have e := nmE_4 (fM σ) (σ 88 14) (σ 88 13)); omega
              clear q127_0
              refine j_aload_n (pc := 167) dX12_nameNow_167 rfl rfl ?_
              refine j_iconst (pc := 168) dX12_nameNow_168 ?_
              refine j_bipush (pc := 169) dX12_nameNow_169 rfl ?_
              refine j_bipush (pc := 171) dX12_nameNow_171 rfl ?_
              refine j_bipush (pc := 173) dX12_nameNow_173 rfl ?_
              refine j_bipush (pc := 175) dX12_nameNow_175 rfl ?_
              refine j_callV (pc := 177) (As := [vI 4, vI 114, vI 111, vI 112, vI 101]) (st := []) (c_X12_is hM 4 (by (first | decide | exact ⟨by omega, by omega⟩)) 114 (by (first | decide | exact ⟨by omega, by omega⟩)) 111 (by (first | decide | exact ⟨by omega, by omega⟩)) 112 (by (first | decide | exact ⟨by omega, by omega⟩)) 101 (by (first | decide | exact ⟨by omega, by omega⟩)) σ hI) mv_X12_107 rfl rfl rfl (a_88 hM) dX12_nameNow_177 ⟨Nat.le_of_ble_eq_true rfl, Nat.le_of_ble_eq_true rfl⟩ ⟨Nat.le_refl _, Nat.le_refl _⟩ rfl (Nat.le_of_ble_eq_true rfl) rfl (fun z130 σ131 hz130 => ?_)
              obtain ⟨r133, rfl, hr133, rfl, q132_0⟩ := hz130
              replace q132_0 : (r133 = 1 ∧ σ 88 13 - σ 88 14 = (4 : Int) ∧ fM σ (σ 88 14) = (114 : Int) ∧ fM σ (σ 88 14 + 1) = (111 : Int) ∧ ((4 : Int) < 3 ∨ fM σ (σ 88 14 + 2) = (112 : Int)) ∧ ((4 : Int) < 4 ∨ fM σ (σ 88 14 + 3) = (101 : Int))) ∨ (r133 = 0 ∧ ¬ (σ 88 13 - σ 88 14 = (4 : Int) ∧ fM σ (σ 88 14) = (114 : Int) ∧ fM σ (σ 88 14 + 1) = (111 : Int) ∧ ((4 : Int) < 3 ∨ fM σ (σ 88 14 + 2) = (112 : Int)) ∧ ((4 : Int) < 4 ∨ fM σ (σ 88 14 + 3) = (101 : Int)))) := q132_0
              refine j_st (st' := [vI r133]) rfl ?_
              refine j_ifR_eq (pc := 180) (tgt := 185) ⟨by omega, by omega⟩ dX12_nameNow_180 rfl (fun h134 => ?_) (fun h134 => ?_)
              · have z5 : ¬ nm (fM σ) (σ 88 14) (σ 88 13) 5 = 1 := by (have e := nmE_5 (fM σ) (σ 88 14) (σ 88 13)); omega
                clear q132_0
                refine j_aload_n (pc := 185) dX12_nameNow_185 rfl rfl ?_
                refine j_iconst (pc := 186) dX12_nameNow_186 ?_
                refine j_bipush (pc := 187) dX12_nameNow_187 rfl ?_
                refine j_bipush (pc := 189) dX12_nameNow_189 rfl ?_
                refine j_bipush (pc := 191) dX12_nameNow_191 rfl ?_
                refine j_bipush (pc := 193) dX12_nameNow_193 rfl ?_
                refine j_callV (pc := 195) (As := [vI 4, vI 103, vI 105, vI 118, vI 101]) (st := []) (c_X12_is hM 4 (by (first | decide | exact ⟨by omega, by omega⟩)) 103 (by (first | decide | exact ⟨by omega, by omega⟩)) 105 (by (first | decide | exact ⟨by omega, by omega⟩)) 118 (by (first | decide | exact ⟨by omega, by omega⟩)) 101 (by (first | decide | exact ⟨by omega, by omega⟩)) σ hI) mv_X12_107 rfl rfl rfl (a_88 hM) dX12_nameNow_195 ⟨Nat.le_of_ble_eq_true rfl, Nat.le_of_ble_eq_true rfl⟩ ⟨Nat.le_refl _, Nat.le_refl _⟩ rfl (Nat.le_of_ble_eq_true rfl) rfl (fun z135 σ136 hz135 => ?_)
                obtain ⟨r138, rfl, hr138, rfl, q137_0⟩ := hz135
                replace q137_0 : (r138 = 1 ∧ σ 88 13 - σ 88 14 = (4 : Int) ∧ fM σ (σ 88 14) = (103 : Int) ∧ fM σ (σ 88 14 + 1) = (105 : Int) ∧ ((4 : Int) < 3 ∨ fM σ (σ 88 14 + 2) = (118 : Int)) ∧ ((4 : Int) < 4 ∨ fM σ (σ 88 14 + 3) = (101 : Int))) ∨ (r138 = 0 ∧ ¬ (σ 88 13 - σ 88 14 = (4 : Int) ∧ fM σ (σ 88 14) = (103 : Int) ∧ fM σ (σ 88 14 + 1) = (105 : Int) ∧ ((4 : Int) < 3 ∨ fM σ (σ 88 14 + 2) = (118 : Int)) ∧ ((4 : Int) < 4 ∨ fM σ (σ 88 14 + 3) = (101 : Int)))) := q137_0
                refine j_st (st' := [vI r138]) rfl ?_
                refine j_ifR_eq (pc := 198) (tgt := 203) ⟨by omega, by omega⟩ dX12_nameNow_198 rfl (fun h139 => ?_) (fun h139 => ?_)
                · have z6 : ¬ nm (fM σ) (σ 88 14) (σ 88 13) 6 = 1 := by (have e := nmE_6 (fM σ) (σ 88 14) (σ 88 13)); omega
                  clear q137_0
                  refine j_aload_n (pc := 203) dX12_nameNow_203 rfl rfl ?_
                  refine j_iconst (pc := 204) dX12_nameNow_204 ?_
                  refine j_bipush (pc := 205) dX12_nameNow_205 rfl ?_
                  refine j_bipush (pc := 207) dX12_nameNow_207 rfl ?_
                  refine j_bipush (pc := 209) dX12_nameNow_209 rfl ?_
                  refine j_bipush (pc := 211) dX12_nameNow_211 rfl ?_
                  refine j_callV (pc := 213) (As := [vI 4, vI 102, vI 105, vI 116, vI 115]) (st := []) (c_X12_is hM 4 (by (first | decide | exact ⟨by omega, by omega⟩)) 102 (by (first | decide | exact ⟨by omega, by omega⟩)) 105 (by (first | decide | exact ⟨by omega, by omega⟩)) 116 (by (first | decide | exact ⟨by omega, by omega⟩)) 115 (by (first | decide | exact ⟨by omega, by omega⟩)) σ hI) mv_X12_107 rfl rfl rfl (a_88 hM) dX12_nameNow_213 ⟨Nat.le_of_ble_eq_true rfl, Nat.le_of_ble_eq_true rfl⟩ ⟨Nat.le_refl _, Nat.le_refl _⟩ rfl (Nat.le_of_ble_eq_true rfl) rfl (fun z140 σ141 hz140 => ?_)
                  obtain ⟨r143, rfl, hr143, rfl, q142_0⟩ := hz140
                  replace q142_0 : (r143 = 1 ∧ σ 88 13 - σ 88 14 = (4 : Int) ∧ fM σ (σ 88 14) = (102 : Int) ∧ fM σ (σ 88 14 + 1) = (105 : Int) ∧ ((4 : Int) < 3 ∨ fM σ (σ 88 14 + 2) = (116 : Int)) ∧ ((4 : Int) < 4 ∨ fM σ (σ 88 14 + 3) = (115 : Int))) ∨ (r143 = 0 ∧ ¬ (σ 88 13 - σ 88 14 = (4 : Int) ∧ fM σ (σ 88 14) = (102 : Int) ∧ fM σ (σ 88 14 + 1) = (105 : Int) ∧ ((4 : Int) < 3 ∨ fM σ (σ 88 14 + 2) = (116 : Int)) ∧ ((4 : Int) < 4 ∨ fM σ (σ 88 14 + 3) = (115 : Int)))) := q142_0
                  refine j_st (st' := [vI r143]) rfl ?_
                  refine j_ifR_eq (pc := 216) (tgt := 221) ⟨by omega, by omega⟩ dX12_nameNow_216 rfl (fun h144 => ?_) (fun h144 => ?_)
                  · have z7 : ¬ nm (fM σ) (σ 88 14) (σ 88 13) 7 = 1 := by (have e := nmE_7 (fM σ) (σ 88 14) (σ 88 13)); omega
                    clear q142_0
                    refine j_aload_n (pc := 221) dX12_nameNow_221 rfl rfl ?_
                    refine j_iconst (pc := 222) dX12_nameNow_222 ?_
                    refine j_bipush (pc := 223) dX12_nameNow_223 rfl ?_
                    refine j_bipush (pc := 225) dX12_nameNow_225 rfl ?_
                    refine j_bipush (pc := 227) dX12_nameNow_227 rfl ?_
                    refine j_bipush (pc := 229) dX12_nameNow_229 rfl ?_
                    refine j_callV (pc := 231) (As := [vI 5, vI 104, vI 111, vI 108, vI 100]) (st := []) (c_X12_is hM 5 (by (first | decide | exact ⟨by omega, by omega⟩)) 104 (by (first | decide | exact ⟨by omega, by omega⟩)) 111 (by (first | decide | exact ⟨by omega, by omega⟩)) 108 (by (first | decide | exact ⟨by omega, by omega⟩)) 100 (by (first | decide | exact ⟨by omega, by omega⟩)) σ hI) mv_X12_107 rfl rfl rfl (a_88 hM) dX12_nameNow_231 ⟨Nat.le_of_ble_eq_true rfl, Nat.le_of_ble_eq_true rfl⟩ ⟨Nat.le_refl _, Nat.le_refl _⟩ rfl (Nat.le_of_ble_eq_true rfl) rfl (fun z145 σ146 hz145 => ?_)
                    obtain ⟨r148, rfl, hr148, rfl, q147_0⟩ := hz145
                    replace q147_0 : (r148 = 1 ∧ σ 88 13 - σ 88 14 = (5 : Int) ∧ fM σ (σ 88 14) = (104 : Int) ∧ fM σ (σ 88 14 + 1) = (111 : Int) ∧ ((5 : Int) < 3 ∨ fM σ (σ 88 14 + 2) = (108 : Int)) ∧ ((5 : Int) < 4 ∨ fM σ (σ 88 14 + 3) = (100 : Int))) ∨ (r148 = 0 ∧ ¬ (σ 88 13 - σ 88 14 = (5 : Int) ∧ fM σ (σ 88 14) = (104 : Int) ∧ fM σ (σ 88 14 + 1) = (111 : Int) ∧ ((5 : Int) < 3 ∨ fM σ (σ 88 14 + 2) = (108 : Int)) ∧ ((5 : Int) < 4 ∨ fM σ (σ 88 14 + 3) = (100 : Int)))) := q147_0
                    refine j_st (st' := [vI r148]) rfl ?_
                    refine j_ifR_eq (pc := 234) (tgt := 255) ⟨by omega, by omega⟩ dX12_nameNow_234 rfl (fun h149 => ?_) (fun h149 => ?_)
                    · have z8 : ¬ nm (fM σ) (σ 88 14) (σ 88 13) 8 = 1 := by (have e := nmE_8 (fM σ) (σ 88 14) (σ 88 13)); omega
                      clear q147_0
                      refine j_aload_n (pc := 255) dX12_nameNow_255 rfl rfl ?_
                      refine j_iconst (pc := 256) dX12_nameNow_256 ?_
                      refine j_bipush (pc := 257) dX12_nameNow_257 rfl ?_
                      refine j_bipush (pc := 259) dX12_nameNow_259 rfl ?_
                      refine j_bipush (pc := 261) dX12_nameNow_261 rfl ?_
                      refine j_iconst (pc := 263) dX12_nameNow_263 ?_
                      refine j_callV (pc := 264) (As := [vI 3, vI 108, vI 111, vI 119, vI 0]) (st := []) (c_X12_is hM 3 (by (first | decide | exact ⟨by omega, by omega⟩)) 108 (by (first | decide | exact ⟨by omega, by omega⟩)) 111 (by (first | decide | exact ⟨by omega, by omega⟩)) 119 (by (first | decide | exact ⟨by omega, by omega⟩)) 0 (by (first | decide | exact ⟨by omega, by omega⟩)) σ hI) mv_X12_107 rfl rfl rfl (a_88 hM) dX12_nameNow_264 ⟨Nat.le_of_ble_eq_true rfl, Nat.le_of_ble_eq_true rfl⟩ ⟨Nat.le_refl _, Nat.le_refl _⟩ rfl (Nat.le_of_ble_eq_true rfl) rfl (fun z150 σ151 hz150 => ?_)
                      obtain ⟨r153, rfl, hr153, rfl, q152_0⟩ := hz150
                      replace q152_0 : (r153 = 1 ∧ σ 88 13 - σ 88 14 = (3 : Int) ∧ fM σ (σ 88 14) = (108 : Int) ∧ fM σ (σ 88 14 + 1) = (111 : Int) ∧ ((3 : Int) < 3 ∨ fM σ (σ 88 14 + 2) = (119 : Int)) ∧ ((3 : Int) < 4 ∨ fM σ (σ 88 14 + 3) = (0 : Int))) ∨ (r153 = 0 ∧ ¬ (σ 88 13 - σ 88 14 = (3 : Int) ∧ fM σ (σ 88 14) = (108 : Int) ∧ fM σ (σ 88 14 + 1) = (111 : Int) ∧ ((3 : Int) < 3 ∨ fM σ (σ 88 14 + 2) = (119 : Int)) ∧ ((3 : Int) < 4 ∨ fM σ (σ 88 14 + 3) = (0 : Int)))) := q152_0
                      refine j_st (st' := [vI r153]) rfl ?_
                      refine j_ifR_eq (pc := 267) (tgt := 275) ⟨by omega, by omega⟩ dX12_nameNow_267 rfl (fun h154 => ?_) (fun h154 => ?_)
                      · have z9 : ¬ nm (fM σ) (σ 88 14) (σ 88 13) 9 = 1 := by (have e := nmE_9 (fM σ) (σ 88 14) (σ 88 13)); omega
                        clear q152_0
                        have zl : lnm (fM σ) 1 (σ 88 14) (σ 88 13) = -1 := by unfold lnm; rw [if_neg (by decide)]; repeat (first | rw [if_pos (by omega)] | rw [if_neg (by omega)])
                        refine j_aload_n (pc := 275) dX12_nameNow_275 rfl rfl ?_
                        refine j_callV (pc := 276) (As := []) (st := []) (c_X12_withNow hM σ hI) mv_X12_111 rfl rfl rfl (a_88 hM) dX12_nameNow_276 ⟨Nat.le_of_ble_eq_true rfl, Nat.le_of_ble_eq_true rfl⟩ ⟨Nat.le_refl _, Nat.le_refl _⟩ rfl (Nat.le_of_ble_eq_true rfl) rfl (fun z155 σ156 hz155 => ?_)
                        obtain ⟨r158, rfl, hr158, rfl, q157_0, q157_1⟩ := hz155
                        replace q157_0 : r158 = -4 ∨ 20 ≤ r158 := q157_0
                        replace q157_1 : (r158 = -4 ∧ wnm (fM σ) 1 (σ 88 14) (σ 88 13) = -1) ∨ (r158 = 20 + wnm (fM σ) 1 (σ 88 14) (σ 88 13) ∧ 0 ≤ wnm (fM σ) 1 (σ 88 14) (σ 88 13) ∧ wnm (fM σ) 1 (σ 88 14) (σ 88 13) ≤ 3) := q157_1
                        refine j_st (st' := [vI r158]) rfl ?_
                        exact j_iret (pc := 279) ⟨rfl, rfl⟩ dX12_nameNow_279 rfl ⟨_, rfl, ⟨by omega, by omega⟩, rfl, by omega⟩
                      · have z9 : nm (fM σ) (σ 88 14) (σ 88 13) 9 = 1 := by (have e := nmE_9 (fM σ) (σ 88 14) (σ 88 13)); omega
                        clear q152_0
                        have zl : lnm (fM σ) 1 (σ 88 14) (σ 88 13) = 8 := by unfold lnm; rw [if_neg (by decide)]; repeat (first | rw [if_pos (by omega)] | rw [if_neg (by omega)])
                        refine j_bipush (pc := 270) dX12_nameNow_270 rfl ?_
                        refine j_goto (pc := 272) (tgt := 279) dX12_nameNow_272 rfl ?_
                        exact j_iret (pc := 279) ⟨rfl, rfl⟩ dX12_nameNow_279 rfl ⟨_, rfl, ⟨by omega, by omega⟩, rfl, by omega⟩
                    · refine j_aload_n (pc := 237) dX12_nameNow_237 rfl rfl ?_
                      refine j_aload_n (pc := 238) dX12_nameNow_238 rfl rfl ?_
                      refine j_getI (pc := 239) fl_X12_94 dX12_nameNow_239 (a_88 hM) rfl ?_
                      refine j_iconst (pc := 242) dX12_nameNow_242 ?_
                      refine j_iadd (pc := 243) dX12_nameNow_243 ?_
                      refine j_callV (pc := 244) (As := [vI ((σ 88 14) + 4)]) (st := []) (c_X12_look hM ((σ 88 14) + 4) ⟨by omega, by omega⟩ σ hI) mv_X12_103 rfl rfl rfl (a_88 hM) dX12_nameNow_244 ⟨Nat.le_of_ble_eq_true rfl, Nat.le_of_ble_eq_true rfl⟩ ⟨Nat.le_refl _, Nat.le_refl _⟩ rfl (Nat.le_of_ble_eq_true rfl) rfl (fun z159 σ160 hz159 => ?_)
                      obtain ⟨r162, rfl, hr162, rfl, q161_0, q161_1⟩ := hz159
                      replace q161_0 : (((σ 88 14) + 4) < σ 88 12 ∧ r162 = σ 98 ((σ 88 14) + 4).toNat) ∨ (¬ ((σ 88 14) + 4) < σ 88 12 ∧ r162 = -1) := q161_0
                      replace q161_1 : r162 = fM σ ((σ 88 14) + 4) := q161_1
                      refine j_st (st' := [vI r162]) rfl ?_
                      refine j_bipush (pc := 247) dX12_nameNow_247 rfl ?_
                      refine j_icmpR_ne (pc := 249) (tgt := 255) ⟨by omega, by omega⟩ ⟨by omega, by omega⟩ dX12_nameNow_249 rfl (fun h163 => ?_) (fun h163 => ?_)
                      · have z8 : ¬ nm (fM σ) (σ 88 14) (σ 88 13) 8 = 1 := by (have e := nmE_8 (fM σ) (σ 88 14) (σ 88 13)); omega
                        clear q147_0 q161_0 q161_1
                        refine j_aload_n (pc := 255) dX12_nameNow_255 rfl rfl ?_
                        refine j_iconst (pc := 256) dX12_nameNow_256 ?_
                        refine j_bipush (pc := 257) dX12_nameNow_257 rfl ?_
                        refine j_bipush (pc := 259) dX12_nameNow_259 rfl ?_
                        refine j_bipush (pc := 261) dX12_nameNow_261 rfl ?_
                        refine j_iconst (pc := 263) dX12_nameNow_263 ?_
                        refine j_callV (pc := 264) (As := [vI 3, vI 108, vI 111, vI 119, vI 0]) (st := []) (c_X12_is hM 3 (by (first | decide | exact ⟨by omega, by omega⟩)) 108 (by (first | decide | exact ⟨by omega, by omega⟩)) 111 (by (first | decide | exact ⟨by omega, by omega⟩)) 119 (by (first | decide | exact ⟨by omega, by omega⟩)) 0 (by (first | decide | exact ⟨by omega, by omega⟩)) σ hI) mv_X12_107 rfl rfl rfl (a_88 hM) dX12_nameNow_264 ⟨Nat.le_of_ble_eq_true rfl, Nat.le_of_ble_eq_true rfl⟩ ⟨Nat.le_refl _, Nat.le_refl _⟩ rfl (Nat.le_of_ble_eq_true rfl) rfl (fun z164 σ165 hz164 => ?_)
                        obtain ⟨r167, rfl, hr167, rfl, q166_0⟩ := hz164
                        replace q166_0 : (r167 = 1 ∧ σ 88 13 - σ 88 14 = (3 : Int) ∧ fM σ (σ 88 14) = (108 : Int) ∧ fM σ (σ 88 14 + 1) = (111 : Int) ∧ ((3 : Int) < 3 ∨ fM σ (σ 88 14 + 2) = (119 : Int)) ∧ ((3 : Int) < 4 ∨ fM σ (σ 88 14 + 3) = (0 : Int))) ∨ (r167 = 0 ∧ ¬ (σ 88 13 - σ 88 14 = (3 : Int) ∧ fM σ (σ 88 14) = (108 : Int) ∧ fM σ (σ 88 14 + 1) = (111 : Int) ∧ ((3 : Int) < 3 ∨ fM σ (σ 88 14 + 2) = (119 : Int)) ∧ ((3 : Int) < 4 ∨ fM σ (σ 88 14 + 3) = (0 : Int)))) := q166_0
                        refine j_st (st' := [vI r167]) rfl ?_
                        refine j_ifR_eq (pc := 267) (tgt := 275) ⟨by omega, by omega⟩ dX12_nameNow_267 rfl (fun h168 => ?_) (fun h168 => ?_)
                        · have z9 : ¬ nm (fM σ) (σ 88 14) (σ 88 13) 9 = 1 := by (have e := nmE_9 (fM σ) (σ 88 14) (σ 88 13)); omega
                          clear q166_0
                          have zl : lnm (fM σ) 1 (σ 88 14) (σ 88 13) = -1 := by unfold lnm; rw [if_neg (by decide)]; repeat (first | rw [if_pos (by omega)] | rw [if_neg (by omega)])
                          refine j_aload_n (pc := 275) dX12_nameNow_275 rfl rfl ?_
                          refine j_callV (pc := 276) (As := []) (st := []) (c_X12_withNow hM σ hI) mv_X12_111 rfl rfl rfl (a_88 hM) dX12_nameNow_276 ⟨Nat.le_of_ble_eq_true rfl, Nat.le_of_ble_eq_true rfl⟩ ⟨Nat.le_refl _, Nat.le_refl _⟩ rfl (Nat.le_of_ble_eq_true rfl) rfl (fun z169 σ170 hz169 => ?_)
                          obtain ⟨r172, rfl, hr172, rfl, q171_0, q171_1⟩ := hz169
                          replace q171_0 : r172 = -4 ∨ 20 ≤ r172 := q171_0
                          replace q171_1 : (r172 = -4 ∧ wnm (fM σ) 1 (σ 88 14) (σ 88 13) = -1) ∨ (r172 = 20 + wnm (fM σ) 1 (σ 88 14) (σ 88 13) ∧ 0 ≤ wnm (fM σ) 1 (σ 88 14) (σ 88 13) ∧ wnm (fM σ) 1 (σ 88 14) (σ 88 13) ≤ 3) := q171_1
                          refine j_st (st' := [vI r172]) rfl ?_
                          exact j_iret (pc := 279) ⟨rfl, rfl⟩ dX12_nameNow_279 rfl ⟨_, rfl, ⟨by omega, by omega⟩, rfl, by omega⟩
                        · have z9 : nm (fM σ) (σ 88 14) (σ 88 13) 9 = 1 := by (have e := nmE_9 (fM σ) (σ 88 14) (σ 88 13)); omega
                          clear q166_0
                          have zl : lnm (fM σ) 1 (σ 88 14) (σ 88 13) = 8 := by unfold lnm; rw [if_neg (by decide)]; repeat (first | rw [if_pos (by omega)] | rw [if_neg (by omega)])
                          refine j_bipush (pc := 270) dX12_nameNow_270 rfl ?_
                          refine j_goto (pc := 272) (tgt := 279) dX12_nameNow_272 rfl ?_
                          exact j_iret (pc := 279) ⟨rfl, rfl⟩ dX12_nameNow_279 rfl ⟨_, rfl, ⟨by omega, by omega⟩, rfl, by omega⟩
                      · have z8 : nm (fM σ) (σ 88 14) (σ 88 13) 8 = 1 := by (have e := nmE_8 (fM σ) (σ 88 14) (σ 88 13)); omega
                        clear q147_0 q161_0 q161_1
                        have zl : lnm (fM σ) 1 (σ 88 14) (σ 88 13) = 7 := by unfold lnm; rw [if_neg (by decide)]; repeat (first | rw [if_pos (by omega)] | rw [if_neg (by omega)])
                        refine j_bipush (pc := 252) dX12_nameNow_252 rfl ?_
                        exact j_iret (pc := 254) ⟨rfl, rfl⟩ dX12_nameNow_254 rfl ⟨_, rfl, ⟨by omega, by omega⟩, rfl, by omega⟩
                  · have z7 : nm (fM σ) (σ 88 14) (σ 88 13) 7 = 1 := by (have e := nmE_7 (fM σ) (σ 88 14) (σ 88 13)); omega
                    clear q142_0
                    have zl : lnm (fM σ) 1 (σ 88 14) (σ 88 13) = 5 := by unfold lnm; rw [if_neg (by decide)]; repeat (first | rw [if_pos (by omega)] | rw [if_neg (by omega)])
                    refine j_iconst (pc := 219) dX12_nameNow_219 ?_
                    exact j_iret (pc := 220) ⟨rfl, rfl⟩ dX12_nameNow_220 rfl ⟨_, rfl, ⟨by omega, by omega⟩, rfl, by omega⟩
                · have z6 : nm (fM σ) (σ 88 14) (σ 88 13) 6 = 1 := by (have e := nmE_6 (fM σ) (σ 88 14) (σ 88 13)); omega
                  clear q137_0
                  have zl : lnm (fM σ) 1 (σ 88 14) (σ 88 13) = 4 := by unfold lnm; rw [if_neg (by decide)]; repeat (first | rw [if_pos (by omega)] | rw [if_neg (by omega)])
                  refine j_iconst (pc := 201) dX12_nameNow_201 ?_
                  exact j_iret (pc := 202) ⟨rfl, rfl⟩ dX12_nameNow_202 rfl ⟨_, rfl, ⟨by omega, by omega⟩, rfl, by omega⟩
              · have z5 : nm (fM σ) (σ 88 14) (σ 88 13) 5 = 1 := by (have e := nmE_5 (fM σ) (σ 88 14) (σ 88 13)); omega
                clear q132_0
                have zl : lnm (fM σ) 1 (σ 88 14) (σ 88 13) = 3 := by unfold lnm; rw [if_neg (by decide)]; repeat (first | rw [if_pos (by omega)] | rw [if_neg (by omega)])
                refine j_iconst (pc := 183) dX12_nameNow_183 ?_
                exact j_iret (pc := 184) ⟨rfl, rfl⟩ dX12_nameNow_184 rfl ⟨_, rfl, ⟨by omega, by omega⟩, rfl, by omega⟩
            · refine j_aload_n (pc := 150) dX12_nameNow_150 rfl rfl ?_
              refine j_aload_n (pc := 151) dX12_nameNow_151 rfl rfl ?_
              refine j_getI (pc := 152) fl_X12_94 dX12_nameNow_152 (a_88 hM) rfl ?_
              refine j_iconst (pc := 155) dX12_nameNow_155 ?_
              refine j_iadd (pc := 156) dX12_nameNow_156 ?_
              refine j_callV (pc := 157) (As := [vI ((σ 88 14) + 4)]) (st := []) (c_X12_look hM ((σ 88 14) + 4) ⟨by omega, by omega⟩ σ hI) mv_X12_103 rfl rfl rfl (a_88 hM) dX12_nameNow_157 ⟨Nat.le_of_ble_eq_true rfl, Nat.le_of_ble_eq_true rfl⟩ ⟨Nat.le_refl _, Nat.le_refl _⟩ rfl (Nat.le_of_ble_eq_true rfl) rfl (fun z173 σ174 hz173 => ?_)
              obtain ⟨r176, rfl, hr176, rfl, q175_0, q175_1⟩ := hz173
              replace q175_0 : (((σ 88 14) + 4) < σ 88 12 ∧ r176 = σ 98 ((σ 88 14) + 4).toNat) ∨ (¬ ((σ 88 14) + 4) < σ 88 12 ∧ r176 = -1) := q175_0
              replace q175_1 : r176 = fM σ ((σ 88 14) + 4) := q175_1
              refine j_st (st' := [vI r176]) rfl ?_
              refine j_bipush (pc := 160) dX12_nameNow_160 rfl ?_
              refine j_icmpR_ne (pc := 162) (tgt := 167) ⟨by omega, by omega⟩ ⟨by omega, by omega⟩ dX12_nameNow_162 rfl (fun h177 => ?_) (fun h177 => ?_)
              · have z4 : ¬ nm (fM σ) (σ 88 14) (σ 88 13) 4 = 1 := by (have e := nmE_4 (fM σ) (σ 88 14) (σ 88 13)); omega
                clear q127_0 q175_0 q175_1
                refine j_aload_n (pc := 167) dX12_nameNow_167 rfl rfl ?_
                refine j_iconst (pc := 168) dX12_nameNow_168 ?_
                refine j_bipush (pc := 169) dX12_nameNow_169 rfl ?_
                refine j_bipush (pc := 171) dX12_nameNow_171 rfl ?_
                refine j_bipush (pc := 173) dX12_nameNow_173 rfl ?_
                refine j_bipush (pc := 175) dX12_nameNow_175 rfl ?_
                refine j_callV (pc := 177) (As := [vI 4, vI 114, vI 111, vI 112, vI 101]) (st := []) (c_X12_is hM 4 (by (first | decide | exact ⟨by omega, by omega⟩)) 114 (by (first | decide | exact ⟨by omega, by omega⟩)) 111 (by (first | decide | exact ⟨by omega, by omega⟩)) 112 (by (first | decide | exact ⟨by omega, by omega⟩)) 101 (by (first | decide | exact ⟨by omega, by omega⟩)) σ hI) mv_X12_107 rfl rfl rfl (a_88 hM) dX12_nameNow_177 ⟨Nat.le_of_ble_eq_true rfl, Nat.le_of_ble_eq_true rfl⟩ ⟨Nat.le_refl _, Nat.le_refl _⟩ rfl (Nat.le_of_ble_eq_true rfl) rfl (fun z178 σ179 hz178 => ?_)
                obtain ⟨r181, rfl, hr181, rfl, q180_0⟩ := hz178
                replace q180_0 : (r181 = 1 ∧ σ 88 13 - σ 88 14 = (4 : Int) ∧ fM σ (σ 88 14) = (114 : Int) ∧ fM σ (σ 88 14 + 1) = (111 : Int) ∧ ((4 : Int) < 3 ∨ fM σ (σ 88 14 + 2) = (112 : Int)) ∧ ((4 : Int) < 4 ∨ fM σ (σ 88 14 + 3) = (101 : Int))) ∨ (r181 = 0 ∧ ¬ (σ 88 13 - σ 88 14 = (4 : Int) ∧ fM σ (σ 88 14) = (114 : Int) ∧ fM σ (σ 88 14 + 1) = (111 : Int) ∧ ((4 : Int) < 3 ∨ fM σ (σ 88 14 + 2) = (112 : Int)) ∧ ((4 : Int) < 4 ∨ fM σ (σ 88 14 + 3) = (101 : Int)))) := q180_0
                refine j_st (st' := [vI r181]) rfl ?_
                refine j_ifR_eq (pc := 180) (tgt := 185) ⟨by omega, by omega⟩ dX12_nameNow_180 rfl (fun h182 => ?_) (fun h182 => ?_)
                · have z5 : ¬ nm (fM σ) (σ 88 14) (σ 88 13) 5 = 1 := by (have e := nmE_5 (fM σ) (σ 88 14) (σ 88 13)); omega
                  clear q180_0
                  refine j_aload_n (pc := 185) dX12_nameNow_185 rfl rfl ?_
                  refine j_iconst (pc := 186) dX12_nameNow_186 ?_
                  refine j_bipush (pc := 187) dX12_nameNow_187 rfl ?_
                  refine j_bipush (pc := 189) dX12_nameNow_189 rfl ?_
                  refine j_bipush (pc := 191) dX12_nameNow_191 rfl ?_
                  refine j_bipush (pc := 193) dX12_nameNow_193 rfl ?_
                  refine j_callV (pc := 195) (As := [vI 4, vI 103, vI 105, vI 118, vI 101]) (st := []) (c_X12_is hM 4 (by (first | decide | exact ⟨by omega, by omega⟩)) 103 (by (first | decide | exact ⟨by omega, by omega⟩)) 105 (by (first | decide | exact ⟨by omega, by omega⟩)) 118 (by (first | decide | exact ⟨by omega, by omega⟩)) 101 (by (first | decide | exact ⟨by omega, by omega⟩)) σ hI) mv_X12_107 rfl rfl rfl (a_88 hM) dX12_nameNow_195 ⟨Nat.le_of_ble_eq_true rfl, Nat.le_of_ble_eq_true rfl⟩ ⟨Nat.le_refl _, Nat.le_refl _⟩ rfl (Nat.le_of_ble_eq_true rfl) rfl (fun z183 σ184 hz183 => ?_)
                  obtain ⟨r186, rfl, hr186, rfl, q185_0⟩ := hz183
                  replace q185_0 : (r186 = 1 ∧ σ 88 13 - σ 88 14 = (4 : Int) ∧ fM σ (σ 88 14) = (103 : Int) ∧ fM σ (σ 88 14 + 1) = (105 : Int) ∧ ((4 : Int) < 3 ∨ fM σ (σ 88 14 + 2) = (118 : Int)) ∧ ((4 : Int) < 4 ∨ fM σ (σ 88 14 + 3) = (101 : Int))) ∨ (r186 = 0 ∧ ¬ (σ 88 13 - σ 88 14 = (4 : Int) ∧ fM σ (σ 88 14) = (103 : Int) ∧ fM σ (σ 88 14 + 1) = (105 : Int) ∧ ((4 : Int) < 3 ∨ fM σ (σ 88 14 + 2) = (118 : Int)) ∧ ((4 : Int) < 4 ∨ fM σ (σ 88 14 + 3) = (101 : Int)))) := q185_0
                  refine j_st (st' := [vI r186]) rfl ?_
                  refine j_ifR_eq (pc := 198) (tgt := 203) ⟨by omega, by omega⟩ dX12_nameNow_198 rfl (fun h187 => ?_) (fun h187 => ?_)
                  · have z6 : ¬ nm (fM σ) (σ 88 14) (σ 88 13) 6 = 1 := by (have e := nmE_6 (fM σ) (σ 88 14) (σ 88 13)); omega
                    clear q185_0
                    refine j_aload_n (pc := 203) dX12_nameNow_203 rfl rfl ?_
                    refine j_iconst (pc := 204) dX12_nameNow_204 ?_
                    refine j_bipush (pc := 205) dX12_nameNow_205 rfl ?_
                    refine j_bipush (pc := 207) dX12_nameNow_207 rfl ?_
                    refine j_bipush (pc := 209) dX12_nameNow_209 rfl ?_
                    refine j_bipush (pc := 211) dX12_nameNow_211 rfl ?_
                    refine j_callV (pc := 213) (As := [vI 4, vI 102, vI 105, vI 116, vI 115]) (st := []) (c_X12_is hM 4 (by (first | decide | exact ⟨by omega, by omega⟩)) 102 (by (first | decide | exact ⟨by omega, by omega⟩)) 105 (by (first | decide | exact ⟨by omega, by omega⟩)) 116 (by (first | decide | exact ⟨by omega, by omega⟩)) 115 (by (first | decide | exact ⟨by omega, by omega⟩)) σ hI) mv_X12_107 rfl rfl rfl (a_88 hM) dX12_nameNow_213 ⟨Nat.le_of_ble_eq_true rfl, Nat.le_of_ble_eq_true rfl⟩ ⟨Nat.le_refl _, Nat.le_refl _⟩ rfl (Nat.le_of_ble_eq_true rfl) rfl (fun z188 σ189 hz188 => ?_)
                    obtain ⟨r191, rfl, hr191, rfl, q190_0⟩ := hz188
                    replace q190_0 : (r191 = 1 ∧ σ 88 13 - σ 88 14 = (4 : Int) ∧ fM σ (σ 88 14) = (102 : Int) ∧ fM σ (σ 88 14 + 1) = (105 : Int) ∧ ((4 : Int) < 3 ∨ fM σ (σ 88 14 + 2) = (116 : Int)) ∧ ((4 : Int) < 4 ∨ fM σ (σ 88 14 + 3) = (115 : Int))) ∨ (r191 = 0 ∧ ¬ (σ 88 13 - σ 88 14 = (4 : Int) ∧ fM σ (σ 88 14) = (102 : Int) ∧ fM σ (σ 88 14 + 1) = (105 : Int) ∧ ((4 : Int) < 3 ∨ fM σ (σ 88 14 + 2) = (116 : Int)) ∧ ((4 : Int) < 4 ∨ fM σ (σ 88 14 + 3) = (115 : Int)))) := q190_0
                    refine j_st (st' := [vI r191]) rfl ?_
                    refine j_ifR_eq (pc := 216) (tgt := 221) ⟨by omega, by omega⟩ dX12_nameNow_216 rfl (fun h192 => ?_) (fun h192 => ?_)
                    · have z7 : ¬ nm (fM σ) (σ 88 14) (σ 88 13) 7 = 1 := by (have e := nmE_7 (fM σ) (σ 88 14) (σ 88 13)); omega
                      clear q190_0
                      refine j_aload_n (pc := 221) dX12_nameNow_221 rfl rfl ?_
                      refine j_iconst (pc := 222) dX12_nameNow_222 ?_
                      refine j_bipush (pc := 223) dX12_nameNow_223 rfl ?_
                      refine j_bipush (pc := 225) dX12_nameNow_225 rfl ?_
                      refine j_bipush (pc := 227) dX12_nameNow_227 rfl ?_
                      refine j_bipush (pc := 229) dX12_nameNow_229 rfl ?_
                      refine j_callV (pc := 231) (As := [vI 5, vI 104, vI 111, vI 108, vI 100]) (st := []) (c_X12_is hM 5 (by (first | decide | exact ⟨by omega, by omega⟩)) 104 (by (first | decide | exact ⟨by omega, by omega⟩)) 111 (by (first | decide | exact ⟨by omega, by omega⟩)) 108 (by (first | decide | exact ⟨by omega, by omega⟩)) 100 (by (first | decide | exact ⟨by omega, by omega⟩)) σ hI) mv_X12_107 rfl rfl rfl (a_88 hM) dX12_nameNow_231 ⟨Nat.le_of_ble_eq_true rfl, Nat.le_of_ble_eq_true rfl⟩ ⟨Nat.le_refl _, Nat.le_refl _⟩ rfl (Nat.le_of_ble_eq_true rfl) rfl (fun z193 σ194 hz193 => ?_)
                      obtain ⟨r196, rfl, hr196, rfl, q195_0⟩ := hz193
                      replace q195_0 : (r196 = 1 ∧ σ 88 13 - σ 88 14 = (5 : Int) ∧ fM σ (σ 88 14) = (104 : Int) ∧ fM σ (σ 88 14 + 1) = (111 : Int) ∧ ((5 : Int) < 3 ∨ fM σ (σ 88 14 + 2) = (108 : Int)) ∧ ((5 : Int) < 4 ∨ fM σ (σ 88 14 + 3) = (100 : Int))) ∨ (r196 = 0 ∧ ¬ (σ 88 13 - σ 88 14 = (5 : Int) ∧ fM σ (σ 88 14) = (104 : Int) ∧ fM σ (σ 88 14 + 1) = (111 : Int) ∧ ((5 : Int) < 3 ∨ fM σ (σ 88 14 + 2) = (108 : Int)) ∧ ((5 : Int) < 4 ∨ fM σ (σ 88 14 + 3) = (100 : Int)))) := q195_0
                      refine j_st (st' := [vI r196]) rfl ?_
                      refine j_ifR_eq (pc := 234) (tgt := 255) ⟨by omega, by omega⟩ dX12_nameNow_234 rfl (fun h197 => ?_) (fun h197 => ?_)
                      · have z8 : ¬ nm (fM σ) (σ 88 14) (σ 88 13) 8 = 1 := by (have e := nmE_8 (fM σ) (σ 88 14) (σ 88 13)); omega
                        clear q195_0
                        refine j_aload_n (pc := 255) dX12_nameNow_255 rfl rfl ?_
                        refine j_iconst (pc := 256) dX12_nameNow_256 ?_
                        refine j_bipush (pc := 257) dX12_nameNow_257 rfl ?_
                        refine j_bipush (pc := 259) dX12_nameNow_259 rfl ?_
                        refine j_bipush (pc := 261) dX12_nameNow_261 rfl ?_
                        refine j_iconst (pc := 263) dX12_nameNow_263 ?_
                        refine j_callV (pc := 264) (As := [vI 3, vI 108, vI 111, vI 119, vI 0]) (st := []) (c_X12_is hM 3 (by (first | decide | exact ⟨by omega, by omega⟩)) 108 (by (first | decide | exact ⟨by omega, by omega⟩)) 111 (by (first | decide | exact ⟨by omega, by omega⟩)) 119 (by (first | decide | exact ⟨by omega, by omega⟩)) 0 (by (first | decide | exact ⟨by omega, by omega⟩)) σ hI) mv_X12_107 rfl rfl rfl (a_88 hM) dX12_nameNow_264 ⟨Nat.le_of_ble_eq_true rfl, Nat.le_of_ble_eq_true rfl⟩ ⟨Nat.le_refl _, Nat.le_refl _⟩ rfl (Nat.le_of_ble_eq_true rfl) rfl (fun z198 σ199 hz198 => ?_)
                        obtain ⟨r201, rfl, hr201, rfl, q200_0⟩ := hz198
                        replace q200_0 : (r201 = 1 ∧ σ 88 13 - σ 88 14 = (3 : Int) ∧ fM σ (σ 88 14) = (108 : Int) ∧ fM σ (σ 88 14 + 1) = (111 : Int) ∧ ((3 : Int) < 3 ∨ fM σ (σ 88 14 + 2) = (119 : Int)) ∧ ((3 : Int) < 4 ∨ fM σ (σ 88 14 + 3) = (0 : Int))) ∨ (r201 = 0 ∧ ¬ (σ 88 13 - σ 88 14 = (3 : Int) ∧ fM σ (σ 88 14) = (108 : Int) ∧ fM σ (σ 88 14 + 1) = (111 : Int) ∧ ((3 : Int) < 3 ∨ fM σ (σ 88 14 + 2) = (119 : Int)) ∧ ((3 : Int) < 4 ∨ fM σ (σ 88 14 + 3) = (0 : Int)))) := q200_0
                        refine j_st (st' := [vI r201]) rfl ?_
                        refine j_ifR_eq (pc := 267) (tgt := 275) ⟨by omega, by omega⟩ dX12_nameNow_267 rfl (fun h202 => ?_) (fun h202 => ?_)
                        · have z9 : ¬ nm (fM σ) (σ 88 14) (σ 88 13) 9 = 1 := by (have e := nmE_9 (fM σ) (σ 88 14) (σ 88 13)); omega
                          clear q200_0
                          have zl : lnm (fM σ) 1 (σ 88 14) (σ 88 13) = -1 := by unfold lnm; rw [if_neg (by decide)]; repeat (first | rw [if_pos (by omega)] | rw [if_neg (by omega)])
                          refine j_aload_n (pc := 275) dX12_nameNow_275 rfl rfl ?_
                          refine j_callV (pc := 276) (As := []) (st := []) (c_X12_withNow hM σ hI) mv_X12_111 rfl rfl rfl (a_88 hM) dX12_nameNow_276 ⟨Nat.le_of_ble_eq_true rfl, Nat.le_of_ble_eq_true rfl⟩ ⟨Nat.le_refl _, Nat.le_refl _⟩ rfl (Nat.le_of_ble_eq_true rfl) rfl (fun z203 σ204 hz203 => ?_)
                          obtain ⟨r206, rfl, hr206, rfl, q205_0, q205_1⟩ := hz203
                          replace q205_0 : r206 = -4 ∨ 20 ≤ r206 := q205_0
                          replace q205_1 : (r206 = -4 ∧ wnm (fM σ) 1 (σ 88 14) (σ 88 13) = -1) ∨ (r206 = 20 + wnm (fM σ) 1 (σ 88 14) (σ 88 13) ∧ 0 ≤ wnm (fM σ) 1 (σ 88 14) (σ 88 13) ∧ wnm (fM σ) 1 (σ 88 14) (σ 88 13) ≤ 3) := q205_1
                          refine j_st (st' := [vI r206]) rfl ?_
                          exact j_iret (pc := 279) ⟨rfl, rfl⟩ dX12_nameNow_279 rfl ⟨_, rfl, ⟨by omega, by omega⟩, rfl, by omega⟩
                        · have z9 : nm (fM σ) (σ 88 14) (σ 88 13) 9 = 1 := by (have e := nmE_9 (fM σ) (σ 88 14) (σ 88 13)); omega
                          clear q200_0
                          have zl : lnm (fM σ) 1 (σ 88 14) (σ 88 13) = 8 := by unfold lnm; rw [if_neg (by decide)]; repeat (first | rw [if_pos (by omega)] | rw [if_neg (by omega)])
                          refine j_bipush (pc := 270) dX12_nameNow_270 rfl ?_
                          refine j_goto (pc := 272) (tgt := 279) dX12_nameNow_272 rfl ?_
                          exact j_iret (pc := 279) ⟨rfl, rfl⟩ dX12_nameNow_279 rfl ⟨_, rfl, ⟨by omega, by omega⟩, rfl, by omega⟩
                      · refine j_aload_n (pc := 237) dX12_nameNow_237 rfl rfl ?_
                        refine j_aload_n (pc := 238) dX12_nameNow_238 rfl rfl ?_
                        refine j_getI (pc := 239) fl_X12_94 dX12_nameNow_239 (a_88 hM) rfl ?_
                        refine j_iconst (pc := 242) dX12_nameNow_242 ?_
                        refine j_iadd (pc := 243) dX12_nameNow_243 ?_
                        refine j_callV (pc := 244) (As := [vI ((σ 88 14) + 4)]) (st := []) (c_X12_look hM ((σ 88 14) + 4) ⟨by omega, by omega⟩ σ hI) mv_X12_103 rfl rfl rfl (a_88 hM) dX12_nameNow_244 ⟨Nat.le_of_ble_eq_true rfl, Nat.le_of_ble_eq_true rfl⟩ ⟨Nat.le_refl _, Nat.le_refl _⟩ rfl (Nat.le_of_ble_eq_true rfl) rfl (fun z207 σ208 hz207 => ?_)
                        obtain ⟨r210, rfl, hr210, rfl, q209_0, q209_1⟩ := hz207
                        replace q209_0 : (((σ 88 14) + 4) < σ 88 12 ∧ r210 = σ 98 ((σ 88 14) + 4).toNat) ∨ (¬ ((σ 88 14) + 4) < σ 88 12 ∧ r210 = -1) := q209_0
                        replace q209_1 : r210 = fM σ ((σ 88 14) + 4) := q209_1
                        refine j_st (st' := [vI r210]) rfl ?_
                        refine j_bipush (pc := 247) dX12_nameNow_247 rfl ?_
                        refine j_icmpR_ne (pc := 249) (tgt := 255) ⟨by omega, by omega⟩ ⟨by omega, by omega⟩ dX12_nameNow_249 rfl (fun h211 => ?_) (fun h211 => ?_)
                        · have z8 : ¬ nm (fM σ) (σ 88 14) (σ 88 13) 8 = 1 := by (have e := nmE_8 (fM σ) (σ 88 14) (σ 88 13)); omega
                          clear q195_0 q209_0 q209_1
                          refine j_aload_n (pc := 255) dX12_nameNow_255 rfl rfl ?_
                          refine j_iconst (pc := 256) dX12_nameNow_256 ?_
                          refine j_bipush (pc := 257) dX12_nameNow_257 rfl ?_
                          refine j_bipush (pc := 259) dX12_nameNow_259 rfl ?_
                          refine j_bipush (pc := 261) dX12_nameNow_261 rfl ?_
                          refine j_iconst (pc := 263) dX12_nameNow_263 ?_
                          refine j_callV (pc := 264) (As := [vI 3, vI 108, vI 111, vI 119, vI 0]) (st := []) (c_X12_is hM 3 (by (first | decide | exact ⟨by omega, by omega⟩)) 108 (by (first | decide | exact ⟨by omega, by omega⟩)) 111 (by (first | decide | exact ⟨by omega, by omega⟩)) 119 (by (first | decide | exact ⟨by omega, by omega⟩)) 0 (by (first | decide | exact ⟨by omega, by omega⟩)) σ hI) mv_X12_107 rfl rfl rfl (a_88 hM) dX12_nameNow_264 ⟨Nat.le_of_ble_eq_true rfl, Nat.le_of_ble_eq_true rfl⟩ ⟨Nat.le_refl _, Nat.le_refl _⟩ rfl (Nat.le_of_ble_eq_true rfl) rfl (fun z212 σ213 hz212 => ?_)
                          obtain ⟨r215, rfl, hr215, rfl, q214_0⟩ := hz212
                          replace q214_0 : (r215 = 1 ∧ σ 88 13 - σ 88 14 = (3 : Int) ∧ fM σ (σ 88 14) = (108 : Int) ∧ fM σ (σ 88 14 + 1) = (111 : Int) ∧ ((3 : Int) < 3 ∨ fM σ (σ 88 14 + 2) = (119 : Int)) ∧ ((3 : Int) < 4 ∨ fM σ (σ 88 14 + 3) = (0 : Int))) ∨ (r215 = 0 ∧ ¬ (σ 88 13 - σ 88 14 = (3 : Int) ∧ fM σ (σ 88 14) = (108 : Int) ∧ fM σ (σ 88 14 + 1) = (111 : Int) ∧ ((3 : Int) < 3 ∨ fM σ (σ 88 14 + 2) = (119 : Int)) ∧ ((3 : Int) < 4 ∨ fM σ (σ 88 14 + 3) = (0 : Int)))) := q214_0
                          refine j_st (st' := [vI r215]) rfl ?_
                          refine j_ifR_eq (pc := 267) (tgt := 275) ⟨by omega, by omega⟩ dX12_nameNow_267 rfl (fun h216 => ?_) (fun h216 => ?_)
                          · have z9 : ¬ nm (fM σ) (σ 88 14) (σ 88 13) 9 = 1 := by (have e := nmE_9 (fM σ) (σ 88 14) (σ 88 13)); omega
                            clear q214_0
                            have zl : lnm (fM σ) 1 (σ 88 14) (σ 88 13) = -1 := by unfold lnm; rw [if_neg (by decide)]; repeat (first | rw [if_pos (by omega)] | rw [if_neg (by omega)])
                            refine j_aload_n (pc := 275) dX12_nameNow_275 rfl rfl ?_
                            refine j_callV (pc := 276) (As := []) (st := []) (c_X12_withNow hM σ hI) mv_X12_111 rfl rfl rfl (a_88 hM) dX12_nameNow_276 ⟨Nat.le_of_ble_eq_true rfl, Nat.le_of_ble_eq_true rfl⟩ ⟨Nat.le_refl _, Nat.le_refl _⟩ rfl (Nat.le_of_ble_eq_true rfl) rfl (fun z217 σ218 hz217 => ?_)
                            obtain ⟨r220, rfl, hr220, rfl, q219_0, q219_1⟩ := hz217
                            replace q219_0 : r220 = -4 ∨ 20 ≤ r220 := q219_0
                            replace q219_1 : (r220 = -4 ∧ wnm (fM σ) 1 (σ 88 14) (σ 88 13) = -1) ∨ (r220 = 20 + wnm (fM σ) 1 (σ 88 14) (σ 88 13) ∧ 0 ≤ wnm (fM σ) 1 (σ 88 14) (σ 88 13) ∧ wnm (fM σ) 1 (σ 88 14) (σ 88 13) ≤ 3) := q219_1
                            refine j_st (st' := [vI r220]) rfl ?_
                            exact j_iret (pc := 279) ⟨rfl, rfl⟩ dX12_nameNow_279 rfl ⟨_, rfl, ⟨by omega, by omega⟩, rfl, by omega⟩
                          · have z9 : nm (fM σ) (σ 88 14) (σ 88 13) 9 = 1 := by (have e := nmE_9 (fM σ) (σ 88 14) (σ 88 13)); omega
                            clear q214_0
                            have zl : lnm (fM σ) 1 (σ 88 14) (σ 88 13) = 8 := by unfold lnm; rw [if_neg (by decide)]; repeat (first | rw [if_pos (by omega)] | rw [if_neg (by omega)])
                            refine j_bipush (pc := 270) dX12_nameNow_270 rfl ?_
                            refine j_goto (pc := 272) (tgt := 279) dX12_nameNow_272 rfl ?_
                            exact j_iret (pc := 279) ⟨rfl, rfl⟩ dX12_nameNow_279 rfl ⟨_, rfl, ⟨by omega, by omega⟩, rfl, by omega⟩
                        · have z8 : nm (fM σ) (σ 88 14) (σ 88 13) 8 = 1 := by (have e := nmE_8 (fM σ) (σ 88 14) (σ 88 13)); omega
                          clear q195_0 q209_0 q209_1
                          have zl : lnm (fM σ) 1 (σ 88 14) (σ 88 13) = 7 := by unfold lnm; rw [if_neg (by decide)]; repeat (first | rw [if_pos (by omega)] | rw [if_neg (by omega)])
                          refine j_bipush (pc := 252) dX12_nameNow_252 rfl ?_
                          exact j_iret (pc := 254) ⟨rfl, rfl⟩ dX12_nameNow_254 rfl ⟨_, rfl, ⟨by omega, by omega⟩, rfl, by omega⟩
                    · have z7 : nm (fM σ) (σ 88 14) (σ 88 13) 7 = 1 := by (have e := nmE_7 (fM σ) (σ 88 14) (σ 88 13)); omega
                      clear q190_0
                      have zl : lnm (fM σ) 1 (σ 88 14) (σ 88 13) = 5 := by unfold lnm; rw [if_neg (by decide)]; repeat (first | rw [if_pos (by omega)] | rw [if_neg (by omega)])
                      refine j_iconst (pc := 219) dX12_nameNow_219 ?_
                      exact j_iret (pc := 220) ⟨rfl, rfl⟩ dX12_nameNow_220 rfl ⟨_, rfl, ⟨by omega, by omega⟩, rfl, by omega⟩
                  · have z6 : nm (fM σ) (σ 88 14) (σ 88 13) 6 = 1 := by (have e := nmE_6 (fM σ) (σ 88 14) (σ 88 13)); omega
                    clear q185_0
                    have zl : lnm (fM σ) 1 (σ 88 14) (σ 88 13) = 4 := by unfold lnm; rw [if_neg (by decide)]; repeat (first | rw [if_pos (by omega)] | rw [if_neg (by omega)])
                    refine j_iconst (pc := 201) dX12_nameNow_201 ?_
                    exact j_iret (pc := 202) ⟨rfl, rfl⟩ dX12_nameNow_202 rfl ⟨_, rfl, ⟨by omega, by omega⟩, rfl, by omega⟩
                · have z5 : nm (fM σ) (σ 88 14) (σ 88 13) 5 = 1 := by (have e := nmE_5 (fM σ) (σ 88 14) (σ 88 13)); omega
                  clear q180_0
                  have zl : lnm (fM σ) 1 (σ 88 14) (σ 88 13) = 3 := by unfold lnm; rw [if_neg (by decide)]; repeat (first | rw [if_pos (by omega)] | rw [if_neg (by omega)])
                  refine j_iconst (pc := 183) dX12_nameNow_183 ?_
                  exact j_iret (pc := 184) ⟨rfl, rfl⟩ dX12_nameNow_184 rfl ⟨_, rfl, ⟨by omega, by omega⟩, rfl, by omega⟩
              · have z4 : nm (fM σ) (σ 88 14) (σ 88 13) 4 = 1 := by (have e := nmE_4 (fM σ) (σ 88 14) (σ 88 13)); omega
                clear q127_0 q175_0 q175_1
                have zl : lnm (fM σ) 1 (σ 88 14) (σ 88 13) = 2 := by unfold lnm; rw [if_neg (by decide)]; repeat (first | rw [if_pos (by omega)] | rw [if_neg (by omega)])
                refine j_iconst (pc := 165) dX12_nameNow_165 ?_
                exact j_iret (pc := 166) ⟨rfl, rfl⟩ dX12_nameNow_166 rfl ⟨_, rfl, ⟨by omega, by omega⟩, rfl, by omega⟩
          · refine j_aload_n (pc := 85) dX12_nameNow_85 rfl rfl ?_
            refine j_aload_n (pc := 86) dX12_nameNow_86 rfl rfl ?_
            refine j_getI (pc := 87) fl_X12_94 dX12_nameNow_87 (a_88 hM) rfl ?_
            refine j_iconst (pc := 90) dX12_nameNow_90 ?_
            refine j_iadd (pc := 91) dX12_nameNow_91 ?_
            refine j_callV (pc := 92) (As := [vI ((σ 88 14) + 5)]) (st := []) (c_X12_look hM ((σ 88 14) + 5) ⟨by omega, by omega⟩ σ hI) mv_X12_103 rfl rfl rfl (a_88 hM) dX12_nameNow_92 ⟨Nat.le_of_ble_eq_true rfl, Nat.le_of_ble_eq_true rfl⟩ ⟨Nat.le_refl _, Nat.le_refl _⟩ rfl (Nat.le_of_ble_eq_true rfl) rfl (fun z221 σ222 hz221 => ?_)
            obtain ⟨r224, rfl, hr224, rfl, q223_0, q223_1⟩ := hz221
            replace q223_0 : (((σ 88 14) + 5) < σ 88 12 ∧ r224 = σ 98 ((σ 88 14) + 5).toNat) ∨ (¬ ((σ 88 14) + 5) < σ 88 12 ∧ r224 = -1) := q223_0
            replace q223_1 : r224 = fM σ ((σ 88 14) + 5) := q223_1
            refine j_st (st' := [vI r224]) rfl ?_
            refine j_bipush (pc := 95) dX12_nameNow_95 rfl ?_
            refine j_icmpR_ne (pc := 97) (tgt := 134) ⟨by omega, by omega⟩ ⟨by omega, by omega⟩ dX12_nameNow_97 rfl (fun h225 => ?_) (fun h225 => ?_)
            · have z3 : ¬ nm (fM σ) (σ 88 14) (σ 88 13) 3 = 1 := by (have e := nmE_3 (fM σ) (σ 88 14) (σ 88 13)); omega
              clear q18_0 q122_0 q122_1 q223_0 q223_1
              refine j_aload_n (pc := 134) dX12_nameNow_134 rfl rfl ?_
              refine j_iconst (pc := 135) dX12_nameNow_135 ?_
              refine j_bipush (pc := 136) dX12_nameNow_136 rfl ?_
              refine j_bipush (pc := 138) dX12_nameNow_138 rfl ?_
              refine j_bipush (pc := 140) dX12_nameNow_140 rfl ?_
              refine j_bipush (pc := 142) dX12_nameNow_142 rfl ?_
              refine j_callV (pc := 144) (As := [vI 5, vI 112, vI 108, vI 97, vI 99]) (st := []) (c_X12_is hM 5 (by (first | decide | exact ⟨by omega, by omega⟩)) 112 (by (first | decide | exact ⟨by omega, by omega⟩)) 108 (by (first | decide | exact ⟨by omega, by omega⟩)) 97 (by (first | decide | exact ⟨by omega, by omega⟩)) 99 (by (first | decide | exact ⟨by omega, by omega⟩)) σ hI) mv_X12_107 rfl rfl rfl (a_88 hM) dX12_nameNow_144 ⟨Nat.le_of_ble_eq_true rfl, Nat.le_of_ble_eq_true rfl⟩ ⟨Nat.le_refl _, Nat.le_refl _⟩ rfl (Nat.le_of_ble_eq_true rfl) rfl (fun z226 σ227 hz226 => ?_)
              obtain ⟨r229, rfl, hr229, rfl, q228_0⟩ := hz226
              replace q228_0 : (r229 = 1 ∧ σ 88 13 - σ 88 14 = (5 : Int) ∧ fM σ (σ 88 14) = (112 : Int) ∧ fM σ (σ 88 14 + 1) = (108 : Int) ∧ ((5 : Int) < 3 ∨ fM σ (σ 88 14 + 2) = (97 : Int)) ∧ ((5 : Int) < 4 ∨ fM σ (σ 88 14 + 3) = (99 : Int))) ∨ (r229 = 0 ∧ ¬ (σ 88 13 - σ 88 14 = (5 : Int) ∧ fM σ (σ 88 14) = (112 : Int) ∧ fM σ (σ 88 14 + 1) = (108 : Int) ∧ ((5 : Int) < 3 ∨ fM σ (σ 88 14 + 2) = (97 : Int)) ∧ ((5 : Int) < 4 ∨ fM σ (σ 88 14 + 3) = (99 : Int)))) := q228_0
              refine j_st (st' := [vI r229]) rfl ?_
              refine j_ifR_eq (pc := 147) (tgt := 167) ⟨by omega, by omega⟩ dX12_nameNow_147 rfl (fun h230 => ?_) (fun h230 => ?_)
              · have z4 : ¬ nm (fM σ) (σ 88 14) (σ 88 13) 4 = 1 := by (have e := nmE_4 (fM σ) (σ 88 14) (σ 88 13)); omega
                clear q228_0
                refine j_aload_n (pc := 167) dX12_nameNow_167 rfl rfl ?_
                refine j_iconst (pc := 168) dX12_nameNow_168 ?_
                refine j_bipush (pc := 169) dX12_nameNow_169 rfl ?_
                refine j_bipush (pc := 171) dX12_nameNow_171 rfl ?_
                refine j_bipush (pc := 173) dX12_nameNow_173 rfl ?_
                refine j_bipush (pc := 175) dX12_nameNow_175 rfl ?_
                refine j_callV (pc := 177) (As := [vI 4, vI 114, vI 111, vI 112, vI 101]) (st := []) (c_X12_is hM 4 (by (first | decide | exact ⟨by omega, by omega⟩)) 114 (by (first | decide | exact ⟨by omega, by omega⟩)) 111 (by (first | decide | exact ⟨by omega, by omega⟩)) 112 (by (first | decide | exact ⟨by omega, by omega⟩)) 101 (by (first | decide | exact ⟨by omega, by omega⟩)) σ hI) mv_X12_107 rfl rfl rfl (a_88 hM) dX12_nameNow_177 ⟨Nat.le_of_ble_eq_true rfl, Nat.le_of_ble_eq_true rfl⟩ ⟨Nat.le_refl _, Nat.le_refl _⟩ rfl (Nat.le_of_ble_eq_true rfl) rfl (fun z231 σ232 hz231 => ?_)
                obtain ⟨r234, rfl, hr234, rfl, q233_0⟩ := hz231
                replace q233_0 : (r234 = 1 ∧ σ 88 13 - σ 88 14 = (4 : Int) ∧ fM σ (σ 88 14) = (114 : Int) ∧ fM σ (σ 88 14 + 1) = (111 : Int) ∧ ((4 : Int) < 3 ∨ fM σ (σ 88 14 + 2) = (112 : Int)) ∧ ((4 : Int) < 4 ∨ fM σ (σ 88 14 + 3) = (101 : Int))) ∨ (r234 = 0 ∧ ¬ (σ 88 13 - σ 88 14 = (4 : Int) ∧ fM σ (σ 88 14) = (114 : Int) ∧ fM σ (σ 88 14 + 1) = (111 : Int) ∧ ((4 : Int) < 3 ∨ fM σ (σ 88 14 + 2) = (112 : Int)) ∧ ((4 : Int) < 4 ∨ fM σ (σ 88 14 + 3) = (101 : Int)))) := q233_0
                refine j_st (st' := [vI r234]) rfl ?_
                refine j_ifR_eq (pc := 180) (tgt := 185) ⟨by omega, by omega⟩ dX12_nameNow_180 rfl (fun h235 => ?_) (fun h235 => ?_)
                · have z5 : ¬ nm (fM σ) (σ 88 14) (σ 88 13) 5 = 1 := by (have e := nmE_5 (fM σ) (σ 88 14) (σ 88 13)); omega
                  clear q233_0
                  refine j_aload_n (pc := 185) dX12_nameNow_185 rfl rfl ?_
                  refine j_iconst (pc := 186) dX12_nameNow_186 ?_
                  refine j_bipush (pc := 187) dX12_nameNow_187 rfl ?_
                  refine j_bipush (pc := 189) dX12_nameNow_189 rfl ?_
                  refine j_bipush (pc := 191) dX12_nameNow_191 rfl ?_
                  refine j_bipush (pc := 193) dX12_nameNow_193 rfl ?_
                  refine j_callV (pc := 195) (As := [vI 4, vI 103, vI 105, vI 118, vI 101]) (st := []) (c_X12_is hM 4 (by (first | decide | exact ⟨by omega, by omega⟩)) 103 (by (first | decide | exact ⟨by omega, by omega⟩)) 105 (by (first | decide | exact ⟨by omega, by omega⟩)) 118 (by (first | decide | exact ⟨by omega, by omega⟩)) 101 (by (first | decide | exact ⟨by omega, by omega⟩)) σ hI) mv_X12_107 rfl rfl rfl (a_88 hM) dX12_nameNow_195 ⟨Nat.le_of_ble_eq_true rfl, Nat.le_of_ble_eq_true rfl⟩ ⟨Nat.le_refl _, Nat.le_refl _⟩ rfl (Nat.le_of_ble_eq_true rfl) rfl (fun z236 σ237 hz236 => ?_)
                  obtain ⟨r239, rfl, hr239, rfl, q238_0⟩ := hz236
                  replace q238_0 : (r239 = 1 ∧ σ 88 13 - σ 88 14 = (4 : Int) ∧ fM σ (σ 88 14) = (103 : Int) ∧ fM σ (σ 88 14 + 1) = (105 : Int) ∧ ((4 : Int) < 3 ∨ fM σ (σ 88 14 + 2) = (118 : Int)) ∧ ((4 : Int) < 4 ∨ fM σ (σ 88 14 + 3) = (101 : Int))) ∨ (r239 = 0 ∧ ¬ (σ 88 13 - σ 88 14 = (4 : Int) ∧ fM σ (σ 88 14) = (103 : Int) ∧ fM σ (σ 88 14 + 1) = (105 : Int) ∧ ((4 : Int) < 3 ∨ fM σ (σ 88 14 + 2) = (118 : Int)) ∧ ((4 : Int) < 4 ∨ fM σ (σ 88 14 + 3) = (101 : Int)))) := q238_0
                  refine j_st (st' := [vI r239]) rfl ?_
                  refine j_ifR_eq (pc := 198) (tgt := 203) ⟨by omega, by omega⟩ dX12_nameNow_198 rfl (fun h240 => ?_) (fun h240 => ?_)
                  · have z6 : ¬ nm (fM σ) (σ 88 14) (σ 88 13) 6 = 1 := by (have e := nmE_6 (fM σ) (σ 88 14) (σ 88 13)); omega
                    clear q238_0
                    refine j_aload_n (pc := 203) dX12_nameNow_203 rfl rfl ?_
                    refine j_iconst (pc := 204) dX12_nameNow_204 ?_
                    refine j_bipush (pc := 205) dX12_nameNow_205 rfl ?_
                    refine j_bipush (pc := 207) dX12_nameNow_207 rfl ?_
                    refine j_bipush (pc := 209) dX12_nameNow_209 rfl ?_
                    refine j_bipush (pc := 211) dX12_nameNow_211 rfl ?_
                    refine j_callV (pc := 213) (As := [vI 4, vI 102, vI 105, vI 116, vI 115]) (st := []) (c_X12_is hM 4 (by (first | decide | exact ⟨by omega, by omega⟩)) 102 (by (first | decide | exact ⟨by omega, by omega⟩)) 105 (by (first | decide | exact ⟨by omega, by omega⟩)) 116 (by (first | decide | exact ⟨by omega, by omega⟩)) 115 (by (first | decide | exact ⟨by omega, by omega⟩)) σ hI) mv_X12_107 rfl rfl rfl (a_88 hM) dX12_nameNow_213 ⟨Nat.le_of_ble_eq_true rfl, Nat.le_of_ble_eq_true rfl⟩ ⟨Nat.le_refl _, Nat.le_refl _⟩ rfl (Nat.le_of_ble_eq_true rfl) rfl (fun z241 σ242 hz241 => ?_)
                    obtain ⟨r244, rfl, hr244, rfl, q243_0⟩ := hz241
                    replace q243_0 : (r244 = 1 ∧ σ 88 13 - σ 88 14 = (4 : Int) ∧ fM σ (σ 88 14) = (102 : Int) ∧ fM σ (σ 88 14 + 1) = (105 : Int) ∧ ((4 : Int) < 3 ∨ fM σ (σ 88 14 + 2) = (116 : Int)) ∧ ((4 : Int) < 4 ∨ fM σ (σ 88 14 + 3) = (115 : Int))) ∨ (r244 = 0 ∧ ¬ (σ 88 13 - σ 88 14 = (4 : Int) ∧ fM σ (σ 88 14) = (102 : Int) ∧ fM σ (σ 88 14 + 1) = (105 : Int) ∧ ((4 : Int) < 3 ∨ fM σ (σ 88 14 + 2) = (116 : Int)) ∧ ((4 : Int) < 4 ∨ fM σ (σ 88 14 + 3) = (115 : Int)))) := q243_0
                    refine j_st (st' := [vI r244]) rfl ?_
                    refine j_ifR_eq (pc := 216) (tgt := 221) ⟨by omega, by omega⟩ dX12_nameNow_216 rfl (fun h245 => ?_) (fun h245 => ?_)
                    · have z7 : ¬ nm (fM σ) (σ 88 14) (σ 88 13) 7 = 1 := by (have e := nmE_7 (fM σ) (σ 88 14) (σ 88 13)); omega
                      clear q243_0
                      refine j_aload_n (pc := 221) dX12_nameNow_221 rfl rfl ?_
                      refine j_iconst (pc := 222) dX12_nameNow_222 ?_
                      refine j_bipush (pc := 223) dX12_nameNow_223 rfl ?_
                      refine j_bipush (pc := 225) dX12_nameNow_225 rfl ?_
                      refine j_bipush (pc := 227) dX12_nameNow_227 rfl ?_
                      refine j_bipush (pc := 229) dX12_nameNow_229 rfl ?_
                      refine j_callV (pc := 231) (As := [vI 5, vI 104, vI 111, vI 108, vI 100]) (st := []) (c_X12_is hM 5 (by (first | decide | exact ⟨by omega, by omega⟩)) 104 (by (first | decide | exact ⟨by omega, by omega⟩)) 111 (by (first | decide | exact ⟨by omega, by omega⟩)) 108 (by (first | decide | exact ⟨by omega, by omega⟩)) 100 (by (first | decide | exact ⟨by omega, by omega⟩)) σ hI) mv_X12_107 rfl rfl rfl (a_88 hM) dX12_nameNow_231 ⟨Nat.le_of_ble_eq_true rfl, Nat.le_of_ble_eq_true rfl⟩ ⟨Nat.le_refl _, Nat.le_refl _⟩ rfl (Nat.le_of_ble_eq_true rfl) rfl (fun z246 σ247 hz246 => ?_)
                      obtain ⟨r249, rfl, hr249, rfl, q248_0⟩ := hz246
                      replace q248_0 : (r249 = 1 ∧ σ 88 13 - σ 88 14 = (5 : Int) ∧ fM σ (σ 88 14) = (104 : Int) ∧ fM σ (σ 88 14 + 1) = (111 : Int) ∧ ((5 : Int) < 3 ∨ fM σ (σ 88 14 + 2) = (108 : Int)) ∧ ((5 : Int) < 4 ∨ fM σ (σ 88 14 + 3) = (100 : Int))) ∨ (r249 = 0 ∧ ¬ (σ 88 13 - σ 88 14 = (5 : Int) ∧ fM σ (σ 88 14) = (104 : Int) ∧ fM σ (σ 88 14 + 1) = (111 : Int) ∧ ((5 : Int) < 3 ∨ fM σ (σ 88 14 + 2) = (108 : Int)) ∧ ((5 : Int) < 4 ∨ fM σ (σ 88 14 + 3) = (100 : Int)))) := q248_0
                      refine j_st (st' := [vI r249]) rfl ?_
                      refine j_ifR_eq (pc := 234) (tgt := 255) ⟨by omega, by omega⟩ dX12_nameNow_234 rfl (fun h250 => ?_) (fun h250 => ?_)
                      · have z8 : ¬ nm (fM σ) (σ 88 14) (σ 88 13) 8 = 1 := by (have e := nmE_8 (fM σ) (σ 88 14) (σ 88 13)); omega
                        clear q248_0
                        refine j_aload_n (pc := 255) dX12_nameNow_255 rfl rfl ?_
                        refine j_iconst (pc := 256) dX12_nameNow_256 ?_
                        refine j_bipush (pc := 257) dX12_nameNow_257 rfl ?_
                        refine j_bipush (pc := 259) dX12_nameNow_259 rfl ?_
                        refine j_bipush (pc := 261) dX12_nameNow_261 rfl ?_
                        refine j_iconst (pc := 263) dX12_nameNow_263 ?_
                        refine j_callV (pc := 264) (As := [vI 3, vI 108, vI 111, vI 119, vI 0]) (st := []) (c_X12_is hM 3 (by (first | decide | exact ⟨by omega, by omega⟩)) 108 (by (first | decide | exact ⟨by omega, by omega⟩)) 111 (by (first | decide | exact ⟨by omega, by omega⟩)) 119 (by (first | decide | exact ⟨by omega, by omega⟩)) 0 (by (first | decide | exact ⟨by omega, by omega⟩)) σ hI) mv_X12_107 rfl rfl rfl (a_88 hM) dX12_nameNow_264 ⟨Nat.le_of_ble_eq_true rfl, Nat.le_of_ble_eq_true rfl⟩ ⟨Nat.le_refl _, Nat.le_refl _⟩ rfl (Nat.le_of_ble_eq_true rfl) rfl (fun z251 σ252 hz251 => ?_)
                        obtain ⟨r254, rfl, hr254, rfl, q253_0⟩ := hz251
                        replace q253_0 : (r254 = 1 ∧ σ 88 13 - σ 88 14 = (3 : Int) ∧ fM σ (σ 88 14) = (108 : Int) ∧ fM σ (σ 88 14 + 1) = (111 : Int) ∧ ((3 : Int) < 3 ∨ fM σ (σ 88 14 + 2) = (119 : Int)) ∧ ((3 : Int) < 4 ∨ fM σ (σ 88 14 + 3) = (0 : Int))) ∨ (r254 = 0 ∧ ¬ (σ 88 13 - σ 88 14 = (3 : Int) ∧ fM σ (σ 88 14) = (108 : Int) ∧ fM σ (σ 88 14 + 1) = (111 : Int) ∧ ((3 : Int) < 3 ∨ fM σ (σ 88 14 + 2) = (119 : Int)) ∧ ((3 : Int) < 4 ∨ fM σ (σ 88 14 + 3) = (0 : Int)))) := q253_0
                        refine j_st (st' := [vI r254]) rfl ?_
                        refine j_ifR_eq (pc := 267) (tgt := 275) ⟨by omega, by omega⟩ dX12_nameNow_267 rfl (fun h255 => ?_) (fun h255 => ?_)
                        · have z9 : ¬ nm (fM σ) (σ 88 14) (σ 88 13) 9 = 1 := by (have e := nmE_9 (fM σ) (σ 88 14) (σ 88 13)); omega
                          clear q253_0
                          have zl : lnm (fM σ) 1 (σ 88 14) (σ 88 13) = -1 := by unfold lnm; rw [if_neg (by decide)]; repeat (first | rw [if_pos (by omega)] | rw [if_neg (by omega)])
                          refine j_aload_n (pc := 275) dX12_nameNow_275 rfl rfl ?_
                          refine j_callV (pc := 276) (As := []) (st := []) (c_X12_withNow hM σ hI) mv_X12_111 rfl rfl rfl (a_88 hM) dX12_nameNow_276 ⟨Nat.le_of_ble_eq_true rfl, Nat.le_of_ble_eq_true rfl⟩ ⟨Nat.le_refl _, Nat.le_refl _⟩ rfl (Nat.le_of_ble_eq_true rfl) rfl (fun z256 σ257 hz256 => ?_)
                          obtain ⟨r259, rfl, hr259, rfl, q258_0, q258_1⟩ := hz256
                          replace q258_0 : r259 = -4 ∨ 20 ≤ r259 := q258_0
                          replace q258_1 : (r259 = -4 ∧ wnm (fM σ) 1 (σ 88 14) (σ 88 13) = -1) ∨ (r259 = 20 + wnm (fM σ) 1 (σ 88 14) (σ 88 13) ∧ 0 ≤ wnm (fM σ) 1 (σ 88 14) (σ 88 13) ∧ wnm (fM σ) 1 (σ 88 14) (σ 88 13) ≤ 3) := q258_1
                          refine j_st (st' := [vI r259]) rfl ?_
                          exact j_iret (pc := 279) ⟨rfl, rfl⟩ dX12_nameNow_279 rfl ⟨_, rfl, ⟨by omega, by omega⟩, rfl, by omega⟩
                        · have z9 : nm (fM σ) (σ 88 14) (σ 88 13) 9 = 1 := by (have e := nmE_9 (fM σ) (σ 88 14) (σ 88 13)); omega
                          clear q253_0
                          have zl : lnm (fM σ) 1 (σ 88 14) (σ 88 13) = 8 := by unfold lnm; rw [if_neg (by decide)]; repeat (first | rw [if_pos (by omega)] | rw [if_neg (by omega)])
                          refine j_bipush (pc := 270) dX12_nameNow_270 rfl ?_
                          refine j_goto (pc := 272) (tgt := 279) dX12_nameNow_272 rfl ?_
                          exact j_iret (pc := 279) ⟨rfl, rfl⟩ dX12_nameNow_279 rfl ⟨_, rfl, ⟨by omega, by omega⟩, rfl, by omega⟩
                      · refine j_aload_n (pc := 237) dX12_nameNow_237 rfl rfl ?_
                        refine j_aload_n (pc := 238) dX12_nameNow_238 rfl rfl ?_
                        refine j_getI (pc := 239) fl_X12_94 dX12_nameNow_239 (a_88 hM) rfl ?_
                        refine j_iconst (pc := 242) dX12_nameNow_242 ?_
                        refine j_iadd (pc := 243) dX12_nameNow_243 ?_
                        refine j_callV (pc := 244) (As := [vI ((σ 88 14) + 4)]) (st := []) (c_X12_look hM ((σ 88 14) + 4) ⟨by omega, by omega⟩ σ hI) mv_X12_103 rfl rfl rfl (a_88 hM) dX12_nameNow_244 ⟨Nat.le_of_ble_eq_true rfl, Nat.le_of_ble_eq_true rfl⟩ ⟨Nat.le_refl _, Nat.le_refl _⟩ rfl (Nat.le_of_ble_eq_true rfl) rfl (fun z260 σ261 hz260 => ?_)
                        obtain ⟨r263, rfl, hr263, rfl, q262_0, q262_1⟩ := hz260
                        replace q262_0 : (((σ 88 14) + 4) < σ 88 12 ∧ r263 = σ 98 ((σ 88 14) + 4).toNat) ∨ (¬ ((σ 88 14) + 4) < σ 88 12 ∧ r263 = -1) := q262_0
                        replace q262_1 : r263 = fM σ ((σ 88 14) + 4) := q262_1
                        refine j_st (st' := [vI r263]) rfl ?_
                        refine j_bipush (pc := 247) dX12_nameNow_247 rfl ?_
                        refine j_icmpR_ne (pc := 249) (tgt := 255) ⟨by omega, by omega⟩ ⟨by omega, by omega⟩ dX12_nameNow_249 rfl (fun h264 => ?_) (fun h264 => ?_)
                        · have z8 : ¬ nm (fM σ) (σ 88 14) (σ 88 13) 8 = 1 := by (have e := nmE_8 (fM σ) (σ 88 14) (σ 88 13)); omega
                          clear q248_0 q262_0 q262_1
                          refine j_aload_n (pc := 255) dX12_nameNow_255 rfl rfl ?_
                          refine j_iconst (pc := 256) dX12_nameNow_256 ?_
                          refine j_bipush (pc := 257) dX12_nameNow_257 rfl ?_
                          refine j_bipush (pc := 259) dX12_nameNow_259 rfl ?_
                          refine j_bipush (pc := 261) dX12_nameNow_261 rfl ?_
                          refine j_iconst (pc := 263) dX12_nameNow_263 ?_
                          refine j_callV (pc := 264) (As := [vI 3, vI 108, vI 111, vI 119, vI 0]) (st := []) (c_X12_is hM 3 (by (first | decide | exact ⟨by omega, by omega⟩)) 108 (by (first | decide | exact ⟨by omega, by omega⟩)) 111 (by (first | decide | exact ⟨by omega, by omega⟩)) 119 (by (first | decide | exact ⟨by omega, by omega⟩)) 0 (by (first | decide | exact ⟨by omega, by omega⟩)) σ hI) mv_X12_107 rfl rfl rfl (a_88 hM) dX12_nameNow_264 ⟨Nat.le_of_ble_eq_true rfl, Nat.le_of_ble_eq_true rfl⟩ ⟨Nat.le_refl _, Nat.le_refl _⟩ rfl (Nat.le_of_ble_eq_true rfl) rfl (fun z265 σ266 hz265 => ?_)
                          obtain ⟨r268, rfl, hr268, rfl, q267_0⟩ := hz265
                          replace q267_0 : (r268 = 1 ∧ σ 88 13 - σ 88 14 = (3 : Int) ∧ fM σ (σ 88 14) = (108 : Int) ∧ fM σ (σ 88 14 + 1) = (111 : Int) ∧ ((3 : Int) < 3 ∨ fM σ (σ 88 14 + 2) = (119 : Int)) ∧ ((3 : Int) < 4 ∨ fM σ (σ 88 14 + 3) = (0 : Int))) ∨ (r268 = 0 ∧ ¬ (σ 88 13 - σ 88 14 = (3 : Int) ∧ fM σ (σ 88 14) = (108 : Int) ∧ fM σ (σ 88 14 + 1) = (111 : Int) ∧ ((3 : Int) < 3 ∨ fM σ (σ 88 14 + 2) = (119 : Int)) ∧ ((3 : Int) < 4 ∨ fM σ (σ 88 14 + 3) = (0 : Int)))) := q267_0
                          refine j_st (st' := [vI r268]) rfl ?_
                          refine j_ifR_eq (pc := 267) (tgt := 275) ⟨by omega, by omega⟩ dX12_nameNow_267 rfl (fun h269 => ?_) (fun h269 => ?_)
                          · have z9 : ¬ nm (fM σ) (σ 88 14) (σ 88 13) 9 = 1 := by (have e := nmE_9 (fM σ) (σ 88 14) (σ 88 13)); omega
                            clear q267_0
                            have zl : lnm (fM σ) 1 (σ 88 14) (σ 88 13) = -1 := by unfold lnm; rw [if_neg (by decide)]; repeat (first | rw [if_pos (by omega)] | rw [if_neg (by omega)])
                            refine j_aload_n (pc := 275) dX12_nameNow_275 rfl rfl ?_
                            refine j_callV (pc := 276) (As := []) (st := []) (c_X12_withNow hM σ hI) mv_X12_111 rfl rfl rfl (a_88 hM) dX12_nameNow_276 ⟨Nat.le_of_ble_eq_true rfl, Nat.le_of_ble_eq_true rfl⟩ ⟨Nat.le_refl _, Nat.le_refl _⟩ rfl (Nat.le_of_ble_eq_true rfl) rfl (fun z270 σ271 hz270 => ?_)
                            obtain ⟨r273, rfl, hr273, rfl, q272_0, q272_1⟩ := hz270
                            replace q272_0 : r273 = -4 ∨ 20 ≤ r273 := q272_0
                            replace q272_1 : (r273 = -4 ∧ wnm (fM σ) 1 (σ 88 14) (σ 88 13) = -1) ∨ (r273 = 20 + wnm (fM σ) 1 (σ 88 14) (σ 88 13) ∧ 0 ≤ wnm (fM σ) 1 (σ 88 14) (σ 88 13) ∧ wnm (fM σ) 1 (σ 88 14) (σ 88 13) ≤ 3) := q272_1
                            refine j_st (st' := [vI r273]) rfl ?_
                            exact j_iret (pc := 279) ⟨rfl, rfl⟩ dX12_nameNow_279 rfl ⟨_, rfl, ⟨by omega, by omega⟩, rfl, by omega⟩
                          · have z9 : nm (fM σ) (σ 88 14) (σ 88 13) 9 = 1 := by (have e := nmE_9 (fM σ) (σ 88 14) (σ 88 13)); omega
                            clear q267_0
                            have zl : lnm (fM σ) 1 (σ 88 14) (σ 88 13) = 8 := by unfold lnm; rw [if_neg (by decide)]; repeat (first | rw [if_pos (by omega)] | rw [if_neg (by omega)])
                            refine j_bipush (pc := 270) dX12_nameNow_270 rfl ?_
                            refine j_goto (pc := 272) (tgt := 279) dX12_nameNow_272 rfl ?_
                            exact j_iret (pc := 279) ⟨rfl, rfl⟩ dX12_nameNow_279 rfl ⟨_, rfl, ⟨by omega, by omega⟩, rfl, by omega⟩
                        · have z8 : nm (fM σ) (σ 88 14) (σ 88 13) 8 = 1 := by (have e := nmE_8 (fM σ) (σ 88 14) (σ 88 13)); omega
                          clear q248_0 q262_0 q262_1
                          have zl : lnm (fM σ) 1 (σ 88 14) (σ 88 13) = 7 := by unfold lnm; rw [if_neg (by decide)]; repeat (first | rw [if_pos (by omega)] | rw [if_neg (by omega)])
                          refine j_bipush (pc := 252) dX12_nameNow_252 rfl ?_
                          exact j_iret (pc := 254) ⟨rfl, rfl⟩ dX12_nameNow_254 rfl ⟨_, rfl, ⟨by omega, by omega⟩, rfl, by omega⟩
                    · have z7 : nm (fM σ) (σ 88 14) (σ 88 13) 7 = 1 := by (have e := nmE_7 (fM σ) (σ 88 14) (σ 88 13)); omega
                      clear q243_0
                      have zl : lnm (fM σ) 1 (σ 88 14) (σ 88 13) = 5 := by unfold lnm; rw [if_neg (by decide)]; repeat (first | rw [if_pos (by omega)] | rw [if_neg (by omega)])
                      refine j_iconst (pc := 219) dX12_nameNow_219 ?_
                      exact j_iret (pc := 220) ⟨rfl, rfl⟩ dX12_nameNow_220 rfl ⟨_, rfl, ⟨by omega, by omega⟩, rfl, by omega⟩
                  · have z6 : nm (fM σ) (σ 88 14) (σ 88 13) 6 = 1 := by (have e := nmE_6 (fM σ) (σ 88 14) (σ 88 13)); omega
                    clear q238_0
                    have zl : lnm (fM σ) 1 (σ 88 14) (σ 88 13) = 4 := by unfold lnm; rw [if_neg (by decide)]; repeat (first | rw [if_pos (by omega)] | rw [if_neg (by omega)])
                    refine j_iconst (pc := 201) dX12_nameNow_201 ?_
                    exact j_iret (pc := 202) ⟨rfl, rfl⟩ dX12_nameNow_202 rfl ⟨_, rfl, ⟨by omega, by omega⟩, rfl, by omega⟩
                · have z5 : nm (fM σ) (σ 88 14) (σ 88 13) 5 = 1 := by (have e := nmE_5 (fM σ) (σ 88 14) (σ 88 13)); omega
                  clear q233_0
                  have zl : lnm (fM σ) 1 (σ 88 14) (σ 88 13) = 3 := by unfold lnm; rw [if_neg (by decide)]; repeat (first | rw [if_pos (by omega)] | rw [if_neg (by omega)])
                  refine j_iconst (pc := 183) dX12_nameNow_183 ?_
                  exact j_iret (pc := 184) ⟨rfl, rfl⟩ dX12_nameNow_184 rfl ⟨_, rfl, ⟨by omega, by omega⟩, rfl, by omega⟩
              · refine j_aload_n (pc := 150) dX12_nameNow_150 rfl rfl ?_
                refine j_aload_n (pc := 151) dX12_nameNow_151 rfl rfl ?_
                refine j_getI (pc := 152) fl_X12_94 dX12_nameNow_152 (a_88 hM) rfl ?_
                refine j_iconst (pc := 155) dX12_nameNow_155 ?_
                refine j_iadd (pc := 156) dX12_nameNow_156 ?_
                refine j_callV (pc := 157) (As := [vI ((σ 88 14) + 4)]) (st := []) (c_X12_look hM ((σ 88 14) + 4) ⟨by omega, by omega⟩ σ hI) mv_X12_103 rfl rfl rfl (a_88 hM) dX12_nameNow_157 ⟨Nat.le_of_ble_eq_true rfl, Nat.le_of_ble_eq_true rfl⟩ ⟨Nat.le_refl _, Nat.le_refl _⟩ rfl (Nat.le_of_ble_eq_true rfl) rfl (fun z274 σ275 hz274 => ?_)
                obtain ⟨r277, rfl, hr277, rfl, q276_0, q276_1⟩ := hz274
                replace q276_0 : (((σ 88 14) + 4) < σ 88 12 ∧ r277 = σ 98 ((σ 88 14) + 4).toNat) ∨ (¬ ((σ 88 14) + 4) < σ 88 12 ∧ r277 = -1) := q276_0
                replace q276_1 : r277 = fM σ ((σ 88 14) + 4) := q276_1
                refine j_st (st' := [vI r277]) rfl ?_
                refine j_bipush (pc := 160) dX12_nameNow_160 rfl ?_
                refine j_icmpR_ne (pc := 162) (tgt := 167) ⟨by omega, by omega⟩ ⟨by omega, by omega⟩ dX12_nameNow_162 rfl (fun h278 => ?_) (fun h278 => ?_)
                · have z4 : ¬ nm (fM σ) (σ 88 14) (σ 88 13) 4 = 1 := by (have e := nmE_4 (fM σ) (σ 88 14) (σ 88 13)); omega
                  clear q228_0 q276_0 q276_1
                  refine j_aload_n (pc := 167) dX12_nameNow_167 rfl rfl ?_
                  refine j_iconst (pc := 168) dX12_nameNow_168 ?_
                  refine j_bipush (pc := 169) dX12_nameNow_169 rfl ?_
                  refine j_bipush (pc := 171) dX12_nameNow_171 rfl ?_
                  refine j_bipush (pc := 173) dX12_nameNow_173 rfl ?_
                  refine j_bipush (pc := 175) dX12_nameNow_175 rfl ?_
                  refine j_callV (pc := 177) (As := [vI 4, vI 114, vI 111, vI 112, vI 101]) (st := []) (c_X12_is hM 4 (by (first | decide | exact ⟨by omega, by omega⟩)) 114 (by (first | decide | exact ⟨by omega, by omega⟩)) 111 (by (first | decide | exact ⟨by omega, by omega⟩)) 112 (by (first | decide | exact ⟨by omega, by omega⟩)) 101 (by (first | decide | exact ⟨by omega, by omega⟩)) σ hI) mv_X12_107 rfl rfl rfl (a_88 hM) dX12_nameNow_177 ⟨Nat.le_of_ble_eq_true rfl, Nat.le_of_ble_eq_true rfl⟩ ⟨Nat.le_refl _, Nat.le_refl _⟩ rfl (Nat.le_of_ble_eq_true rfl) rfl (fun z279 σ280 hz279 => ?_)
                  obtain ⟨r282, rfl, hr282, rfl, q281_0⟩ := hz279
                  replace q281_0 : (r282 = 1 ∧ σ 88 13 - σ 88 14 = (4 : Int) ∧ fM σ (σ 88 14) = (114 : Int) ∧ fM σ (σ 88 14 + 1) = (111 : Int) ∧ ((4 : Int) < 3 ∨ fM σ (σ 88 14 + 2) = (112 : Int)) ∧ ((4 : Int) < 4 ∨ fM σ (σ 88 14 + 3) = (101 : Int))) ∨ (r282 = 0 ∧ ¬ (σ 88 13 - σ 88 14 = (4 : Int) ∧ fM σ (σ 88 14) = (114 : Int) ∧ fM σ (σ 88 14 + 1) = (111 : Int) ∧ ((4 : Int) < 3 ∨ fM σ (σ 88 14 + 2) = (112 : Int)) ∧ ((4 : Int) < 4 ∨ fM σ (σ 88 14 + 3) = (101 : Int)))) := q281_0
                  refine j_st (st' := [vI r282]) rfl ?_
                  refine j_ifR_eq (pc := 180) (tgt := 185) ⟨by omega, by omega⟩ dX12_nameNow_180 rfl (fun h283 => ?_) (fun h283 => ?_)
                  · have z5 : ¬ nm (fM σ) (σ 88 14) (σ 88 13) 5 = 1 := by (have e := nmE_5 (fM σ) (σ 88 14) (σ 88 13)); omega
                    clear q281_0
                    refine j_aload_n (pc := 185) dX12_nameNow_185 rfl rfl ?_
                    refine j_iconst (pc := 186) dX12_nameNow_186 ?_
                    refine j_bipush (pc := 187) dX12_nameNow_187 rfl ?_
                    refine j_bipush (pc := 189) dX12_nameNow_189 rfl ?_
                    refine j_bipush (pc := 191) dX12_nameNow_191 rfl ?_
                    refine j_bipush (pc := 193) dX12_nameNow_193 rfl ?_
                    refine j_callV (pc := 195) (As := [vI 4, vI 103, vI 105, vI 118, vI 101]) (st := []) (c_X12_is hM 4 (by (first | decide | exact ⟨by omega, by omega⟩)) 103 (by (first | decide | exact ⟨by omega, by omega⟩)) 105 (by (first | decide | exact ⟨by omega, by omega⟩)) 118 (by (first | decide | exact ⟨by omega, by omega⟩)) 101 (by (first | decide | exact ⟨by omega, by omega⟩)) σ hI) mv_X12_107 rfl rfl rfl (a_88 hM) dX12_nameNow_195 ⟨Nat.le_of_ble_eq_true rfl, Nat.le_of_ble_eq_true rfl⟩ ⟨Nat.le_refl _, Nat.le_refl _⟩ rfl (Nat.le_of_ble_eq_true rfl) rfl (fun z284 σ285 hz284 => ?_)
                    obtain ⟨r287, rfl, hr287, rfl, q286_0⟩ := hz284
                    replace q286_0 : (r287 = 1 ∧ σ 88 13 - σ 88 14 = (4 : Int) ∧ fM σ (σ 88 14) = (103 : Int) ∧ fM σ (σ 88 14 + 1) = (105 : Int) ∧ ((4 : Int) < 3 ∨ fM σ (σ 88 14 + 2) = (118 : Int)) ∧ ((4 : Int) < 4 ∨ fM σ (σ 88 14 + 3) = (101 : Int))) ∨ (r287 = 0 ∧ ¬ (σ 88 13 - σ 88 14 = (4 : Int) ∧ fM σ (σ 88 14) = (103 : Int) ∧ fM σ (σ 88 14 + 1) = (105 : Int) ∧ ((4 : Int) < 3 ∨ fM σ (σ 88 14 + 2) = (118 : Int)) ∧ ((4 : Int) < 4 ∨ fM σ (σ 88 14 + 3) = (101 : Int)))) := q286_0
                    refine j_st (st' := [vI r287]) rfl ?_
                    refine j_ifR_eq (pc := 198) (tgt := 203) ⟨by omega, by omega⟩ dX12_nameNow_198 rfl (fun h288 => ?_) (fun h288 => ?_)
                    · have z6 : ¬ nm (fM σ) (σ 88 14) (σ 88 13) 6 = 1 := by (have e := nmE_6 (fM σ) (σ 88 14) (σ 88 13)); omega
                      clear q286_0
                      refine j_aload_n (pc := 203) dX12_nameNow_203 rfl rfl ?_
                      refine j_iconst (pc := 204) dX12_nameNow_204 ?_
                      refine j_bipush (pc := 205) dX12_nameNow_205 rfl ?_
                      refine j_bipush (pc := 207) dX12_nameNow_207 rfl ?_
                      refine j_bipush (pc := 209) dX12_nameNow_209 rfl ?_
                      refine j_bipush (pc := 211) dX12_nameNow_211 rfl ?_
                      refine j_callV (pc := 213) (As := [vI 4, vI 102, vI 105, vI 116, vI 115]) (st := []) (c_X12_is hM 4 (by (first | decide | exact ⟨by omega, by omega⟩)) 102 (by (first | decide | exact ⟨by omega, by omega⟩)) 105 (by (first | decide | exact ⟨by omega, by omega⟩)) 116 (by (first | decide | exact ⟨by omega, by omega⟩)) 115 (by (first | decide | exact ⟨by omega, by omega⟩)) σ hI) mv_X12_107 rfl rfl rfl (a_88 hM) dX12_nameNow_213 ⟨Nat.le_of_ble_eq_true rfl, Nat.le_of_ble_eq_true rfl⟩ ⟨Nat.le_refl _, Nat.le_refl _⟩ rfl (Nat.le_of_ble_eq_true rfl) rfl (fun z289 σ290 hz289 => ?_)
                      obtain ⟨r292, rfl, hr292, rfl, q291_0⟩ := hz289
                      replace q291_0 : (r292 = 1 ∧ σ 88 13 - σ 88 14 = (4 : Int) ∧ fM σ (σ 88 14) = (102 : Int) ∧ fM σ (σ 88 14 + 1) = (105 : Int) ∧ ((4 : Int) < 3 ∨ fM σ (σ 88 14 + 2) = (116 : Int)) ∧ ((4 : Int) < 4 ∨ fM σ (σ 88 14 + 3) = (115 : Int))) ∨ (r292 = 0 ∧ ¬ (σ 88 13 - σ 88 14 = (4 : Int) ∧ fM σ (σ 88 14) = (102 : Int) ∧ fM σ (σ 88 14 + 1) = (105 : Int) ∧ ((4 : Int) < 3 ∨ fM σ (σ 88 14 + 2) = (116 : Int)) ∧ ((4 : Int) < 4 ∨ fM σ (σ 88 14 + 3) = (115 : Int)))) := q291_0
                      refine j_st (st' := [vI r292]) rfl ?_
                      refine j_ifR_eq (pc := 216) (tgt := 221) ⟨by omega, by omega⟩ dX12_nameNow_216 rfl (fun h293 => ?_) (fun h293 => ?_)
                      · have z7 : ¬ nm (fM σ) (σ 88 14) (σ 88 13) 7 = 1 := by (have e := nmE_7 (fM σ) (σ 88 14) (σ 88 13)); omega
                        clear q291_0
                        refine j_aload_n (pc := 221) dX12_nameNow_221 rfl rfl ?_
                        refine j_iconst (pc := 222) dX12_nameNow_222 ?_
                        refine j_bipush (pc := 223) dX12_nameNow_223 rfl ?_
                        refine j_bipush (pc := 225) dX12_nameNow_225 rfl ?_
                        refine j_bipush (pc := 227) dX12_nameNow_227 rfl ?_
                        refine j_bipush (pc := 229) dX12_nameNow_229 rfl ?_
                        refine j_callV (pc := 231) (As := [vI 5, vI 104, vI 111, vI 108, vI 100]) (st := []) (c_X12_is hM 5 (by (first | decide | exact ⟨by omega, by omega⟩)) 104 (by (first | decide | exact ⟨by omega, by omega⟩)) 111 (by (first | decide | exact ⟨by omega, by omega⟩)) 108 (by (first | decide | exact ⟨by omega, by omega⟩)) 100 (by (first | decide | exact ⟨by omega, by omega⟩)) σ hI) mv_X12_107 rfl rfl rfl (a_88 hM) dX12_nameNow_231 ⟨Nat.le_of_ble_eq_true rfl, Nat.le_of_ble_eq_true rfl⟩ ⟨Nat.le_refl _, Nat.le_refl _⟩ rfl (Nat.le_of_ble_eq_true rfl) rfl (fun z294 σ295 hz294 => ?_)
                        obtain ⟨r297, rfl, hr297, rfl, q296_0⟩ := hz294
                        replace q296_0 : (r297 = 1 ∧ σ 88 13 - σ 88 14 = (5 : Int) ∧ fM σ (σ 88 14) = (104 : Int) ∧ fM σ (σ 88 14 + 1) = (111 : Int) ∧ ((5 : Int) < 3 ∨ fM σ (σ 88 14 + 2) = (108 : Int)) ∧ ((5 : Int) < 4 ∨ fM σ (σ 88 14 + 3) = (100 : Int))) ∨ (r297 = 0 ∧ ¬ (σ 88 13 - σ 88 14 = (5 : Int) ∧ fM σ (σ 88 14) = (104 : Int) ∧ fM σ (σ 88 14 + 1) = (111 : Int) ∧ ((5 : Int) < 3 ∨ fM σ (σ 88 14 + 2) = (108 : Int)) ∧ ((5 : Int) < 4 ∨ fM σ (σ 88 14 + 3) = (100 : Int)))) := q296_0
                        refine j_st (st' := [vI r297]) rfl ?_
                        refine j_ifR_eq (pc := 234) (tgt := 255) ⟨by omega, by omega⟩ dX12_nameNow_234 rfl (fun h298 => ?_) (fun h298 => ?_)
                        · have z8 : ¬ nm (fM σ) (σ 88 14) (σ 88 13) 8 = 1 := by (have e := nmE_8 (fM σ) (σ 88 14) (σ 88 13)); omega
                          clear q296_0
                          refine j_aload_n (pc := 255) dX12_nameNow_255 rfl rfl ?_
                          refine j_iconst (pc := 256) dX12_nameNow_256 ?_
                          refine j_bipush (pc := 257) dX12_nameNow_257 rfl ?_
                          refine j_bipush (pc := 259) dX12_nameNow_259 rfl ?_
                          refine j_bipush (pc := 261) dX12_nameNow_261 rfl ?_
                          refine j_iconst (pc := 263) dX12_nameNow_263 ?_
                          refine j_callV (pc := 264) (As := [vI 3, vI 108, vI 111, vI 119, vI 0]) (st := []) (c_X12_is hM 3 (by (first | decide | exact ⟨by omega, by omega⟩)) 108 (by (first | decide | exact ⟨by omega, by omega⟩)) 111 (by (first | decide | exact ⟨by omega, by omega⟩)) 119 (by (first | decide | exact ⟨by omega, by omega⟩)) 0 (by (first | decide | exact ⟨by omega, by omega⟩)) σ hI) mv_X12_107 rfl rfl rfl (a_88 hM) dX12_nameNow_264 ⟨Nat.le_of_ble_eq_true rfl, Nat.le_of_ble_eq_true rfl⟩ ⟨Nat.le_refl _, Nat.le_refl _⟩ rfl (Nat.le_of_ble_eq_true rfl) rfl (fun z299 σ300 hz299 => ?_)
                          obtain ⟨r302, rfl, hr302, rfl, q301_0⟩ := hz299
                          replace q301_0 : (r302 = 1 ∧ σ 88 13 - σ 88 14 = (3 : Int) ∧ fM σ (σ 88 14) = (108 : Int) ∧ fM σ (σ 88 14 + 1) = (111 : Int) ∧ ((3 : Int) < 3 ∨ fM σ (σ 88 14 + 2) = (119 : Int)) ∧ ((3 : Int) < 4 ∨ fM σ (σ 88 14 + 3) = (0 : Int))) ∨ (r302 = 0 ∧ ¬ (σ 88 13 - σ 88 14 = (3 : Int) ∧ fM σ (σ 88 14) = (108 : Int) ∧ fM σ (σ 88 14 + 1) = (111 : Int) ∧ ((3 : Int) < 3 ∨ fM σ (σ 88 14 + 2) = (119 : Int)) ∧ ((3 : Int) < 4 ∨ fM σ (σ 88 14 + 3) = (0 : Int)))) := q301_0
                          refine j_st (st' := [vI r302]) rfl ?_
                          refine j_ifR_eq (pc := 267) (tgt := 275) ⟨by omega, by omega⟩ dX12_nameNow_267 rfl (fun h303 => ?_) (fun h303 => ?_)
                          · have z9 : ¬ nm (fM σ) (σ 88 14) (σ 88 13) 9 = 1 := by (have e := nmE_9 (fM σ) (σ 88 14) (σ 88 13)); omega
                            clear q301_0
                            have zl : lnm (fM σ) 1 (σ 88 14) (σ 88 13) = -1 := by unfold lnm; rw [if_neg (by decide)]; repeat (first | rw [if_pos (by omega)] | rw [if_neg (by omega)])
                            refine j_aload_n (pc := 275) dX12_nameNow_275 rfl rfl ?_
                            refine j_callV (pc := 276) (As := []) (st := []) (c_X12_withNow hM σ hI) mv_X12_111 rfl rfl rfl (a_88 hM) dX12_nameNow_276 ⟨Nat.le_of_ble_eq_true rfl, Nat.le_of_ble_eq_true rfl⟩ ⟨Nat.le_refl _, Nat.le_refl _⟩ rfl (Nat.le_of_ble_eq_true rfl) rfl (fun z304 σ305 hz304 => ?_)
                            obtain ⟨r307, rfl, hr307, rfl, q306_0, q306_1⟩ := hz304
                            replace q306_0 : r307 = -4 ∨ 20 ≤ r307 := q306_0
                            replace q306_1 : (r307 = -4 ∧ wnm (fM σ) 1 (σ 88 14) (σ 88 13) = -1) ∨ (r307 = 20 + wnm (fM σ) 1 (σ 88 14) (σ 88 13) ∧ 0 ≤ wnm (fM σ) 1 (σ 88 14) (σ 88 13) ∧ wnm (fM σ) 1 (σ 88 14) (σ 88 13) ≤ 3) := q306_1
                            refine j_st (st' := [vI r307]) rfl ?_
                            exact j_iret (pc := 279) ⟨rfl, rfl⟩ dX12_nameNow_279 rfl ⟨_, rfl, ⟨by omega, by omega⟩, rfl, by omega⟩
                          · have z9 : nm (fM σ) (σ 88 14) (σ 88 13) 9 = 1 := by (have e := nmE_9 (fM σ) (σ 88 14) (σ 88 13)); omega
                            clear q301_0
                            have zl : lnm (fM σ) 1 (σ 88 14) (σ 88 13) = 8 := by unfold lnm; rw [if_neg (by decide)]; repeat (first | rw [if_pos (by omega)] | rw [if_neg (by omega)])
                            refine j_bipush (pc := 270) dX12_nameNow_270 rfl ?_
                            refine j_goto (pc := 272) (tgt := 279) dX12_nameNow_272 rfl ?_
                            exact j_iret (pc := 279) ⟨rfl, rfl⟩ dX12_nameNow_279 rfl ⟨_, rfl, ⟨by omega, by omega⟩, rfl, by omega⟩
                        · refine j_aload_n (pc := 237) dX12_nameNow_237 rfl rfl ?_
                          refine j_aload_n (pc := 238) dX12_nameNow_238 rfl rfl ?_
                          refine j_getI (pc := 239) fl_X12_94 dX12_nameNow_239 (a_88 hM) rfl ?_
                          refine j_iconst (pc := 242) dX12_nameNow_242 ?_
                          refine j_iadd (pc := 243) dX12_nameNow_243 ?_
                          refine j_callV (pc := 244) (As := [vI ((σ 88 14) + 4)]) (st := []) (c_X12_look hM ((σ 88 14) + 4) ⟨by omega, by omega⟩ σ hI) mv_X12_103 rfl rfl rfl (a_88 hM) dX12_nameNow_244 ⟨Nat.le_of_ble_eq_true rfl, Nat.le_of_ble_eq_true rfl⟩ ⟨Nat.le_refl _, Nat.le_refl _⟩ rfl (Nat.le_of_ble_eq_true rfl) rfl (fun z308 σ309 hz308 => ?_)
                          obtain ⟨r311, rfl, hr311, rfl, q310_0, q310_1⟩ := hz308
                          replace q310_0 : (((σ 88 14) + 4) < σ 88 12 ∧ r311 = σ 98 ((σ 88 14) + 4).toNat) ∨ (¬ ((σ 88 14) + 4) < σ 88 12 ∧ r311 = -1) := q310_0
                          replace q310_1 : r311 = fM σ ((σ 88 14) + 4) := q310_1
                          refine j_st (st' := [vI r311]) rfl ?_
                          refine j_bipush (pc := 247) dX12_nameNow_247 rfl ?_
                          refine j_icmpR_ne (pc := 249) (tgt := 255) ⟨by omega, by omega⟩ ⟨by omega, by omega⟩ dX12_nameNow_249 rfl (fun h312 => ?_) (fun h312 => ?_)
                          · have z8 : ¬ nm (fM σ) (σ 88 14) (σ 88 13) 8 = 1 := by (have e := nmE_8 (fM σ) (σ 88 14) (σ 88 13)); omega
                            clear q296_0 q310_0 q310_1
                            refine j_aload_n (pc := 255) dX12_nameNow_255 rfl rfl ?_
                            refine j_iconst (pc := 256) dX12_nameNow_256 ?_
                            refine j_bipush (pc := 257) dX12_nameNow_257 rfl ?_
                            refine j_bipush (pc := 259) dX12_nameNow_259 rfl ?_
                            refine j_bipush (pc := 261) dX12_nameNow_261 rfl ?_
                            refine j_iconst (pc := 263) dX12_nameNow_263 ?_
                            refine j_callV (pc := 264) (As := [vI 3, vI 108, vI 111, vI 119, vI 0]) (st := []) (c_X12_is hM 3 (by (first | decide | exact ⟨by omega, by omega⟩)) 108 (by (first | decide | exact ⟨by omega, by omega⟩)) 111 (by (first | decide | exact ⟨by omega, by omega⟩)) 119 (by (first | decide | exact ⟨by omega, by omega⟩)) 0 (by (first | decide | exact ⟨by omega, by omega⟩)) σ hI) mv_X12_107 rfl rfl rfl (a_88 hM) dX12_nameNow_264 ⟨Nat.le_of_ble_eq_true rfl, Nat.le_of_ble_eq_true rfl⟩ ⟨Nat.le_refl _, Nat.le_refl _⟩ rfl (Nat.le_of_ble_eq_true rfl) rfl (fun z313 σ314 hz313 => ?_)
                            obtain ⟨r316, rfl, hr316, rfl, q315_0⟩ := hz313
                            replace q315_0 : (r316 = 1 ∧ σ 88 13 - σ 88 14 = (3 : Int) ∧ fM σ (σ 88 14) = (108 : Int) ∧ fM σ (σ 88 14 + 1) = (111 : Int) ∧ ((3 : Int) < 3 ∨ fM σ (σ 88 14 + 2) = (119 : Int)) ∧ ((3 : Int) < 4 ∨ fM σ (σ 88 14 + 3) = (0 : Int))) ∨ (r316 = 0 ∧ ¬ (σ 88 13 - σ 88 14 = (3 : Int) ∧ fM σ (σ 88 14) = (108 : Int) ∧ fM σ (σ 88 14 + 1) = (111 : Int) ∧ ((3 : Int) < 3 ∨ fM σ (σ 88 14 + 2) = (119 : Int)) ∧ ((3 : Int) < 4 ∨ fM σ (σ 88 14 + 3) = (0 : Int)))) := q315_0
                            refine j_st (st' := [vI r316]) rfl ?_
                            refine j_ifR_eq (pc := 267) (tgt := 275) ⟨by omega, by omega⟩ dX12_nameNow_267 rfl (fun h317 => ?_) (fun h317 => ?_)
                            · have z9 : ¬ nm (fM σ) (σ 88 14) (σ 88 13) 9 = 1 := by (have e := nmE_9 (fM σ) (σ 88 14) (σ 88 13)); omega
                              clear q315_0
                              have zl : lnm (fM σ) 1 (σ 88 14) (σ 88 13) = -1 := by unfold lnm; rw [if_neg (by decide)]; repeat (first | rw [if_pos (by omega)] | rw [if_neg (by omega)])
                              refine j_aload_n (pc := 275) dX12_nameNow_275 rfl rfl ?_
                              refine j_callV (pc := 276) (As := []) (st := []) (c_X12_withNow hM σ hI) mv_X12_111 rfl rfl rfl (a_88 hM) dX12_nameNow_276 ⟨Nat.le_of_ble_eq_true rfl, Nat.le_of_ble_eq_true rfl⟩ ⟨Nat.le_refl _, Nat.le_refl _⟩ rfl (Nat.le_of_ble_eq_true rfl) rfl (fun z318 σ319 hz318 => ?_)
                              obtain ⟨r321, rfl, hr321, rfl, q320_0, q320_1⟩ := hz318
                              replace q320_0 : r321 = -4 ∨ 20 ≤ r321 := q320_0
                              replace q320_1 : (r321 = -4 ∧ wnm (fM σ) 1 (σ 88 14) (σ 88 13) = -1) ∨ (r321 = 20 + wnm (fM σ) 1 (σ 88 14) (σ 88 13) ∧ 0 ≤ wnm (fM σ) 1 (σ 88 14) (σ 88 13) ∧ wnm (fM σ) 1 (σ 88 14) (σ 88 13) ≤ 3) := q320_1
                              refine j_st (st' := [vI r321]) rfl ?_
                              exact j_iret (pc := 279) ⟨rfl, rfl⟩ dX12_nameNow_279 rfl ⟨_, rfl, ⟨by omega, by omega⟩, rfl, by omega⟩
                            · have z9 : nm (fM σ) (σ 88 14) (σ 88 13) 9 = 1 := by (have e := nmE_9 (fM σ) (σ 88 14) (σ 88 13)); omega
                              clear q315_0
                              have zl : lnm (fM σ) 1 (σ 88 14) (σ 88 13) = 8 := by unfold lnm; rw [if_neg (by decide)]; repeat (first | rw [if_pos (by omega)] | rw [if_neg (by omega)])
                              refine j_bipush (pc := 270) dX12_nameNow_270 rfl ?_
                              refine j_goto (pc := 272) (tgt := 279) dX12_nameNow_272 rfl ?_
                              exact j_iret (pc := 279) ⟨rfl, rfl⟩ dX12_nameNow_279 rfl ⟨_, rfl, ⟨by omega, by omega⟩, rfl, by omega⟩
                          · have z8 : nm (fM σ) (σ 88 14) (σ 88 13) 8 = 1 := by (have e := nmE_8 (fM σ) (σ 88 14) (σ 88 13)); omega
                            clear q296_0 q310_0 q310_1
                            have zl : lnm (fM σ) 1 (σ 88 14) (σ 88 13) = 7 := by unfold lnm; rw [if_neg (by decide)]; repeat (first | rw [if_pos (by omega)] | rw [if_neg (by omega)])
                            refine j_bipush (pc := 252) dX12_nameNow_252 rfl ?_
                            exact j_iret (pc := 254) ⟨rfl, rfl⟩ dX12_nameNow_254 rfl ⟨_, rfl, ⟨by omega, by omega⟩, rfl, by omega⟩
                      · have z7 : nm (fM σ) (σ 88 14) (σ 88 13) 7 = 1 := by (have e := nmE_7 (fM σ) (σ 88 14) (σ 88 13)); omega
                        clear q291_0
                        have zl : lnm (fM σ) 1 (σ 88 14) (σ 88 13) = 5 := by unfold lnm; rw [if_neg (by decide)]; repeat (first | rw [if_pos (by omega)] | rw [if_neg (by omega)])
                        refine j_iconst (pc := 219) dX12_nameNow_219 ?_
                        exact j_iret (pc := 220) ⟨rfl, rfl⟩ dX12_nameNow_220 rfl ⟨_, rfl, ⟨by omega, by omega⟩, rfl, by omega⟩
                    · have z6 : nm (fM σ) (σ 88 14) (σ 88 13) 6 = 1 := by (have e := nmE_6 (fM σ) (σ 88 14) (σ 88 13)); omega
                      clear q286_0
                      have zl : lnm (fM σ) 1 (σ 88 14) (σ 88 13) = 4 := by unfold lnm; rw [if_neg (by decide)]; repeat (first | rw [if_pos (by omega)] | rw [if_neg (by omega)])
                      refine j_iconst (pc := 201) dX12_nameNow_201 ?_
                      exact j_iret (pc := 202) ⟨rfl, rfl⟩ dX12_nameNow_202 rfl ⟨_, rfl, ⟨by omega, by omega⟩, rfl, by omega⟩
                  · have z5 : nm (fM σ) (σ 88 14) (σ 88 13) 5 = 1 := by (have e := nmE_5 (fM σ) (σ 88 14) (σ 88 13)); omega
                    clear q281_0
                    have zl : lnm (fM σ) 1 (σ 88 14) (σ 88 13) = 3 := by unfold lnm; rw [if_neg (by decide)]; repeat (first | rw [if_pos (by omega)] | rw [if_neg (by omega)])
                    refine j_iconst (pc := 183) dX12_nameNow_183 ?_
                    exact j_iret (pc := 184) ⟨rfl, rfl⟩ dX12_nameNow_184 rfl ⟨_, rfl, ⟨by omega, by omega⟩, rfl, by omega⟩
                · have z4 : nm (fM σ) (σ 88 14) (σ 88 13) 4 = 1 := by (have e := nmE_4 (fM σ) (σ 88 14) (σ 88 13)); omega
                  clear q228_0 q276_0 q276_1
                  have zl : lnm (fM σ) 1 (σ 88 14) (σ 88 13) = 2 := by unfold lnm; rw [if_neg (by decide)]; repeat (first | rw [if_pos (by omega)] | rw [if_neg (by omega)])
                  refine j_iconst (pc := 165) dX12_nameNow_165 ?_
                  exact j_iret (pc := 166) ⟨rfl, rfl⟩ dX12_nameNow_166 rfl ⟨_, rfl, ⟨by omega, by omega⟩, rfl, by omega⟩
            · refine j_aload_n (pc := 100) dX12_nameNow_100 rfl rfl ?_
              refine j_aload_n (pc := 101) dX12_nameNow_101 rfl rfl ?_
              refine j_getI (pc := 102) fl_X12_94 dX12_nameNow_102 (a_88 hM) rfl ?_
              refine j_bipush (pc := 105) dX12_nameNow_105 rfl ?_
              refine j_iadd (pc := 107) dX12_nameNow_107 ?_
              refine j_callV (pc := 108) (As := [vI ((σ 88 14) + 6)]) (st := []) (c_X12_look hM ((σ 88 14) + 6) ⟨by omega, by omega⟩ σ hI) mv_X12_103 rfl rfl rfl (a_88 hM) dX12_nameNow_108 ⟨Nat.le_of_ble_eq_true rfl, Nat.le_of_ble_eq_true rfl⟩ ⟨Nat.le_refl _, Nat.le_refl _⟩ rfl (Nat.le_of_ble_eq_true rfl) rfl (fun z322 σ323 hz322 => ?_)
              obtain ⟨r325, rfl, hr325, rfl, q324_0, q324_1⟩ := hz322
              replace q324_0 : (((σ 88 14) + 6) < σ 88 12 ∧ r325 = σ 98 ((σ 88 14) + 6).toNat) ∨ (¬ ((σ 88 14) + 6) < σ 88 12 ∧ r325 = -1) := q324_0
              replace q324_1 : r325 = fM σ ((σ 88 14) + 6) := q324_1
              refine j_st (st' := [vI r325]) rfl ?_
              refine j_bipush (pc := 111) dX12_nameNow_111 rfl ?_
              refine j_icmpR_ne (pc := 113) (tgt := 134) ⟨by omega, by omega⟩ ⟨by omega, by omega⟩ dX12_nameNow_113 rfl (fun h326 => ?_) (fun h326 => ?_)
              · have z3 : ¬ nm (fM σ) (σ 88 14) (σ 88 13) 3 = 1 := by (have e := nmE_3 (fM σ) (σ 88 14) (σ 88 13)); omega
                clear q18_0 q122_0 q122_1 q223_0 q223_1 q324_0 q324_1
                refine j_aload_n (pc := 134) dX12_nameNow_134 rfl rfl ?_
                refine j_iconst (pc := 135) dX12_nameNow_135 ?_
                refine j_bipush (pc := 136) dX12_nameNow_136 rfl ?_
                refine j_bipush (pc := 138) dX12_nameNow_138 rfl ?_
                refine j_bipush (pc := 140) dX12_nameNow_140 rfl ?_
                refine j_bipush (pc := 142) dX12_nameNow_142 rfl ?_
                refine j_callV (pc := 144) (As := [vI 5, vI 112, vI 108, vI 97, vI 99]) (st := []) (c_X12_is hM 5 (by (first | decide | exact ⟨by omega, by omega⟩)) 112 (by (first | decide | exact ⟨by omega, by omega⟩)) 108 (by (first | decide | exact ⟨by omega, by omega⟩)) 97 (by (first | decide | exact ⟨by omega, by omega⟩)) 99 (by (first | decide | exact ⟨by omega, by omega⟩)) σ hI) mv_X12_107 rfl rfl rfl (a_88 hM) dX12_nameNow_144 ⟨Nat.le_of_ble_eq_true rfl, Nat.le_of_ble_eq_true rfl⟩ ⟨Nat.le_refl _, Nat.le_refl _⟩ rfl (Nat.le_of_ble_eq_true rfl) rfl (fun z327 σ328 hz327 => ?_)
                obtain ⟨r330, rfl, hr330, rfl, q329_0⟩ := hz327
                replace q329_0 : (r330 = 1 ∧ σ 88 13 - σ 88 14 = (5 : Int) ∧ fM σ (σ 88 14) = (112 : Int) ∧ fM σ (σ 88 14 + 1) = (108 : Int) ∧ ((5 : Int) < 3 ∨ fM σ (σ 88 14 + 2) = (97 : Int)) ∧ ((5 : Int) < 4 ∨ fM σ (σ 88 14 + 3) = (99 : Int))) ∨ (r330 = 0 ∧ ¬ (σ 88 13 - σ 88 14 = (5 : Int) ∧ fM σ (σ 88 14) = (112 : Int) ∧ fM σ (σ 88 14 + 1) = (108 : Int) ∧ ((5 : Int) < 3 ∨ fM σ (σ 88 14 + 2) = (97 : Int)) ∧ ((5 : Int) < 4 ∨ fM σ (σ 88 14 + 3) = (99 : Int)))) := q329_0
                refine j_st (st' := [vI r330]) rfl ?_
                refine j_ifR_eq (pc := 147) (tgt := 167) ⟨by omega, by omega⟩ dX12_nameNow_147 rfl (fun h331 => ?_) (fun h331 => ?_)
                · have z4 : ¬ nm (fM σ) (σ 88 14) (σ 88 13) 4 = 1 := by (have e := nmE_4 (fM σ) (σ 88 14) (σ 88 13)); omega
                  clear q329_0
                  refine j_aload_n (pc := 167) dX12_nameNow_167 rfl rfl ?_
                  refine j_iconst (pc := 168) dX12_nameNow_168 ?_
                  refine j_bipush (pc := 169) dX12_nameNow_169 rfl ?_
                  refine j_bipush (pc := 171) dX12_nameNow_171 rfl ?_
                  refine j_bipush (pc := 173) dX12_nameNow_173 rfl ?_
                  refine j_bipush (pc := 175) dX12_nameNow_175 rfl ?_
                  refine j_callV (pc := 177) (As := [vI 4, vI 114, vI 111, vI 112, vI 101]) (st := []) (c_X12_is hM 4 (by (first | decide | exact ⟨by omega, by omega⟩)) 114 (by (first | decide | exact ⟨by omega, by omega⟩)) 111 (by (first | decide | exact ⟨by omega, by omega⟩)) 112 (by (first | decide | exact ⟨by omega, by omega⟩)) 101 (by (first | decide | exact ⟨by omega, by omega⟩)) σ hI) mv_X12_107 rfl rfl rfl (a_88 hM) dX12_nameNow_177 ⟨Nat.le_of_ble_eq_true rfl, Nat.le_of_ble_eq_true rfl⟩ ⟨Nat.le_refl _, Nat.le_refl _⟩ rfl (Nat.le_of_ble_eq_true rfl) rfl (fun z332 σ333 hz332 => ?_)
                  obtain ⟨r335, rfl, hr335, rfl, q334_0⟩ := hz332
                  replace q334_0 : (r335 = 1 ∧ σ 88 13 - σ 88 14 = (4 : Int) ∧ fM σ (σ 88 14) = (114 : Int) ∧ fM σ (σ 88 14 + 1) = (111 : Int) ∧ ((4 : Int) < 3 ∨ fM σ (σ 88 14 + 2) = (112 : Int)) ∧ ((4 : Int) < 4 ∨ fM σ (σ 88 14 + 3) = (101 : Int))) ∨ (r335 = 0 ∧ ¬ (σ 88 13 - σ 88 14 = (4 : Int) ∧ fM σ (σ 88 14) = (114 : Int) ∧ fM σ (σ 88 14 + 1) = (111 : Int) ∧ ((4 : Int) < 3 ∨ fM σ (σ 88 14 + 2) = (112 : Int)) ∧ ((4 : Int) < 4 ∨ fM σ (σ 88 14 + 3) = (101 : Int)))) := q334_0
                  refine j_st (st' := [vI r335]) rfl ?_
                  refine j_ifR_eq (pc := 180) (tgt := 185) ⟨by omega, by omega⟩ dX12_nameNow_180 rfl (fun h336 => ?_) (fun h336 => ?_)
                  · have z5 : ¬ nm (fM σ) (σ 88 14) (σ 88 13) 5 = 1 := by (have e := nmE_5 (fM σ) (σ 88 14) (σ 88 13)); omega
                    clear q334_0
                    refine j_aload_n (pc := 185) dX12_nameNow_185 rfl rfl ?_
                    refine j_iconst (pc := 186) dX12_nameNow_186 ?_
                    refine j_bipush (pc := 187) dX12_nameNow_187 rfl ?_
                    refine j_bipush (pc := 189) dX12_nameNow_189 rfl ?_
                    refine j_bipush (pc := 191) dX12_nameNow_191 rfl ?_
                    refine j_bipush (pc := 193) dX12_nameNow_193 rfl ?_
                    refine j_callV (pc := 195) (As := [vI 4, vI 103, vI 105, vI 118, vI 101]) (st := []) (c_X12_is hM 4 (by (first | decide | exact ⟨by omega, by omega⟩)) 103 (by (first | decide | exact ⟨by omega, by omega⟩)) 105 (by (first | decide | exact ⟨by omega, by omega⟩)) 118 (by (first | decide | exact ⟨by omega, by omega⟩)) 101 (by (first | decide | exact ⟨by omega, by omega⟩)) σ hI) mv_X12_107 rfl rfl rfl (a_88 hM) dX12_nameNow_195 ⟨Nat.le_of_ble_eq_true rfl, Nat.le_of_ble_eq_true rfl⟩ ⟨Nat.le_refl _, Nat.le_refl _⟩ rfl (Nat.le_of_ble_eq_true rfl) rfl (fun z337 σ338 hz337 => ?_)
                    obtain ⟨r340, rfl, hr340, rfl, q339_0⟩ := hz337
                    replace q339_0 : (r340 = 1 ∧ σ 88 13 - σ 88 14 = (4 : Int) ∧ fM σ (σ 88 14) = (103 : Int) ∧ fM σ (σ 88 14 + 1) = (105 : Int) ∧ ((4 : Int) < 3 ∨ fM σ (σ 88 14 + 2) = (118 : Int)) ∧ ((4 : Int) < 4 ∨ fM σ (σ 88 14 + 3) = (101 : Int))) ∨ (r340 = 0 ∧ ¬ (σ 88 13 - σ 88 14 = (4 : Int) ∧ fM σ (σ 88 14) = (103 : Int) ∧ fM σ (σ 88 14 + 1) = (105 : Int) ∧ ((4 : Int) < 3 ∨ fM σ (σ 88 14 + 2) = (118 : Int)) ∧ ((4 : Int) < 4 ∨ fM σ (σ 88 14 + 3) = (101 : Int)))) := q339_0
                    refine j_st (st' := [vI r340]) rfl ?_
                    refine j_ifR_eq (pc := 198) (tgt := 203) ⟨by omega, by omega⟩ dX12_nameNow_198 rfl (fun h341 => ?_) (fun h341 => ?_)
                    · have z6 : ¬ nm (fM σ) (σ 88 14) (σ 88 13) 6 = 1 := by (have e := nmE_6 (fM σ) (σ 88 14) (σ 88 13)); omega
                      clear q339_0
                      refine j_aload_n (pc := 203) dX12_nameNow_203 rfl rfl ?_
                      refine j_iconst (pc := 204) dX12_nameNow_204 ?_
                      refine j_bipush (pc := 205) dX12_nameNow_205 rfl ?_
                      refine j_bipush (pc := 207) dX12_nameNow_207 rfl ?_
                      refine j_bipush (pc := 209) dX12_nameNow_209 rfl ?_
                      refine j_bipush (pc := 211) dX12_nameNow_211 rfl ?_
                      refine j_callV (pc := 213) (As := [vI 4, vI 102, vI 105, vI 116, vI 115]) (st := []) (c_X12_is hM 4 (by (first | decide | exact ⟨by omega, by omega⟩)) 102 (by (first | decide | exact ⟨by omega, by omega⟩)) 105 (by (first | decide | exact ⟨by omega, by omega⟩)) 116 (by (first | decide | exact ⟨by omega, by omega⟩)) 115 (by (first | decide | exact ⟨by omega, by omega⟩)) σ hI) mv_X12_107 rfl rfl rfl (a_88 hM) dX12_nameNow_213 ⟨Nat.le_of_ble_eq_true rfl, Nat.le_of_ble_eq_true rfl⟩ ⟨Nat.le_refl _, Nat.le_refl _⟩ rfl (Nat.le_of_ble_eq_true rfl) rfl (fun z342 σ343 hz342 => ?_)
                      obtain ⟨r345, rfl, hr345, rfl, q344_0⟩ := hz342
                      replace q344_0 : (r345 = 1 ∧ σ 88 13 - σ 88 14 = (4 : Int) ∧ fM σ (σ 88 14) = (102 : Int) ∧ fM σ (σ 88 14 + 1) = (105 : Int) ∧ ((4 : Int) < 3 ∨ fM σ (σ 88 14 + 2) = (116 : Int)) ∧ ((4 : Int) < 4 ∨ fM σ (σ 88 14 + 3) = (115 : Int))) ∨ (r345 = 0 ∧ ¬ (σ 88 13 - σ 88 14 = (4 : Int) ∧ fM σ (σ 88 14) = (102 : Int) ∧ fM σ (σ 88 14 + 1) = (105 : Int) ∧ ((4 : Int) < 3 ∨ fM σ (σ 88 14 + 2) = (116 : Int)) ∧ ((4 : Int) < 4 ∨ fM σ (σ 88 14 + 3) = (115 : Int)))) := q344_0
                      refine j_st (st' := [vI r345]) rfl ?_
                      refine j_ifR_eq (pc := 216) (tgt := 221) ⟨by omega, by omega⟩ dX12_nameNow_216 rfl (fun h346 => ?_) (fun h346 => ?_)
                      · have z7 : ¬ nm (fM σ) (σ 88 14) (σ 88 13) 7 = 1 := by (have e := nmE_7 (fM σ) (σ 88 14) (σ 88 13)); omega
                        clear q344_0
                        refine j_aload_n (pc := 221) dX12_nameNow_221 rfl rfl ?_
                        refine j_iconst (pc := 222) dX12_nameNow_222 ?_
                        refine j_bipush (pc := 223) dX12_nameNow_223 rfl ?_
                        refine j_bipush (pc := 225) dX12_nameNow_225 rfl ?_
                        refine j_bipush (pc := 227) dX12_nameNow_227 rfl ?_
                        refine j_bipush (pc := 229) dX12_nameNow_229 rfl ?_
                        refine j_callV (pc := 231) (As := [vI 5, vI 104, vI 111, vI 108, vI 100]) (st := []) (c_X12_is hM 5 (by (first | decide | exact ⟨by omega, by omega⟩)) 104 (by (first | decide | exact ⟨by omega, by omega⟩)) 111 (by (first | decide | exact ⟨by omega, by omega⟩)) 108 (by (first | decide | exact ⟨by omega, by omega⟩)) 100 (by (first | decide | exact ⟨by omega, by omega⟩)) σ hI) mv_X12_107 rfl rfl rfl (a_88 hM) dX12_nameNow_231 ⟨Nat.le_of_ble_eq_true rfl, Nat.le_of_ble_eq_true rfl⟩ ⟨Nat.le_refl _, Nat.le_refl _⟩ rfl (Nat.le_of_ble_eq_true rfl) rfl (fun z347 σ348 hz347 => ?_)
                        obtain ⟨r350, rfl, hr350, rfl, q349_0⟩ := hz347
                        replace q349_0 : (r350 = 1 ∧ σ 88 13 - σ 88 14 = (5 : Int) ∧ fM σ (σ 88 14) = (104 : Int) ∧ fM σ (σ 88 14 + 1) = (111 : Int) ∧ ((5 : Int) < 3 ∨ fM σ (σ 88 14 + 2) = (108 : Int)) ∧ ((5 : Int) < 4 ∨ fM σ (σ 88 14 + 3) = (100 : Int))) ∨ (r350 = 0 ∧ ¬ (σ 88 13 - σ 88 14 = (5 : Int) ∧ fM σ (σ 88 14) = (104 : Int) ∧ fM σ (σ 88 14 + 1) = (111 : Int) ∧ ((5 : Int) < 3 ∨ fM σ (σ 88 14 + 2) = (108 : Int)) ∧ ((5 : Int) < 4 ∨ fM σ (σ 88 14 + 3) = (100 : Int)))) := q349_0
                        refine j_st (st' := [vI r350]) rfl ?_
                        refine j_ifR_eq (pc := 234) (tgt := 255) ⟨by omega, by omega⟩ dX12_nameNow_234 rfl (fun h351 => ?_) (fun h351 => ?_)
                        · have z8 : ¬ nm (fM σ) (σ 88 14) (σ 88 13) 8 = 1 := by (have e := nmE_8 (fM σ) (σ 88 14) (σ 88 13)); omega
                          clear q349_0
                          refine j_aload_n (pc := 255) dX12_nameNow_255 rfl rfl ?_
                          refine j_iconst (pc := 256) dX12_nameNow_256 ?_
                          refine j_bipush (pc := 257) dX12_nameNow_257 rfl ?_
                          refine j_bipush (pc := 259) dX12_nameNow_259 rfl ?_
                          refine j_bipush (pc := 261) dX12_nameNow_261 rfl ?_
                          refine j_iconst (pc := 263) dX12_nameNow_263 ?_
                          refine j_callV (pc := 264) (As := [vI 3, vI 108, vI 111, vI 119, vI 0]) (st := []) (c_X12_is hM 3 (by (first | decide | exact ⟨by omega, by omega⟩)) 108 (by (first | decide | exact ⟨by omega, by omega⟩)) 111 (by (first | decide | exact ⟨by omega, by omega⟩)) 119 (by (first | decide | exact ⟨by omega, by omega⟩)) 0 (by (first | decide | exact ⟨by omega, by omega⟩)) σ hI) mv_X12_107 rfl rfl rfl (a_88 hM) dX12_nameNow_264 ⟨Nat.le_of_ble_eq_true rfl, Nat.le_of_ble_eq_true rfl⟩ ⟨Nat.le_refl _, Nat.le_refl _⟩ rfl (Nat.le_of_ble_eq_true rfl) rfl (fun z352 σ353 hz352 => ?_)
                          obtain ⟨r355, rfl, hr355, rfl, q354_0⟩ := hz352
                          replace q354_0 : (r355 = 1 ∧ σ 88 13 - σ 88 14 = (3 : Int) ∧ fM σ (σ 88 14) = (108 : Int) ∧ fM σ (σ 88 14 + 1) = (111 : Int) ∧ ((3 : Int) < 3 ∨ fM σ (σ 88 14 + 2) = (119 : Int)) ∧ ((3 : Int) < 4 ∨ fM σ (σ 88 14 + 3) = (0 : Int))) ∨ (r355 = 0 ∧ ¬ (σ 88 13 - σ 88 14 = (3 : Int) ∧ fM σ (σ 88 14) = (108 : Int) ∧ fM σ (σ 88 14 + 1) = (111 : Int) ∧ ((3 : Int) < 3 ∨ fM σ (σ 88 14 + 2) = (119 : Int)) ∧ ((3 : Int) < 4 ∨ fM σ (σ 88 14 + 3) = (0 : Int)))) := q354_0
                          refine j_st (st' := [vI r355]) rfl ?_
                          refine j_ifR_eq (pc := 267) (tgt := 275) ⟨by omega, by omega⟩ dX12_nameNow_267 rfl (fun h356 => ?_) (fun h356 => ?_)
                          · have z9 : ¬ nm (fM σ) (σ 88 14) (σ 88 13) 9 = 1 := by (have e := nmE_9 (fM σ) (σ 88 14) (σ 88 13)); omega
                            clear q354_0
                            have zl : lnm (fM σ) 1 (σ 88 14) (σ 88 13) = -1 := by unfold lnm; rw [if_neg (by decide)]; repeat (first | rw [if_pos (by omega)] | rw [if_neg (by omega)])
                            refine j_aload_n (pc := 275) dX12_nameNow_275 rfl rfl ?_
                            refine j_callV (pc := 276) (As := []) (st := []) (c_X12_withNow hM σ hI) mv_X12_111 rfl rfl rfl (a_88 hM) dX12_nameNow_276 ⟨Nat.le_of_ble_eq_true rfl, Nat.le_of_ble_eq_true rfl⟩ ⟨Nat.le_refl _, Nat.le_refl _⟩ rfl (Nat.le_of_ble_eq_true rfl) rfl (fun z357 σ358 hz357 => ?_)
                            obtain ⟨r360, rfl, hr360, rfl, q359_0, q359_1⟩ := hz357
                            replace q359_0 : r360 = -4 ∨ 20 ≤ r360 := q359_0
                            replace q359_1 : (r360 = -4 ∧ wnm (fM σ) 1 (σ 88 14) (σ 88 13) = -1) ∨ (r360 = 20 + wnm (fM σ) 1 (σ 88 14) (σ 88 13) ∧ 0 ≤ wnm (fM σ) 1 (σ 88 14) (σ 88 13) ∧ wnm (fM σ) 1 (σ 88 14) (σ 88 13) ≤ 3) := q359_1
                            refine j_st (st' := [vI r360]) rfl ?_
                            exact j_iret (pc := 279) ⟨rfl, rfl⟩ dX12_nameNow_279 rfl ⟨_, rfl, ⟨by omega, by omega⟩, rfl, by omega⟩
                          · have z9 : nm (fM σ) (σ 88 14) (σ 88 13) 9 = 1 := by (have e := nmE_9 (fM σ) (σ 88 14) (σ 88 13)); omega
                            clear q354_0
                            have zl : lnm (fM σ) 1 (σ 88 14) (σ 88 13) = 8 := by unfold lnm; rw [if_neg (by decide)]; repeat (first | rw [if_pos (by omega)] | rw [if_neg (by omega)])
                            refine j_bipush (pc := 270) dX12_nameNow_270 rfl ?_
                            refine j_goto (pc := 272) (tgt := 279) dX12_nameNow_272 rfl ?_
                            exact j_iret (pc := 279) ⟨rfl, rfl⟩ dX12_nameNow_279 rfl ⟨_, rfl, ⟨by omega, by omega⟩, rfl, by omega⟩
                        · refine j_aload_n (pc := 237) dX12_nameNow_237 rfl rfl ?_
                          refine j_aload_n (pc := 238) dX12_nameNow_238 rfl rfl ?_
                          refine j_getI (pc := 239) fl_X12_94 dX12_nameNow_239 (a_88 hM) rfl ?_
                          refine j_iconst (pc := 242) dX12_nameNow_242 ?_
                          refine j_iadd (pc := 243) dX12_nameNow_243 ?_
                          refine j_callV (pc := 244) (As := [vI ((σ 88 14) + 4)]) (st := []) (c_X12_look hM ((σ 88 14) + 4) ⟨by omega, by omega⟩ σ hI) mv_X12_103 rfl rfl rfl (a_88 hM) dX12_nameNow_244 ⟨Nat.le_of_ble_eq_true rfl, Nat.le_of_ble_eq_true rfl⟩ ⟨Nat.le_refl _, Nat.le_refl _⟩ rfl (Nat.le_of_ble_eq_true rfl) rfl (fun z361 σ362 hz361 => ?_)
                          obtain ⟨r364, rfl, hr364, rfl, q363_0, q363_1⟩ := hz361
                          replace q363_0 : (((σ 88 14) + 4) < σ 88 12 ∧ r364 = σ 98 ((σ 88 14) + 4).toNat) ∨ (¬ ((σ 88 14) + 4) < σ 88 12 ∧ r364 = -1) := q363_0
                          replace q363_1 : r364 = fM σ ((σ 88 14) + 4) := q363_1
                          refine j_st (st' := [vI r364]) rfl ?_
                          refine j_bipush (pc := 247) dX12_nameNow_247 rfl ?_
                          refine j_icmpR_ne (pc := 249) (tgt := 255) ⟨by omega, by omega⟩ ⟨by omega, by omega⟩ dX12_nameNow_249 rfl (fun h365 => ?_) (fun h365 => ?_)
                          · have z8 : ¬ nm (fM σ) (σ 88 14) (σ 88 13) 8 = 1 := by (have e := nmE_8 (fM σ) (σ 88 14) (σ 88 13)); omega
                            clear q349_0 q363_0 q363_1
                            refine j_aload_n (pc := 255) dX12_nameNow_255 rfl rfl ?_
                            refine j_iconst (pc := 256) dX12_nameNow_256 ?_
                            refine j_bipush (pc := 257) dX12_nameNow_257 rfl ?_
                            refine j_bipush (pc := 259) dX12_nameNow_259 rfl ?_
                            refine j_bipush (pc := 261) dX12_nameNow_261 rfl ?_
                            refine j_iconst (pc := 263) dX12_nameNow_263 ?_
                            refine j_callV (pc := 264) (As := [vI 3, vI 108, vI 111, vI 119, vI 0]) (st := []) (c_X12_is hM 3 (by (first | decide | exact ⟨by omega, by omega⟩)) 108 (by (first | decide | exact ⟨by omega, by omega⟩)) 111 (by (first | decide | exact ⟨by omega, by omega⟩)) 119 (by (first | decide | exact ⟨by omega, by omega⟩)) 0 (by (first | decide | exact ⟨by omega, by omega⟩)) σ hI) mv_X12_107 rfl rfl rfl (a_88 hM) dX12_nameNow_264 ⟨Nat.le_of_ble_eq_true rfl, Nat.le_of_ble_eq_true rfl⟩ ⟨Nat.le_refl _, Nat.le_refl _⟩ rfl (Nat.le_of_ble_eq_true rfl) rfl (fun z366 σ367 hz366 => ?_)
                            obtain ⟨r369, rfl, hr369, rfl, q368_0⟩ := hz366
                            replace q368_0 : (r369 = 1 ∧ σ 88 13 - σ 88 14 = (3 : Int) ∧ fM σ (σ 88 14) = (108 : Int) ∧ fM σ (σ 88 14 + 1) = (111 : Int) ∧ ((3 : Int) < 3 ∨ fM σ (σ 88 14 + 2) = (119 : Int)) ∧ ((3 : Int) < 4 ∨ fM σ (σ 88 14 + 3) = (0 : Int))) ∨ (r369 = 0 ∧ ¬ (σ 88 13 - σ 88 14 = (3 : Int) ∧ fM σ (σ 88 14) = (108 : Int) ∧ fM σ (σ 88 14 + 1) = (111 : Int) ∧ ((3 : Int) < 3 ∨ fM σ (σ 88 14 + 2) = (119 : Int)) ∧ ((3 : Int) < 4 ∨ fM σ (σ 88 14 + 3) = (0 : Int)))) := q368_0
                            refine j_st (st' := [vI r369]) rfl ?_
                            refine j_ifR_eq (pc := 267) (tgt := 275) ⟨by omega, by omega⟩ dX12_nameNow_267 rfl (fun h370 => ?_) (fun h370 => ?_)
                            · have z9 : ¬ nm (fM σ) (σ 88 14) (σ 88 13) 9 = 1 := by (have e := nmE_9 (fM σ) (σ 88 14) (σ 88 13)); omega
                              clear q368_0
                              have zl : lnm (fM σ) 1 (σ 88 14) (σ 88 13) = -1 := by unfold lnm; rw [if_neg (by decide)]; repeat (first | rw [if_pos (by omega)] | rw [if_neg (by omega)])
                              refine j_aload_n (pc := 275) dX12_nameNow_275 rfl rfl ?_
                              refine j_callV (pc := 276) (As := []) (st := []) (c_X12_withNow hM σ hI) mv_X12_111 rfl rfl rfl (a_88 hM) dX12_nameNow_276 ⟨Nat.le_of_ble_eq_true rfl, Nat.le_of_ble_eq_true rfl⟩ ⟨Nat.le_refl _, Nat.le_refl _⟩ rfl (Nat.le_of_ble_eq_true rfl) rfl (fun z371 σ372 hz371 => ?_)
                              obtain ⟨r374, rfl, hr374, rfl, q373_0, q373_1⟩ := hz371
                              replace q373_0 : r374 = -4 ∨ 20 ≤ r374 := q373_0
                              replace q373_1 : (r374 = -4 ∧ wnm (fM σ) 1 (σ 88 14) (σ 88 13) = -1) ∨ (r374 = 20 + wnm (fM σ) 1 (σ 88 14) (σ 88 13) ∧ 0 ≤ wnm (fM σ) 1 (σ 88 14) (σ 88 13) ∧ wnm (fM σ) 1 (σ 88 14) (σ 88 13) ≤ 3) := q373_1
                              refine j_st (st' := [vI r374]) rfl ?_
                              exact j_iret (pc := 279) ⟨rfl, rfl⟩ dX12_nameNow_279 rfl ⟨_, rfl, ⟨by omega, by omega⟩, rfl, by omega⟩
                            · have z9 : nm (fM σ) (σ 88 14) (σ 88 13) 9 = 1 := by (have e := nmE_9 (fM σ) (σ 88 14) (σ 88 13)); omega
                              clear q368_0
                              have zl : lnm (fM σ) 1 (σ 88 14) (σ 88 13) = 8 := by unfold lnm; rw [if_neg (by decide)]; repeat (first | rw [if_pos (by omega)] | rw [if_neg (by omega)])
                              refine j_bipush (pc := 270) dX12_nameNow_270 rfl ?_
                              refine j_goto (pc := 272) (tgt := 279) dX12_nameNow_272 rfl ?_
                              exact j_iret (pc := 279) ⟨rfl, rfl⟩ dX12_nameNow_279 rfl ⟨_, rfl, ⟨by omega, by omega⟩, rfl, by omega⟩
                          · have z8 : nm (fM σ) (σ 88 14) (σ 88 13) 8 = 1 := by (have e := nmE_8 (fM σ) (σ 88 14) (σ 88 13)); omega
                            clear q349_0 q363_0 q363_1
                            have zl : lnm (fM σ) 1 (σ 88 14) (σ 88 13) = 7 := by unfold lnm; rw [if_neg (by decide)]; repeat (first | rw [if_pos (by omega)] | rw [if_neg (by omega)])
                            refine j_bipush (pc := 252) dX12_nameNow_252 rfl ?_
                            exact j_iret (pc := 254) ⟨rfl, rfl⟩ dX12_nameNow_254 rfl ⟨_, rfl, ⟨by omega, by omega⟩, rfl, by omega⟩
                      · have z7 : nm (fM σ) (σ 88 14) (σ 88 13) 7 = 1 := by (have e := nmE_7 (fM σ) (σ 88 14) (σ 88 13)); omega
                        clear q344_0
                        have zl : lnm (fM σ) 1 (σ 88 14) (σ 88 13) = 5 := by unfold lnm; rw [if_neg (by decide)]; repeat (first | rw [if_pos (by omega)] | rw [if_neg (by omega)])
                        refine j_iconst (pc := 219) dX12_nameNow_219 ?_
                        exact j_iret (pc := 220) ⟨rfl, rfl⟩ dX12_nameNow_220 rfl ⟨_, rfl, ⟨by omega, by omega⟩, rfl, by omega⟩
                    · have z6 : nm (fM σ) (σ 88 14) (σ 88 13) 6 = 1 := by (have e := nmE_6 (fM σ) (σ 88 14) (σ 88 13)); omega
                      clear q339_0
                      have zl : lnm (fM σ) 1 (σ 88 14) (σ 88 13) = 4 := by unfold lnm; rw [if_neg (by decide)]; repeat (first | rw [if_pos (by omega)] | rw [if_neg (by omega)])
                      refine j_iconst (pc := 201) dX12_nameNow_201 ?_
                      exact j_iret (pc := 202) ⟨rfl, rfl⟩ dX12_nameNow_202 rfl ⟨_, rfl, ⟨by omega, by omega⟩, rfl, by omega⟩
                  · have z5 : nm (fM σ) (σ 88 14) (σ 88 13) 5 = 1 := by (have e := nmE_5 (fM σ) (σ 88 14) (σ 88 13)); omega
                    clear q334_0
                    have zl : lnm (fM σ) 1 (σ 88 14) (σ 88 13) = 3 := by unfold lnm; rw [if_neg (by decide)]; repeat (first | rw [if_pos (by omega)] | rw [if_neg (by omega)])
                    refine j_iconst (pc := 183) dX12_nameNow_183 ?_
                    exact j_iret (pc := 184) ⟨rfl, rfl⟩ dX12_nameNow_184 rfl ⟨_, rfl, ⟨by omega, by omega⟩, rfl, by omega⟩
                · refine j_aload_n (pc := 150) dX12_nameNow_150 rfl rfl ?_
                  refine j_aload_n (pc := 151) dX12_nameNow_151 rfl rfl ?_
                  refine j_getI (pc := 152) fl_X12_94 dX12_nameNow_152 (a_88 hM) rfl ?_
                  refine j_iconst (pc := 155) dX12_nameNow_155 ?_
                  refine j_iadd (pc := 156) dX12_nameNow_156 ?_
                  refine j_callV (pc := 157) (As := [vI ((σ 88 14) + 4)]) (st := []) (c_X12_look hM ((σ 88 14) + 4) ⟨by omega, by omega⟩ σ hI) mv_X12_103 rfl rfl rfl (a_88 hM) dX12_nameNow_157 ⟨Nat.le_of_ble_eq_true rfl, Nat.le_of_ble_eq_true rfl⟩ ⟨Nat.le_refl _, Nat.le_refl _⟩ rfl (Nat.le_of_ble_eq_true rfl) rfl (fun z375 σ376 hz375 => ?_)
                  obtain ⟨r378, rfl, hr378, rfl, q377_0, q377_1⟩ := hz375
                  replace q377_0 : (((σ 88 14) + 4) < σ 88 12 ∧ r378 = σ 98 ((σ 88 14) + 4).toNat) ∨ (¬ ((σ 88 14) + 4) < σ 88 12 ∧ r378 = -1) := q377_0
                  replace q377_1 : r378 = fM σ ((σ 88 14) + 4) := q377_1
                  refine j_st (st' := [vI r378]) rfl ?_
                  refine j_bipush (pc := 160) dX12_nameNow_160 rfl ?_
                  refine j_icmpR_ne (pc := 162) (tgt := 167) ⟨by omega, by omega⟩ ⟨by omega, by omega⟩ dX12_nameNow_162 rfl (fun h379 => ?_) (fun h379 => ?_)
                  · have z4 : ¬ nm (fM σ) (σ 88 14) (σ 88 13) 4 = 1 := by (have e := nmE_4 (fM σ) (σ 88 14) (σ 88 13)); omega
                    clear q329_0 q377_0 q377_1
                    refine j_aload_n (pc := 167) dX12_nameNow_167 rfl rfl ?_
                    refine j_iconst (pc := 168) dX12_nameNow_168 ?_
                    refine j_bipush (pc := 169) dX12_nameNow_169 rfl ?_
                    refine j_bipush (pc := 171) dX12_nameNow_171 rfl ?_
                    refine j_bipush (pc := 173) dX12_nameNow_173 rfl ?_
                    refine j_bipush (pc := 175) dX12_nameNow_175 rfl ?_
                    refine j_callV (pc := 177) (As := [vI 4, vI 114, vI 111, vI 112, vI 101]) (st := []) (c_X12_is hM 4 (by (first | decide | exact ⟨by omega, by omega⟩)) 114 (by (first | decide | exact ⟨by omega, by omega⟩)) 111 (by (first | decide | exact ⟨by omega, by omega⟩)) 112 (by (first | decide | exact ⟨by omega, by omega⟩)) 101 (by (first | decide | exact ⟨by omega, by omega⟩)) σ hI) mv_X12_107 rfl rfl rfl (a_88 hM) dX12_nameNow_177 ⟨Nat.le_of_ble_eq_true rfl, Nat.le_of_ble_eq_true rfl⟩ ⟨Nat.le_refl _, Nat.le_refl _⟩ rfl (Nat.le_of_ble_eq_true rfl) rfl (fun z380 σ381 hz380 => ?_)
                    obtain ⟨r383, rfl, hr383, rfl, q382_0⟩ := hz380
                    replace q382_0 : (r383 = 1 ∧ σ 88 13 - σ 88 14 = (4 : Int) ∧ fM σ (σ 88 14) = (114 : Int) ∧ fM σ (σ 88 14 + 1) = (111 : Int) ∧ ((4 : Int) < 3 ∨ fM σ (σ 88 14 + 2) = (112 : Int)) ∧ ((4 : Int) < 4 ∨ fM σ (σ 88 14 + 3) = (101 : Int))) ∨ (r383 = 0 ∧ ¬ (σ 88 13 - σ 88 14 = (4 : Int) ∧ fM σ (σ 88 14) = (114 : Int) ∧ fM σ (σ 88 14 + 1) = (111 : Int) ∧ ((4 : Int) < 3 ∨ fM σ (σ 88 14 + 2) = (112 : Int)) ∧ ((4 : Int) < 4 ∨ fM σ (σ 88 14 + 3) = (101 : Int)))) := q382_0
                    refine j_st (st' := [vI r383]) rfl ?_
                    refine j_ifR_eq (pc := 180) (tgt := 185) ⟨by omega, by omega⟩ dX12_nameNow_180 rfl (fun h384 => ?_) (fun h384 => ?_)
                    · have z5 : ¬ nm (fM σ) (σ 88 14) (σ 88 13) 5 = 1 := by (have e := nmE_5 (fM σ) (σ 88 14) (σ 88 13)); omega
                      clear q382_0
                      refine j_aload_n (pc := 185) dX12_nameNow_185 rfl rfl ?_
                      refine j_iconst (pc := 186) dX12_nameNow_186 ?_
                      refine j_bipush (pc := 187) dX12_nameNow_187 rfl ?_
                      refine j_bipush (pc := 189) dX12_nameNow_189 rfl ?_
                      refine j_bipush (pc := 191) dX12_nameNow_191 rfl ?_
                      refine j_bipush (pc := 193) dX12_nameNow_193 rfl ?_
                      refine j_callV (pc := 195) (As := [vI 4, vI 103, vI 105, vI 118, vI 101]) (st := []) (c_X12_is hM 4 (by (first | decide | exact ⟨by omega, by omega⟩)) 103 (by (first | decide | exact ⟨by omega, by omega⟩)) 105 (by (first | decide | exact ⟨by omega, by omega⟩)) 118 (by (first | decide | exact ⟨by omega, by omega⟩)) 101 (by (first | decide | exact ⟨by omega, by omega⟩)) σ hI) mv_X12_107 rfl rfl rfl (a_88 hM) dX12_nameNow_195 ⟨Nat.le_of_ble_eq_true rfl, Nat.le_of_ble_eq_true rfl⟩ ⟨Nat.le_refl _, Nat.le_refl _⟩ rfl (Nat.le_of_ble_eq_true rfl) rfl (fun z385 σ386 hz385 => ?_)
                      obtain ⟨r388, rfl, hr388, rfl, q387_0⟩ := hz385
                      replace q387_0 : (r388 = 1 ∧ σ 88 13 - σ 88 14 = (4 : Int) ∧ fM σ (σ 88 14) = (103 : Int) ∧ fM σ (σ 88 14 + 1) = (105 : Int) ∧ ((4 : Int) < 3 ∨ fM σ (σ 88 14 + 2) = (118 : Int)) ∧ ((4 : Int) < 4 ∨ fM σ (σ 88 14 + 3) = (101 : Int))) ∨ (r388 = 0 ∧ ¬ (σ 88 13 - σ 88 14 = (4 : Int) ∧ fM σ (σ 88 14) = (103 : Int) ∧ fM σ (σ 88 14 + 1) = (105 : Int) ∧ ((4 : Int) < 3 ∨ fM σ (σ 88 14 + 2) = (118 : Int)) ∧ ((4 : Int) < 4 ∨ fM σ (σ 88 14 + 3) = (101 : Int)))) := q387_0
                      refine j_st (st' := [vI r388]) rfl ?_
                      refine j_ifR_eq (pc := 198) (tgt := 203) ⟨by omega, by omega⟩ dX12_nameNow_198 rfl (fun h389 => ?_) (fun h389 => ?_)
                      · have z6 : ¬ nm (fM σ) (σ 88 14) (σ 88 13) 6 = 1 := by (have e := nmE_6 (fM σ) (σ 88 14) (σ 88 13)); omega
                        clear q387_0
                        refine j_aload_n (pc := 203) dX12_nameNow_203 rfl rfl ?_
                        refine j_iconst (pc := 204) dX12_nameNow_204 ?_
                        refine j_bipush (pc := 205) dX12_nameNow_205 rfl ?_
                        refine j_bipush (pc := 207) dX12_nameNow_207 rfl ?_
                        refine j_bipush (pc := 209) dX12_nameNow_209 rfl ?_
                        refine j_bipush (pc := 211) dX12_nameNow_211 rfl ?_
                        refine j_callV (pc := 213) (As := [vI 4, vI 102, vI 105, vI 116, vI 115]) (st := []) (c_X12_is hM 4 (by (first | decide | exact ⟨by omega, by omega⟩)) 102 (by (first | decide | exact ⟨by omega, by omega⟩)) 105 (by (first | decide | exact ⟨by omega, by omega⟩)) 116 (by (first | decide | exact ⟨by omega, by omega⟩)) 115 (by (first | decide | exact ⟨by omega, by omega⟩)) σ hI) mv_X12_107 rfl rfl rfl (a_88 hM) dX12_nameNow_213 ⟨Nat.le_of_ble_eq_true rfl, Nat.le_of_ble_eq_true rfl⟩ ⟨Nat.le_refl _, Nat.le_refl _⟩ rfl (Nat.le_of_ble_eq_true rfl) rfl (fun z390 σ391 hz390 => ?_)
                        obtain ⟨r393, rfl, hr393, rfl, q392_0⟩ := hz390
                        replace q392_0 : (r393 = 1 ∧ σ 88 13 - σ 88 14 = (4 : Int) ∧ fM σ (σ 88 14) = (102 : Int) ∧ fM σ (σ 88 14 + 1) = (105 : Int) ∧ ((4 : Int) < 3 ∨ fM σ (σ 88 14 + 2) = (116 : Int)) ∧ ((4 : Int) < 4 ∨ fM σ (σ 88 14 + 3) = (115 : Int))) ∨ (r393 = 0 ∧ ¬ (σ 88 13 - σ 88 14 = (4 : Int) ∧ fM σ (σ 88 14) = (102 : Int) ∧ fM σ (σ 88 14 + 1) = (105 : Int) ∧ ((4 : Int) < 3 ∨ fM σ (σ 88 14 + 2) = (116 : Int)) ∧ ((4 : Int) < 4 ∨ fM σ (σ 88 14 + 3) = (115 : Int)))) := q392_0
                        refine j_st (st' := [vI r393]) rfl ?_
                        refine j_ifR_eq (pc := 216) (tgt := 221) ⟨by omega, by omega⟩ dX12_nameNow_216 rfl (fun h394 => ?_) (fun h394 => ?_)
                        · have z7 : ¬ nm (fM σ) (σ 88 14) (σ 88 13) 7 = 1 := by (have e := nmE_7 (fM σ) (σ 88 14) (σ 88 13)); omega
                          clear q392_0
                          refine j_aload_n (pc := 221) dX12_nameNow_221 rfl rfl ?_
                          refine j_iconst (pc := 222) dX12_nameNow_222 ?_
                          refine j_bipush (pc := 223) dX12_nameNow_223 rfl ?_
                          refine j_bipush (pc := 225) dX12_nameNow_225 rfl ?_
                          refine j_bipush (pc := 227) dX12_nameNow_227 rfl ?_
                          refine j_bipush (pc := 229) dX12_nameNow_229 rfl ?_
                          refine j_callV (pc := 231) (As := [vI 5, vI 104, vI 111, vI 108, vI 100]) (st := []) (c_X12_is hM 5 (by (first | decide | exact ⟨by omega, by omega⟩)) 104 (by (first | decide | exact ⟨by omega, by omega⟩)) 111 (by (first | decide | exact ⟨by omega, by omega⟩)) 108 (by (first | decide | exact ⟨by omega, by omega⟩)) 100 (by (first | decide | exact ⟨by omega, by omega⟩)) σ hI) mv_X12_107 rfl rfl rfl (a_88 hM) dX12_nameNow_231 ⟨Nat.le_of_ble_eq_true rfl, Nat.le_of_ble_eq_true rfl⟩ ⟨Nat.le_refl _, Nat.le_refl _⟩ rfl (Nat.le_of_ble_eq_true rfl) rfl (fun z395 σ396 hz395 => ?_)
                          obtain ⟨r398, rfl, hr398, rfl, q397_0⟩ := hz395
                          replace q397_0 : (r398 = 1 ∧ σ 88 13 - σ 88 14 = (5 : Int) ∧ fM σ (σ 88 14) = (104 : Int) ∧ fM σ (σ 88 14 + 1) = (111 : Int) ∧ ((5 : Int) < 3 ∨ fM σ (σ 88 14 + 2) = (108 : Int)) ∧ ((5 : Int) < 4 ∨ fM σ (σ 88 14 + 3) = (100 : Int))) ∨ (r398 = 0 ∧ ¬ (σ 88 13 - σ 88 14 = (5 : Int) ∧ fM σ (σ 88 14) = (104 : Int) ∧ fM σ (σ 88 14 + 1) = (111 : Int) ∧ ((5 : Int) < 3 ∨ fM σ (σ 88 14 + 2) = (108 : Int)) ∧ ((5 : Int) < 4 ∨ fM σ (σ 88 14 + 3) = (100 : Int)))) := q397_0
                          refine j_st (st' := [vI r398]) rfl ?_
                          refine j_ifR_eq (pc := 234) (tgt := 255) ⟨by omega, by omega⟩ dX12_nameNow_234 rfl (fun h399 => ?_) (fun h399 => ?_)
                          · have z8 : ¬ nm (fM σ) (σ 88 14) (σ 88 13) 8 = 1 := by (have e := nmE_8 (fM σ) (σ 88 14) (σ 88 13)); omega
                            clear q397_0
                            refine j_aload_n (pc := 255) dX12_nameNow_255 rfl rfl ?_
                            refine j_iconst (pc := 256) dX12_nameNow_256 ?_
                            refine j_bipush (pc := 257) dX12_nameNow_257 rfl ?_
                            refine j_bipush (pc := 259) dX12_nameNow_259 rfl ?_
                            refine j_bipush (pc := 261) dX12_nameNow_261 rfl ?_
                            refine j_iconst (pc := 263) dX12_nameNow_263 ?_
                            refine j_callV (pc := 264) (As := [vI 3, vI 108, vI 111, vI 119, vI 0]) (st := []) (c_X12_is hM 3 (by (first | decide | exact ⟨by omega, by omega⟩)) 108 (by (first | decide | exact ⟨by omega, by omega⟩)) 111 (by (first | decide | exact ⟨by omega, by omega⟩)) 119 (by (first | decide | exact ⟨by omega, by omega⟩)) 0 (by (first | decide | exact ⟨by omega, by omega⟩)) σ hI) mv_X12_107 rfl rfl rfl (a_88 hM) dX12_nameNow_264 ⟨Nat.le_of_ble_eq_true rfl, Nat.le_of_ble_eq_true rfl⟩ ⟨Nat.le_refl _, Nat.le_refl _⟩ rfl (Nat.le_of_ble_eq_true rfl) rfl (fun z400 σ401 hz400 => ?_)
                            obtain ⟨r403, rfl, hr403, rfl, q402_0⟩ := hz400
                            replace q402_0 : (r403 = 1 ∧ σ 88 13 - σ 88 14 = (3 : Int) ∧ fM σ (σ 88 14) = (108 : Int) ∧ fM σ (σ 88 14 + 1) = (111 : Int) ∧ ((3 : Int) < 3 ∨ fM σ (σ 88 14 + 2) = (119 : Int)) ∧ ((3 : Int) < 4 ∨ fM σ (σ 88 14 + 3) = (0 : Int))) ∨ (r403 = 0 ∧ ¬ (σ 88 13 - σ 88 14 = (3 : Int) ∧ fM σ (σ 88 14) = (108 : Int) ∧ fM σ (σ 88 14 + 1) = (111 : Int) ∧ ((3 : Int) < 3 ∨ fM σ (σ 88 14 + 2) = (119 : Int)) ∧ ((3 : Int) < 4 ∨ fM σ (σ 88 14 + 3) = (0 : Int)))) := q402_0
                            refine j_st (st' := [vI r403]) rfl ?_
                            refine j_ifR_eq (pc := 267) (tgt := 275) ⟨by omega, by omega⟩ dX12_nameNow_267 rfl (fun h404 => ?_) (fun h404 => ?_)
                            · have z9 : ¬ nm (fM σ) (σ 88 14) (σ 88 13) 9 = 1 := by (have e := nmE_9 (fM σ) (σ 88 14) (σ 88 13)); omega
                              clear q402_0
                              have zl : lnm (fM σ) 1 (σ 88 14) (σ 88 13) = -1 := by unfold lnm; rw [if_neg (by decide)]; repeat (first | rw [if_pos (by omega)] | rw [if_neg (by omega)])
                              refine j_aload_n (pc := 275) dX12_nameNow_275 rfl rfl ?_
                              refine j_callV (pc := 276) (As := []) (st := []) (c_X12_withNow hM σ hI) mv_X12_111 rfl rfl rfl (a_88 hM) dX12_nameNow_276 ⟨Nat.le_of_ble_eq_true rfl, Nat.le_of_ble_eq_true rfl⟩ ⟨Nat.le_refl _, Nat.le_refl _⟩ rfl (Nat.le_of_ble_eq_true rfl) rfl (fun z405 σ406 hz405 => ?_)
                              obtain ⟨r408, rfl, hr408, rfl, q407_0, q407_1⟩ := hz405
                              replace q407_0 : r408 = -4 ∨ 20 ≤ r408 := q407_0
                              replace q407_1 : (r408 = -4 ∧ wnm (fM σ) 1 (σ 88 14) (σ 88 13) = -1) ∨ (r408 = 20 + wnm (fM σ) 1 (σ 88 14) (σ 88 13) ∧ 0 ≤ wnm (fM σ) 1 (σ 88 14) (σ 88 13) ∧ wnm (fM σ) 1 (σ 88 14) (σ 88 13) ≤ 3) := q407_1
                              refine j_st (st' := [vI r408]) rfl ?_
                              exact j_iret (pc := 279) ⟨rfl, rfl⟩ dX12_nameNow_279 rfl ⟨_, rfl, ⟨by omega, by omega⟩, rfl, by omega⟩
                            · have z9 : nm (fM σ) (σ 88 14) (σ 88 13) 9 = 1 := by (have e := nmE_9 (fM σ) (σ 88 14) (σ 88 13)); omega
                              clear q402_0
                              have zl : lnm (fM σ) 1 (σ 88 14) (σ 88 13) = 8 := by unfold lnm; rw [if_neg (by decide)]; repeat (first | rw [if_pos (by omega)] | rw [if_neg (by omega)])
                              refine j_bipush (pc := 270) dX12_nameNow_270 rfl ?_
                              refine j_goto (pc := 272) (tgt := 279) dX12_nameNow_272 rfl ?_
                              exact j_iret (pc := 279) ⟨rfl, rfl⟩ dX12_nameNow_279 rfl ⟨_, rfl, ⟨by omega, by omega⟩, rfl, by omega⟩
                          · refine j_aload_n (pc := 237) dX12_nameNow_237 rfl rfl ?_
                            refine j_aload_n (pc := 238) dX12_nameNow_238 rfl rfl ?_
                            refine j_getI (pc := 239) fl_X12_94 dX12_nameNow_239 (a_88 hM) rfl ?_
                            refine j_iconst (pc := 242) dX12_nameNow_242 ?_
                            refine j_iadd (pc := 243) dX12_nameNow_243 ?_
                            refine j_callV (pc := 244) (As := [vI ((σ 88 14) + 4)]) (st := []) (c_X12_look hM ((σ 88 14) + 4) ⟨by omega, by omega⟩ σ hI) mv_X12_103 rfl rfl rfl (a_88 hM) dX12_nameNow_244 ⟨Nat.le_of_ble_eq_true rfl, Nat.le_of_ble_eq_true rfl⟩ ⟨Nat.le_refl _, Nat.le_refl _⟩ rfl (Nat.le_of_ble_eq_true rfl) rfl (fun z409 σ410 hz409 => ?_)
                            obtain ⟨r412, rfl, hr412, rfl, q411_0, q411_1⟩ := hz409
                            replace q411_0 : (((σ 88 14) + 4) < σ 88 12 ∧ r412 = σ 98 ((σ 88 14) + 4).toNat) ∨ (¬ ((σ 88 14) + 4) < σ 88 12 ∧ r412 = -1) := q411_0
                            replace q411_1 : r412 = fM σ ((σ 88 14) + 4) := q411_1
                            refine j_st (st' := [vI r412]) rfl ?_
                            refine j_bipush (pc := 247) dX12_nameNow_247 rfl ?_
                            refine j_icmpR_ne (pc := 249) (tgt := 255) ⟨by omega, by omega⟩ ⟨by omega, by omega⟩ dX12_nameNow_249 rfl (fun h413 => ?_) (fun h413 => ?_)
                            · have z8 : ¬ nm (fM σ) (σ 88 14) (σ 88 13) 8 = 1 := by (have e := nmE_8 (fM σ) (σ 88 14) (σ 88 13)); omega
                              clear q397_0 q411_0 q411_1
                              refine j_aload_n (pc := 255) dX12_nameNow_255 rfl rfl ?_
                              refine j_iconst (pc := 256) dX12_nameNow_256 ?_
                              refine j_bipush (pc := 257) dX12_nameNow_257 rfl ?_
                              refine j_bipush (pc := 259) dX12_nameNow_259 rfl ?_
                              refine j_bipush (pc := 261) dX12_nameNow_261 rfl ?_
                              refine j_iconst (pc := 263) dX12_nameNow_263 ?_
                              refine j_callV (pc := 264) (As := [vI 3, vI 108, vI 111, vI 119, vI 0]) (st := []) (c_X12_is hM 3 (by (first | decide | exact ⟨by omega, by omega⟩)) 108 (by (first | decide | exact ⟨by omega, by omega⟩)) 111 (by (first | decide | exact ⟨by omega, by omega⟩)) 119 (by (first | decide | exact ⟨by omega, by omega⟩)) 0 (by (first | decide | exact ⟨by omega, by omega⟩)) σ hI) mv_X12_107 rfl rfl rfl (a_88 hM) dX12_nameNow_264 ⟨Nat.le_of_ble_eq_true rfl, Nat.le_of_ble_eq_true rfl⟩ ⟨Nat.le_refl _, Nat.le_refl _⟩ rfl (Nat.le_of_ble_eq_true rfl) rfl (fun z414 σ415 hz414 => ?_)
                              obtain ⟨r417, rfl, hr417, rfl, q416_0⟩ := hz414
                              replace q416_0 : (r417 = 1 ∧ σ 88 13 - σ 88 14 = (3 : Int) ∧ fM σ (σ 88 14) = (108 : Int) ∧ fM σ (σ 88 14 + 1) = (111 : Int) ∧ ((3 : Int) < 3 ∨ fM σ (σ 88 14 + 2) = (119 : Int)) ∧ ((3 : Int) < 4 ∨ fM σ (σ 88 14 + 3) = (0 : Int))) ∨ (r417 = 0 ∧ ¬ (σ 88 13 - σ 88 14 = (3 : Int) ∧ fM σ (σ 88 14) = (108 : Int) ∧ fM σ (σ 88 14 + 1) = (111 : Int) ∧ ((3 : Int) < 3 ∨ fM σ (σ 88 14 + 2) = (119 : Int)) ∧ ((3 : Int) < 4 ∨ fM σ (σ 88 14 + 3) = (0 : Int)))) := q416_0
                              refine j_st (st' := [vI r417]) rfl ?_
                              refine j_ifR_eq (pc := 267) (tgt := 275) ⟨by omega, by omega⟩ dX12_nameNow_267 rfl (fun h418 => ?_) (fun h418 => ?_)
                              · have z9 : ¬ nm (fM σ) (σ 88 14) (σ 88 13) 9 = 1 := by (have e := nmE_9 (fM σ) (σ 88 14) (σ 88 13)); omega
                                clear q416_0
                                have zl : lnm (fM σ) 1 (σ 88 14) (σ 88 13) = -1 := by unfold lnm; rw [if_neg (by decide)]; repeat (first | rw [if_pos (by omega)] | rw [if_neg (by omega)])
                                refine j_aload_n (pc := 275) dX12_nameNow_275 rfl rfl ?_
                                refine j_callV (pc := 276) (As := []) (st := []) (c_X12_withNow hM σ hI) mv_X12_111 rfl rfl rfl (a_88 hM) dX12_nameNow_276 ⟨Nat.le_of_ble_eq_true rfl, Nat.le_of_ble_eq_true rfl⟩ ⟨Nat.le_refl _, Nat.le_refl _⟩ rfl (Nat.le_of_ble_eq_true rfl) rfl (fun z419 σ420 hz419 => ?_)
                                obtain ⟨r422, rfl, hr422, rfl, q421_0, q421_1⟩ := hz419
                                replace q421_0 : r422 = -4 ∨ 20 ≤ r422 := q421_0
                                replace q421_1 : (r422 = -4 ∧ wnm (fM σ) 1 (σ 88 14) (σ 88 13) = -1) ∨ (r422 = 20 + wnm (fM σ) 1 (σ 88 14) (σ 88 13) ∧ 0 ≤ wnm (fM σ) 1 (σ 88 14) (σ 88 13) ∧ wnm (fM σ) 1 (σ 88 14) (σ 88 13) ≤ 3) := q421_1
                                refine j_st (st' := [vI r422]) rfl ?_
                                exact j_iret (pc := 279) ⟨rfl, rfl⟩ dX12_nameNow_279 rfl ⟨_, rfl, ⟨by omega, by omega⟩, rfl, by omega⟩
                              · have z9 : nm (fM σ) (σ 88 14) (σ 88 13) 9 = 1 := by (have e := nmE_9 (fM σ) (σ 88 14) (σ 88 13)); omega
                                clear q416_0
                                have zl : lnm (fM σ) 1 (σ 88 14) (σ 88 13) = 8 := by unfold lnm; rw [if_neg (by decide)]; repeat (first | rw [if_pos (by omega)] | rw [if_neg (by omega)])
                                refine j_bipush (pc := 270) dX12_nameNow_270 rfl ?_
                                refine j_goto (pc := 272) (tgt := 279) dX12_nameNow_272 rfl ?_
                                exact j_iret (pc := 279) ⟨rfl, rfl⟩ dX12_nameNow_279 rfl ⟨_, rfl, ⟨by omega, by omega⟩, rfl, by omega⟩
                            · have z8 : nm (fM σ) (σ 88 14) (σ 88 13) 8 = 1 := by (have e := nmE_8 (fM σ) (σ 88 14) (σ 88 13)); omega
                              clear q397_0 q411_0 q411_1
                              have zl : lnm (fM σ) 1 (σ 88 14) (σ 88 13) = 7 := by unfold lnm; rw [if_neg (by decide)]; repeat (first | rw [if_pos (by omega)] | rw [if_neg (by omega)])
                              refine j_bipush (pc := 252) dX12_nameNow_252 rfl ?_
                              exact j_iret (pc := 254) ⟨rfl, rfl⟩ dX12_nameNow_254 rfl ⟨_, rfl, ⟨by omega, by omega⟩, rfl, by omega⟩
                        · have z7 : nm (fM σ) (σ 88 14) (σ 88 13) 7 = 1 := by (have e := nmE_7 (fM σ) (σ 88 14) (σ 88 13)); omega
                          clear q392_0
                          have zl : lnm (fM σ) 1 (σ 88 14) (σ 88 13) = 5 := by unfold lnm; rw [if_neg (by decide)]; repeat (first | rw [if_pos (by omega)] | rw [if_neg (by omega)])
                          refine j_iconst (pc := 219) dX12_nameNow_219 ?_
                          exact j_iret (pc := 220) ⟨rfl, rfl⟩ dX12_nameNow_220 rfl ⟨_, rfl, ⟨by omega, by omega⟩, rfl, by omega⟩
                      · have z6 : nm (fM σ) (σ 88 14) (σ 88 13) 6 = 1 := by (have e := nmE_6 (fM σ) (σ 88 14) (σ 88 13)); omega
                        clear q387_0
                        have zl : lnm (fM σ) 1 (σ 88 14) (σ 88 13) = 4 := by unfold lnm; rw [if_neg (by decide)]; repeat (first | rw [if_pos (by omega)] | rw [if_neg (by omega)])
                        refine j_iconst (pc := 201) dX12_nameNow_201 ?_
                        exact j_iret (pc := 202) ⟨rfl, rfl⟩ dX12_nameNow_202 rfl ⟨_, rfl, ⟨by omega, by omega⟩, rfl, by omega⟩
                    · have z5 : nm (fM σ) (σ 88 14) (σ 88 13) 5 = 1 := by (have e := nmE_5 (fM σ) (σ 88 14) (σ 88 13)); omega
                      clear q382_0
                      have zl : lnm (fM σ) 1 (σ 88 14) (σ 88 13) = 3 := by unfold lnm; rw [if_neg (by decide)]; repeat (first | rw [if_pos (by omega)] | rw [if_neg (by omega)])
                      refine j_iconst (pc := 183) dX12_nameNow_183 ?_
                      exact j_iret (pc := 184) ⟨rfl, rfl⟩ dX12_nameNow_184 rfl ⟨_, rfl, ⟨by omega, by omega⟩, rfl, by omega⟩
                  · have z4 : nm (fM σ) (σ 88 14) (σ 88 13) 4 = 1 := by (have e := nmE_4 (fM σ) (σ 88 14) (σ 88 13)); omega
                    clear q329_0 q377_0 q377_1
                    have zl : lnm (fM σ) 1 (σ 88 14) (σ 88 13) = 2 := by unfold lnm; rw [if_neg (by decide)]; repeat (first | rw [if_pos (by omega)] | rw [if_neg (by omega)])
                    refine j_iconst (pc := 165) dX12_nameNow_165 ?_
                    exact j_iret (pc := 166) ⟨rfl, rfl⟩ dX12_nameNow_166 rfl ⟨_, rfl, ⟨by omega, by omega⟩, rfl, by omega⟩
              · refine j_aload_n (pc := 116) dX12_nameNow_116 rfl rfl ?_
                refine j_aload_n (pc := 117) dX12_nameNow_117 rfl rfl ?_
                refine j_getI (pc := 118) fl_X12_94 dX12_nameNow_118 (a_88 hM) rfl ?_
                refine j_bipush (pc := 121) dX12_nameNow_121 rfl ?_
                refine j_iadd (pc := 123) dX12_nameNow_123 ?_
                refine j_callV (pc := 124) (As := [vI ((σ 88 14) + 7)]) (st := []) (c_X12_look hM ((σ 88 14) + 7) ⟨by omega, by omega⟩ σ hI) mv_X12_103 rfl rfl rfl (a_88 hM) dX12_nameNow_124 ⟨Nat.le_of_ble_eq_true rfl, Nat.le_of_ble_eq_true rfl⟩ ⟨Nat.le_refl _, Nat.le_refl _⟩ rfl (Nat.le_of_ble_eq_true rfl) rfl (fun z423 σ424 hz423 => ?_)
                obtain ⟨r426, rfl, hr426, rfl, q425_0, q425_1⟩ := hz423
                replace q425_0 : (((σ 88 14) + 7) < σ 88 12 ∧ r426 = σ 98 ((σ 88 14) + 7).toNat) ∨ (¬ ((σ 88 14) + 7) < σ 88 12 ∧ r426 = -1) := q425_0
                replace q425_1 : r426 = fM σ ((σ 88 14) + 7) := q425_1
                refine j_st (st' := [vI r426]) rfl ?_
                refine j_bipush (pc := 127) dX12_nameNow_127 rfl ?_
                refine j_icmpR_ne (pc := 129) (tgt := 134) ⟨by omega, by omega⟩ ⟨by omega, by omega⟩ dX12_nameNow_129 rfl (fun h427 => ?_) (fun h427 => ?_)
                · have z3 : ¬ nm (fM σ) (σ 88 14) (σ 88 13) 3 = 1 := by (have e := nmE_3 (fM σ) (σ 88 14) (σ 88 13)); omega
                  clear q18_0 q122_0 q122_1 q223_0 q223_1 q324_0 q324_1 q425_0 q425_1
                  refine j_aload_n (pc := 134) dX12_nameNow_134 rfl rfl ?_
                  refine j_iconst (pc := 135) dX12_nameNow_135 ?_
                  refine j_bipush (pc := 136) dX12_nameNow_136 rfl ?_
                  refine j_bipush (pc := 138) dX12_nameNow_138 rfl ?_
                  refine j_bipush (pc := 140) dX12_nameNow_140 rfl ?_
                  refine j_bipush (pc := 142) dX12_nameNow_142 rfl ?_
                  refine j_callV (pc := 144) (As := [vI 5, vI 112, vI 108, vI 97, vI 99]) (st := []) (c_X12_is hM 5 (by (first | decide | exact ⟨by omega, by omega⟩)) 112 (by (first | decide | exact ⟨by omega, by omega⟩)) 108 (by (first | decide | exact ⟨by omega, by omega⟩)) 97 (by (first | decide | exact ⟨by omega, by omega⟩)) 99 (by (first | decide | exact ⟨by omega, by omega⟩)) σ hI) mv_X12_107 rfl rfl rfl (a_88 hM) dX12_nameNow_144 ⟨Nat.le_of_ble_eq_true rfl, Nat.le_of_ble_eq_true rfl⟩ ⟨Nat.le_refl _, Nat.le_refl _⟩ rfl (Nat.le_of_ble_eq_true rfl) rfl (fun z428 σ429 hz428 => ?_)
                  obtain ⟨r431, rfl, hr431, rfl, q430_0⟩ := hz428
                  replace q430_0 : (r431 = 1 ∧ σ 88 13 - σ 88 14 = (5 : Int) ∧ fM σ (σ 88 14) = (112 : Int) ∧ fM σ (σ 88 14 + 1) = (108 : Int) ∧ ((5 : Int) < 3 ∨ fM σ (σ 88 14 + 2) = (97 : Int)) ∧ ((5 : Int) < 4 ∨ fM σ (σ 88 14 + 3) = (99 : Int))) ∨ (r431 = 0 ∧ ¬ (σ 88 13 - σ 88 14 = (5 : Int) ∧ fM σ (σ 88 14) = (112 : Int) ∧ fM σ (σ 88 14 + 1) = (108 : Int) ∧ ((5 : Int) < 3 ∨ fM σ (σ 88 14 + 2) = (97 : Int)) ∧ ((5 : Int) < 4 ∨ fM σ (σ 88 14 + 3) = (99 : Int)))) := q430_0
                  refine j_st (st' := [vI r431]) rfl ?_
                  refine j_ifR_eq (pc := 147) (tgt := 167) ⟨by omega, by omega⟩ dX12_nameNow_147 rfl (fun h432 => ?_) (fun h432 => ?_)
                  · have z4 : ¬ nm (fM σ) (σ 88 14) (σ 88 13) 4 = 1 := by (have e := nmE_4 (fM σ) (σ 88 14) (σ 88 13)); omega
                    clear q430_0
                    refine j_aload_n (pc := 167) dX12_nameNow_167 rfl rfl ?_
                    refine j_iconst (pc := 168) dX12_nameNow_168 ?_
                    refine j_bipush (pc := 169) dX12_nameNow_169 rfl ?_
                    refine j_bipush (pc := 171) dX12_nameNow_171 rfl ?_
                    refine j_bipush (pc := 173) dX12_nameNow_173 rfl ?_
                    refine j_bipush (pc := 175) dX12_nameNow_175 rfl ?_
                    refine j_callV (pc := 177) (As := [vI 4, vI 114, vI 111, vI 112, vI 101]) (st := []) (c_X12_is hM 4 (by (first | decide | exact ⟨by omega, by omega⟩)) 114 (by (first | decide | exact ⟨by omega, by omega⟩)) 111 (by (first | decide | exact ⟨by omega, by omega⟩)) 112 (by (first | decide | exact ⟨by omega, by omega⟩)) 101 (by (first | decide | exact ⟨by omega, by omega⟩)) σ hI) mv_X12_107 rfl rfl rfl (a_88 hM) dX12_nameNow_177 ⟨Nat.le_of_ble_eq_true rfl, Nat.le_of_ble_eq_true rfl⟩ ⟨Nat.le_refl _, Nat.le_refl _⟩ rfl (Nat.le_of_ble_eq_true rfl) rfl (fun z433 σ434 hz433 => ?_)
                    obtain ⟨r436, rfl, hr436, rfl, q435_0⟩ := hz433
                    replace q435_0 : (r436 = 1 ∧ σ 88 13 - σ 88 14 = (4 : Int) ∧ fM σ (σ 88 14) = (114 : Int) ∧ fM σ (σ 88 14 + 1) = (111 : Int) ∧ ((4 : Int) < 3 ∨ fM σ (σ 88 14 + 2) = (112 : Int)) ∧ ((4 : Int) < 4 ∨ fM σ (σ 88 14 + 3) = (101 : Int))) ∨ (r436 = 0 ∧ ¬ (σ 88 13 - σ 88 14 = (4 : Int) ∧ fM σ (σ 88 14) = (114 : Int) ∧ fM σ (σ 88 14 + 1) = (111 : Int) ∧ ((4 : Int) < 3 ∨ fM σ (σ 88 14 + 2) = (112 : Int)) ∧ ((4 : Int) < 4 ∨ fM σ (σ 88 14 + 3) = (101 : Int)))) := q435_0
                    refine j_st (st' := [vI r436]) rfl ?_
                    refine j_ifR_eq (pc := 180) (tgt := 185) ⟨by omega, by omega⟩ dX12_nameNow_180 rfl (fun h437 => ?_) (fun h437 => ?_)
                    · have z5 : ¬ nm (fM σ) (σ 88 14) (σ 88 13) 5 = 1 := by (have e := nmE_5 (fM σ) (σ 88 14) (σ 88 13)); omega
                      clear q435_0
                      refine j_aload_n (pc := 185) dX12_nameNow_185 rfl rfl ?_
                      refine j_iconst (pc := 186) dX12_nameNow_186 ?_
                      refine j_bipush (pc := 187) dX12_nameNow_187 rfl ?_
                      refine j_bipush (pc := 189) dX12_nameNow_189 rfl ?_
                      refine j_bipush (pc := 191) dX12_nameNow_191 rfl ?_
                      refine j_bipush (pc := 193) dX12_nameNow_193 rfl ?_
                      refine j_callV (pc := 195) (As := [vI 4, vI 103, vI 105, vI 118, vI 101]) (st := []) (c_X12_is hM 4 (by (first | decide | exact ⟨by omega, by omega⟩)) 103 (by (first | decide | exact ⟨by omega, by omega⟩)) 105 (by (first | decide | exact ⟨by omega, by omega⟩)) 118 (by (first | decide | exact ⟨by omega, by omega⟩)) 101 (by (first | decide | exact ⟨by omega, by omega⟩)) σ hI) mv_X12_107 rfl rfl rfl (a_88 hM) dX12_nameNow_195 ⟨Nat.le_of_ble_eq_true rfl, Nat.le_of_ble_eq_true rfl⟩ ⟨Nat.le_refl _, Nat.le_refl _⟩ rfl (Nat.le_of_ble_eq_true rfl) rfl (fun z438 σ439 hz438 => ?_)
                      obtain ⟨r441, rfl, hr441, rfl, q440_0⟩ := hz438
                      replace q440_0 : (r441 = 1 ∧ σ 88 13 - σ 88 14 = (4 : Int) ∧ fM σ (σ 88 14) = (103 : Int) ∧ fM σ (σ 88 14 + 1) = (105 : Int) ∧ ((4 : Int) < 3 ∨ fM σ (σ 88 14 + 2) = (118 : Int)) ∧ ((4 : Int) < 4 ∨ fM σ (σ 88 14 + 3) = (101 : Int))) ∨ (r441 = 0 ∧ ¬ (σ 88 13 - σ 88 14 = (4 : Int) ∧ fM σ (σ 88 14) = (103 : Int) ∧ fM σ (σ 88 14 + 1) = (105 : Int) ∧ ((4 : Int) < 3 ∨ fM σ (σ 88 14 + 2) = (118 : Int)) ∧ ((4 : Int) < 4 ∨ fM σ (σ 88 14 + 3) = (101 : Int)))) := q440_0
                      refine j_st (st' := [vI r441]) rfl ?_
                      refine j_ifR_eq (pc := 198) (tgt := 203) ⟨by omega, by omega⟩ dX12_nameNow_198 rfl (fun h442 => ?_) (fun h442 => ?_)
                      · have z6 : ¬ nm (fM σ) (σ 88 14) (σ 88 13) 6 = 1 := by (have e := nmE_6 (fM σ) (σ 88 14) (σ 88 13)); omega
                        clear q440_0
                        refine j_aload_n (pc := 203) dX12_nameNow_203 rfl rfl ?_
                        refine j_iconst (pc := 204) dX12_nameNow_204 ?_
                        refine j_bipush (pc := 205) dX12_nameNow_205 rfl ?_
                        refine j_bipush (pc := 207) dX12_nameNow_207 rfl ?_
                        refine j_bipush (pc := 209) dX12_nameNow_209 rfl ?_
                        refine j_bipush (pc := 211) dX12_nameNow_211 rfl ?_
                        refine j_callV (pc := 213) (As := [vI 4, vI 102, vI 105, vI 116, vI 115]) (st := []) (c_X12_is hM 4 (by (first | decide | exact ⟨by omega, by omega⟩)) 102 (by (first | decide | exact ⟨by omega, by omega⟩)) 105 (by (first | decide | exact ⟨by omega, by omega⟩)) 116 (by (first | decide | exact ⟨by omega, by omega⟩)) 115 (by (first | decide | exact ⟨by omega, by omega⟩)) σ hI) mv_X12_107 rfl rfl rfl (a_88 hM) dX12_nameNow_213 ⟨Nat.le_of_ble_eq_true rfl, Nat.le_of_ble_eq_true rfl⟩ ⟨Nat.le_refl _, Nat.le_refl _⟩ rfl (Nat.le_of_ble_eq_true rfl) rfl (fun z443 σ444 hz443 => ?_)
                        obtain ⟨r446, rfl, hr446, rfl, q445_0⟩ := hz443
                        replace q445_0 : (r446 = 1 ∧ σ 88 13 - σ 88 14 = (4 : Int) ∧ fM σ (σ 88 14) = (102 : Int) ∧ fM σ (σ 88 14 + 1) = (105 : Int) ∧ ((4 : Int) < 3 ∨ fM σ (σ 88 14 + 2) = (116 : Int)) ∧ ((4 : Int) < 4 ∨ fM σ (σ 88 14 + 3) = (115 : Int))) ∨ (r446 = 0 ∧ ¬ (σ 88 13 - σ 88 14 = (4 : Int) ∧ fM σ (σ 88 14) = (102 : Int) ∧ fM σ (σ 88 14 + 1) = (105 : Int) ∧ ((4 : Int) < 3 ∨ fM σ (σ 88 14 + 2) = (116 : Int)) ∧ ((4 : Int) < 4 ∨ fM σ (σ 88 14 + 3) = (115 : Int)))) := q445_0
                        refine j_st (st' := [vI r446]) rfl ?_
                        refine j_ifR_eq (pc := 216) (tgt := 221) ⟨by omega, by omega⟩ dX12_nameNow_216 rfl (fun h447 => ?_) (fun h447 => ?_)
                        · have z7 : ¬ nm (fM σ) (σ 88 14) (σ 88 13) 7 = 1 := by (have e := nmE_7 (fM σ) (σ 88 14) (σ 88 13)); omega
                          clear q445_0
                          refine j_aload_n (pc := 221) dX12_nameNow_221 rfl rfl ?_
                          refine j_iconst (pc := 222) dX12_nameNow_222 ?_
                          refine j_bipush (pc := 223) dX12_nameNow_223 rfl ?_
                          refine j_bipush (pc := 225) dX12_nameNow_225 rfl ?_
                          refine j_bipush (pc := 227) dX12_nameNow_227 rfl ?_
                          refine j_bipush (pc := 229) dX12_nameNow_229 rfl ?_
                          refine j_callV (pc := 231) (As := [vI 5, vI 104, vI 111, vI 108, vI 100]) (st := []) (c_X12_is hM 5 (by (first | decide | exact ⟨by omega, by omega⟩)) 104 (by (first | decide | exact ⟨by omega, by omega⟩)) 111 (by (first | decide | exact ⟨by omega, by omega⟩)) 108 (by (first | decide | exact ⟨by omega, by omega⟩)) 100 (by (first | decide | exact ⟨by omega, by omega⟩)) σ hI) mv_X12_107 rfl rfl rfl (a_88 hM) dX12_nameNow_231 ⟨Nat.le_of_ble_eq_true rfl, Nat.le_of_ble_eq_true rfl⟩ ⟨Nat.le_refl _, Nat.le_refl _⟩ rfl (Nat.le_of_ble_eq_true rfl) rfl (fun z448 σ449 hz448 => ?_)
                          obtain ⟨r451, rfl, hr451, rfl, q450_0⟩ := hz448
                          replace q450_0 : (r451 = 1 ∧ σ 88 13 - σ 88 14 = (5 : Int) ∧ fM σ (σ 88 14) = (104 : Int) ∧ fM σ (σ 88 14 + 1) = (111 : Int) ∧ ((5 : Int) < 3 ∨ fM σ (σ 88 14 + 2) = (108 : Int)) ∧ ((5 : Int) < 4 ∨ fM σ (σ 88 14 + 3) = (100 : Int))) ∨ (r451 = 0 ∧ ¬ (σ 88 13 - σ 88 14 = (5 : Int) ∧ fM σ (σ 88 14) = (104 : Int) ∧ fM σ (σ 88 14 + 1) = (111 : Int) ∧ ((5 : Int) < 3 ∨ fM σ (σ 88 14 + 2) = (108 : Int)) ∧ ((5 : Int) < 4 ∨ fM σ (σ 88 14 + 3) = (100 : Int)))) := q450_0
                          refine j_st (st' := [vI r451]) rfl ?_
                          refine j_ifR_eq (pc := 234) (tgt := 255) ⟨by omega, by omega⟩ dX12_nameNow_234 rfl (fun h452 => ?_) (fun h452 => ?_)
                          · have z8 : ¬ nm (fM σ) (σ 88 14) (σ 88 13) 8 = 1 := by (have e := nmE_8 (fM σ) (σ 88 14) (σ 88 13)); omega
                            clear q450_0
                            refine j_aload_n (pc := 255) dX12_nameNow_255 rfl rfl ?_
                            refine j_iconst (pc := 256) dX12_nameNow_256 ?_
                            refine j_bipush (pc := 257) dX12_nameNow_257 rfl ?_
                            refine j_bipush (pc := 259) dX12_nameNow_259 rfl ?_
                            refine j_bipush (pc := 261) dX12_nameNow_261 rfl ?_
                            refine j_iconst (pc := 263) dX12_nameNow_263 ?_
                            refine j_callV (pc := 264) (As := [vI 3, vI 108, vI 111, vI 119, vI 0]) (st := []) (c_X12_is hM 3 (by (first | decide | exact ⟨by omega, by omega⟩)) 108 (by (first | decide | exact ⟨by omega, by omega⟩)) 111 (by (first | decide | exact ⟨by omega, by omega⟩)) 119 (by (first | decide | exact ⟨by omega, by omega⟩)) 0 (by (first | decide | exact ⟨by omega, by omega⟩)) σ hI) mv_X12_107 rfl rfl rfl (a_88 hM) dX12_nameNow_264 ⟨Nat.le_of_ble_eq_true rfl, Nat.le_of_ble_eq_true rfl⟩ ⟨Nat.le_refl _, Nat.le_refl _⟩ rfl (Nat.le_of_ble_eq_true rfl) rfl (fun z453 σ454 hz453 => ?_)
                            obtain ⟨r456, rfl, hr456, rfl, q455_0⟩ := hz453
                            replace q455_0 : (r456 = 1 ∧ σ 88 13 - σ 88 14 = (3 : Int) ∧ fM σ (σ 88 14) = (108 : Int) ∧ fM σ (σ 88 14 + 1) = (111 : Int) ∧ ((3 : Int) < 3 ∨ fM σ (σ 88 14 + 2) = (119 : Int)) ∧ ((3 : Int) < 4 ∨ fM σ (σ 88 14 + 3) = (0 : Int))) ∨ (r456 = 0 ∧ ¬ (σ 88 13 - σ 88 14 = (3 : Int) ∧ fM σ (σ 88 14) = (108 : Int) ∧ fM σ (σ 88 14 + 1) = (111 : Int) ∧ ((3 : Int) < 3 ∨ fM σ (σ 88 14 + 2) = (119 : Int)) ∧ ((3 : Int) < 4 ∨ fM σ (σ 88 14 + 3) = (0 : Int)))) := q455_0
                            refine j_st (st' := [vI r456]) rfl ?_
                            refine j_ifR_eq (pc := 267) (tgt := 275) ⟨by omega, by omega⟩ dX12_nameNow_267 rfl (fun h457 => ?_) (fun h457 => ?_)
                            · have z9 : ¬ nm (fM σ) (σ 88 14) (σ 88 13) 9 = 1 := by (have e := nmE_9 (fM σ) (σ 88 14) (σ 88 13)); omega
                              clear q455_0
                              have zl : lnm (fM σ) 1 (σ 88 14) (σ 88 13) = -1 := by unfold lnm; rw [if_neg (by decide)]; repeat (first | rw [if_pos (by omega)] | rw [if_neg (by omega)])
                              refine j_aload_n (pc := 275) dX12_nameNow_275 rfl rfl ?_
                              refine j_callV (pc := 276) (As := []) (st := []) (c_X12_withNow hM σ hI) mv_X12_111 rfl rfl rfl (a_88 hM) dX12_nameNow_276 ⟨Nat.le_of_ble_eq_true rfl, Nat.le_of_ble_eq_true rfl⟩ ⟨Nat.le_refl _, Nat.le_refl _⟩ rfl (Nat.le_of_ble_eq_true rfl) rfl (fun z458 σ459 hz458 => ?_)
                              obtain ⟨r461, rfl, hr461, rfl, q460_0, q460_1⟩ := hz458
                              replace q460_0 : r461 = -4 ∨ 20 ≤ r461 := q460_0
                              replace q460_1 : (r461 = -4 ∧ wnm (fM σ) 1 (σ 88 14) (σ 88 13) = -1) ∨ (r461 = 20 + wnm (fM σ) 1 (σ 88 14) (σ 88 13) ∧ 0 ≤ wnm (fM σ) 1 (σ 88 14) (σ 88 13) ∧ wnm (fM σ) 1 (σ 88 14) (σ 88 13) ≤ 3) := q460_1
                              refine j_st (st' := [vI r461]) rfl ?_
                              exact j_iret (pc := 279) ⟨rfl, rfl⟩ dX12_nameNow_279 rfl ⟨_, rfl, ⟨by omega, by omega⟩, rfl, by omega⟩
                            · have z9 : nm (fM σ) (σ 88 14) (σ 88 13) 9 = 1 := by (have e := nmE_9 (fM σ) (σ 88 14) (σ 88 13)); omega
                              clear q455_0
                              have zl : lnm (fM σ) 1 (σ 88 14) (σ 88 13) = 8 := by unfold lnm; rw [if_neg (by decide)]; repeat (first | rw [if_pos (by omega)] | rw [if_neg (by omega)])
                              refine j_bipush (pc := 270) dX12_nameNow_270 rfl ?_
                              refine j_goto (pc := 272) (tgt := 279) dX12_nameNow_272 rfl ?_
                              exact j_iret (pc := 279) ⟨rfl, rfl⟩ dX12_nameNow_279 rfl ⟨_, rfl, ⟨by omega, by omega⟩, rfl, by omega⟩
                          · refine j_aload_n (pc := 237) dX12_nameNow_237 rfl rfl ?_
                            refine j_aload_n (pc := 238) dX12_nameNow_238 rfl rfl ?_
                            refine j_getI (pc := 239) fl_X12_94 dX12_nameNow_239 (a_88 hM) rfl ?_
                            refine j_iconst (pc := 242) dX12_nameNow_242 ?_
                            refine j_iadd (pc := 243) dX12_nameNow_243 ?_
                            refine j_callV (pc := 244) (As := [vI ((σ 88 14) + 4)]) (st := []) (c_X12_look hM ((σ 88 14) + 4) ⟨by omega, by omega⟩ σ hI) mv_X12_103 rfl rfl rfl (a_88 hM) dX12_nameNow_244 ⟨Nat.le_of_ble_eq_true rfl, Nat.le_of_ble_eq_true rfl⟩ ⟨Nat.le_refl _, Nat.le_refl _⟩ rfl (Nat.le_of_ble_eq_true rfl) rfl (fun z462 σ463 hz462 => ?_)
                            obtain ⟨r465, rfl, hr465, rfl, q464_0, q464_1⟩ := hz462
                            replace q464_0 : (((σ 88 14) + 4) < σ 88 12 ∧ r465 = σ 98 ((σ 88 14) + 4).toNat) ∨ (¬ ((σ 88 14) + 4) < σ 88 12 ∧ r465 = -1) := q464_0
                            replace q464_1 : r465 = fM σ ((σ 88 14) + 4) := q464_1
                            refine j_st (st' := [vI r465]) rfl ?_
                            refine j_bipush (pc := 247) dX12_nameNow_247 rfl ?_
                            refine j_icmpR_ne (pc := 249) (tgt := 255) ⟨by omega, by omega⟩ ⟨by omega, by omega⟩ dX12_nameNow_249 rfl (fun h466 => ?_) (fun h466 => ?_)
                            · have z8 : ¬ nm (fM σ) (σ 88 14) (σ 88 13) 8 = 1 := by (have e := nmE_8 (fM σ) (σ 88 14) (σ 88 13)); omega
                              clear q450_0 q464_0 q464_1
                              refine j_aload_n (pc := 255) dX12_nameNow_255 rfl rfl ?_
                              refine j_iconst (pc := 256) dX12_nameNow_256 ?_
                              refine j_bipush (pc := 257) dX12_nameNow_257 rfl ?_
                              refine j_bipush (pc := 259) dX12_nameNow_259 rfl ?_
                              refine j_bipush (pc := 261) dX12_nameNow_261 rfl ?_
                              refine j_iconst (pc := 263) dX12_nameNow_263 ?_
                              refine j_callV (pc := 264) (As := [vI 3, vI 108, vI 111, vI 119, vI 0]) (st := []) (c_X12_is hM 3 (by (first | decide | exact ⟨by omega, by omega⟩)) 108 (by (first | decide | exact ⟨by omega, by omega⟩)) 111 (by (first | decide | exact ⟨by omega, by omega⟩)) 119 (by (first | decide | exact ⟨by omega, by omega⟩)) 0 (by (first | decide | exact ⟨by omega, by omega⟩)) σ hI) mv_X12_107 rfl rfl rfl (a_88 hM) dX12_nameNow_264 ⟨Nat.le_of_ble_eq_true rfl, Nat.le_of_ble_eq_true rfl⟩ ⟨Nat.le_refl _, Nat.le_refl _⟩ rfl (Nat.le_of_ble_eq_true rfl) rfl (fun z467 σ468 hz467 => ?_)
                              obtain ⟨r470, rfl, hr470, rfl, q469_0⟩ := hz467
                              replace q469_0 : (r470 = 1 ∧ σ 88 13 - σ 88 14 = (3 : Int) ∧ fM σ (σ 88 14) = (108 : Int) ∧ fM σ (σ 88 14 + 1) = (111 : Int) ∧ ((3 : Int) < 3 ∨ fM σ (σ 88 14 + 2) = (119 : Int)) ∧ ((3 : Int) < 4 ∨ fM σ (σ 88 14 + 3) = (0 : Int))) ∨ (r470 = 0 ∧ ¬ (σ 88 13 - σ 88 14 = (3 : Int) ∧ fM σ (σ 88 14) = (108 : Int) ∧ fM σ (σ 88 14 + 1) = (111 : Int) ∧ ((3 : Int) < 3 ∨ fM σ (σ 88 14 + 2) = (119 : Int)) ∧ ((3 : Int) < 4 ∨ fM σ (σ 88 14 + 3) = (0 : Int)))) := q469_0
                              refine j_st (st' := [vI r470]) rfl ?_
                              refine j_ifR_eq (pc := 267) (tgt := 275) ⟨by omega, by omega⟩ dX12_nameNow_267 rfl (fun h471 => ?_) (fun h471 => ?_)
                              · have z9 : ¬ nm (fM σ) (σ 88 14) (σ 88 13) 9 = 1 := by (have e := nmE_9 (fM σ) (σ 88 14) (σ 88 13)); omega
                                clear q469_0
                                have zl : lnm (fM σ) 1 (σ 88 14) (σ 88 13) = -1 := by unfold lnm; rw [if_neg (by decide)]; repeat (first | rw [if_pos (by omega)] | rw [if_neg (by omega)])
                                refine j_aload_n (pc := 275) dX12_nameNow_275 rfl rfl ?_
                                refine j_callV (pc := 276) (As := []) (st := []) (c_X12_withNow hM σ hI) mv_X12_111 rfl rfl rfl (a_88 hM) dX12_nameNow_276 ⟨Nat.le_of_ble_eq_true rfl, Nat.le_of_ble_eq_true rfl⟩ ⟨Nat.le_refl _, Nat.le_refl _⟩ rfl (Nat.le_of_ble_eq_true rfl) rfl (fun z472 σ473 hz472 => ?_)
                                obtain ⟨r475, rfl, hr475, rfl, q474_0, q474_1⟩ := hz472
                                replace q474_0 : r475 = -4 ∨ 20 ≤ r475 := q474_0
                                replace q474_1 : (r475 = -4 ∧ wnm (fM σ) 1 (σ 88 14) (σ 88 13) = -1) ∨ (r475 = 20 + wnm (fM σ) 1 (σ 88 14) (σ 88 13) ∧ 0 ≤ wnm (fM σ) 1 (σ 88 14) (σ 88 13) ∧ wnm (fM σ) 1 (σ 88 14) (σ 88 13) ≤ 3) := q474_1
                                refine j_st (st' := [vI r475]) rfl ?_
                                exact j_iret (pc := 279) ⟨rfl, rfl⟩ dX12_nameNow_279 rfl ⟨_, rfl, ⟨by omega, by omega⟩, rfl, by omega⟩
                              · have z9 : nm (fM σ) (σ 88 14) (σ 88 13) 9 = 1 := by (have e := nmE_9 (fM σ) (σ 88 14) (σ 88 13)); omega
                                clear q469_0
                                have zl : lnm (fM σ) 1 (σ 88 14) (σ 88 13) = 8 := by unfold lnm; rw [if_neg (by decide)]; repeat (first | rw [if_pos (by omega)] | rw [if_neg (by omega)])
                                refine j_bipush (pc := 270) dX12_nameNow_270 rfl ?_
                                refine j_goto (pc := 272) (tgt := 279) dX12_nameNow_272 rfl ?_
                                exact j_iret (pc := 279) ⟨rfl, rfl⟩ dX12_nameNow_279 rfl ⟨_, rfl, ⟨by omega, by omega⟩, rfl, by omega⟩
                            · have z8 : nm (fM σ) (σ 88 14) (σ 88 13) 8 = 1 := by (have e := nmE_8 (fM σ) (σ 88 14) (σ 88 13)); omega
                              clear q450_0 q464_0 q464_1
                              have zl : lnm (fM σ) 1 (σ 88 14) (σ 88 13) = 7 := by unfold lnm; rw [if_neg (by decide)]; repeat (first | rw [if_pos (by omega)] | rw [if_neg (by omega)])
                              refine j_bipush (pc := 252) dX12_nameNow_252 rfl ?_
                              exact j_iret (pc := 254) ⟨rfl, rfl⟩ dX12_nameNow_254 rfl ⟨_, rfl, ⟨by omega, by omega⟩, rfl, by omega⟩
                        · have z7 : nm (fM σ) (σ 88 14) (σ 88 13) 7 = 1 := by (have e := nmE_7 (fM σ) (σ 88 14) (σ 88 13)); omega
                          clear q445_0
                          have zl : lnm (fM σ) 1 (σ 88 14) (σ 88 13) = 5 := by unfold lnm; rw [if_neg (by decide)]; repeat (first | rw [if_pos (by omega)] | rw [if_neg (by omega)])
                          refine j_iconst (pc := 219) dX12_nameNow_219 ?_
                          exact j_iret (pc := 220) ⟨rfl, rfl⟩ dX12_nameNow_220 rfl ⟨_, rfl, ⟨by omega, by omega⟩, rfl, by omega⟩
                      · have z6 : nm (fM σ) (σ 88 14) (σ 88 13) 6 = 1 := by (have e := nmE_6 (fM σ) (σ 88 14) (σ 88 13)); omega
                        clear q440_0
                        have zl : lnm (fM σ) 1 (σ 88 14) (σ 88 13) = 4 := by unfold lnm; rw [if_neg (by decide)]; repeat (first | rw [if_pos (by omega)] | rw [if_neg (by omega)])
                        refine j_iconst (pc := 201) dX12_nameNow_201 ?_
                        exact j_iret (pc := 202) ⟨rfl, rfl⟩ dX12_nameNow_202 rfl ⟨_, rfl, ⟨by omega, by omega⟩, rfl, by omega⟩
                    · have z5 : nm (fM σ) (σ 88 14) (σ 88 13) 5 = 1 := by (have e := nmE_5 (fM σ) (σ 88 14) (σ 88 13)); omega
                      clear q435_0
                      have zl : lnm (fM σ) 1 (σ 88 14) (σ 88 13) = 3 := by unfold lnm; rw [if_neg (by decide)]; repeat (first | rw [if_pos (by omega)] | rw [if_neg (by omega)])
                      refine j_iconst (pc := 183) dX12_nameNow_183 ?_
                      exact j_iret (pc := 184) ⟨rfl, rfl⟩ dX12_nameNow_184 rfl ⟨_, rfl, ⟨by omega, by omega⟩, rfl, by omega⟩
                  · refine j_aload_n (pc := 150) dX12_nameNow_150 rfl rfl ?_
                    refine j_aload_n (pc := 151) dX12_nameNow_151 rfl rfl ?_
                    refine j_getI (pc := 152) fl_X12_94 dX12_nameNow_152 (a_88 hM) rfl ?_
                    refine j_iconst (pc := 155) dX12_nameNow_155 ?_
                    refine j_iadd (pc := 156) dX12_nameNow_156 ?_
                    refine j_callV (pc := 157) (As := [vI ((σ 88 14) + 4)]) (st := []) (c_X12_look hM ((σ 88 14) + 4) ⟨by omega, by omega⟩ σ hI) mv_X12_103 rfl rfl rfl (a_88 hM) dX12_nameNow_157 ⟨Nat.le_of_ble_eq_true rfl, Nat.le_of_ble_eq_true rfl⟩ ⟨Nat.le_refl _, Nat.le_refl _⟩ rfl (Nat.le_of_ble_eq_true rfl) rfl (fun z476 σ477 hz476 => ?_)
                    obtain ⟨r479, rfl, hr479, rfl, q478_0, q478_1⟩ := hz476
                    replace q478_0 : (((σ 88 14) + 4) < σ 88 12 ∧ r479 = σ 98 ((σ 88 14) + 4).toNat) ∨ (¬ ((σ 88 14) + 4) < σ 88 12 ∧ r479 = -1) := q478_0
                    replace q478_1 : r479 = fM σ ((σ 88 14) + 4) := q478_1
                    refine j_st (st' := [vI r479]) rfl ?_
                    refine j_bipush (pc := 160) dX12_nameNow_160 rfl ?_
                    refine j_icmpR_ne (pc := 162) (tgt := 167) ⟨by omega, by omega⟩ ⟨by omega, by omega⟩ dX12_nameNow_162 rfl (fun h480 => ?_) (fun h480 => ?_)
                    · have z4 : ¬ nm (fM σ) (σ 88 14) (σ 88 13) 4 = 1 := by (have e := nmE_4 (fM σ) (σ 88 14) (σ 88 13)); omega
                      clear q430_0 q478_0 q478_1
                      refine j_aload_n (pc := 167) dX12_nameNow_167 rfl rfl ?_
                      refine j_iconst (pc := 168) dX12_nameNow_168 ?_
                      refine j_bipush (pc := 169) dX12_nameNow_169 rfl ?_
                      refine j_bipush (pc := 171) dX12_nameNow_171 rfl ?_
                      refine j_bipush (pc := 173) dX12_nameNow_173 rfl ?_
                      refine j_bipush (pc := 175) dX12_nameNow_175 rfl ?_
                      refine j_callV (pc := 177) (As := [vI 4, vI 114, vI 111, vI 112, vI 101]) (st := []) (c_X12_is hM 4 (by (first | decide | exact ⟨by omega, by omega⟩)) 114 (by (first | decide | exact ⟨by omega, by omega⟩)) 111 (by (first | decide | exact ⟨by omega, by omega⟩)) 112 (by (first | decide | exact ⟨by omega, by omega⟩)) 101 (by (first | decide | exact ⟨by omega, by omega⟩)) σ hI) mv_X12_107 rfl rfl rfl (a_88 hM) dX12_nameNow_177 ⟨Nat.le_of_ble_eq_true rfl, Nat.le_of_ble_eq_true rfl⟩ ⟨Nat.le_refl _, Nat.le_refl _⟩ rfl (Nat.le_of_ble_eq_true rfl) rfl (fun z481 σ482 hz481 => ?_)
                      obtain ⟨r484, rfl, hr484, rfl, q483_0⟩ := hz481
                      replace q483_0 : (r484 = 1 ∧ σ 88 13 - σ 88 14 = (4 : Int) ∧ fM σ (σ 88 14) = (114 : Int) ∧ fM σ (σ 88 14 + 1) = (111 : Int) ∧ ((4 : Int) < 3 ∨ fM σ (σ 88 14 + 2) = (112 : Int)) ∧ ((4 : Int) < 4 ∨ fM σ (σ 88 14 + 3) = (101 : Int))) ∨ (r484 = 0 ∧ ¬ (σ 88 13 - σ 88 14 = (4 : Int) ∧ fM σ (σ 88 14) = (114 : Int) ∧ fM σ (σ 88 14 + 1) = (111 : Int) ∧ ((4 : Int) < 3 ∨ fM σ (σ 88 14 + 2) = (112 : Int)) ∧ ((4 : Int) < 4 ∨ fM σ (σ 88 14 + 3) = (101 : Int)))) := q483_0
                      refine j_st (st' := [vI r484]) rfl ?_
                      refine j_ifR_eq (pc := 180) (tgt := 185) ⟨by omega, by omega⟩ dX12_nameNow_180 rfl (fun h485 => ?_) (fun h485 => ?_)
                      · have z5 : ¬ nm (fM σ) (σ 88 14) (σ 88 13) 5 = 1 := by (have e := nmE_5 (fM σ) (σ 88 14) (σ 88 13)); omega
                        clear q483_0
                        refine j_aload_n (pc := 185) dX12_nameNow_185 rfl rfl ?_
                        refine j_iconst (pc := 186) dX12_nameNow_186 ?_
                        refine j_bipush (pc := 187) dX12_nameNow_187 rfl ?_
                        refine j_bipush (pc := 189) dX12_nameNow_189 rfl ?_
                        refine j_bipush (pc := 191) dX12_nameNow_191 rfl ?_
                        refine j_bipush (pc := 193) dX12_nameNow_193 rfl ?_
                        refine j_callV (pc := 195) (As := [vI 4, vI 103, vI 105, vI 118, vI 101]) (st := []) (c_X12_is hM 4 (by (first | decide | exact ⟨by omega, by omega⟩)) 103 (by (first | decide | exact ⟨by omega, by omega⟩)) 105 (by (first | decide | exact ⟨by omega, by omega⟩)) 118 (by (first | decide | exact ⟨by omega, by omega⟩)) 101 (by (first | decide | exact ⟨by omega, by omega⟩)) σ hI) mv_X12_107 rfl rfl rfl (a_88 hM) dX12_nameNow_195 ⟨Nat.le_of_ble_eq_true rfl, Nat.le_of_ble_eq_true rfl⟩ ⟨Nat.le_refl _, Nat.le_refl _⟩ rfl (Nat.le_of_ble_eq_true rfl) rfl (fun z486 σ487 hz486 => ?_)
                        obtain ⟨r489, rfl, hr489, rfl, q488_0⟩ := hz486
                        replace q488_0 : (r489 = 1 ∧ σ 88 13 - σ 88 14 = (4 : Int) ∧ fM σ (σ 88 14) = (103 : Int) ∧ fM σ (σ 88 14 + 1) = (105 : Int) ∧ ((4 : Int) < 3 ∨ fM σ (σ 88 14 + 2) = (118 : Int)) ∧ ((4 : Int) < 4 ∨ fM σ (σ 88 14 + 3) = (101 : Int))) ∨ (r489 = 0 ∧ ¬ (σ 88 13 - σ 88 14 = (4 : Int) ∧ fM σ (σ 88 14) = (103 : Int) ∧ fM σ (σ 88 14 + 1) = (105 : Int) ∧ ((4 : Int) < 3 ∨ fM σ (σ 88 14 + 2) = (118 : Int)) ∧ ((4 : Int) < 4 ∨ fM σ (σ 88 14 + 3) = (101 : Int)))) := q488_0
                        refine j_st (st' := [vI r489]) rfl ?_
                        refine j_ifR_eq (pc := 198) (tgt := 203) ⟨by omega, by omega⟩ dX12_nameNow_198 rfl (fun h490 => ?_) (fun h490 => ?_)
                        · have z6 : ¬ nm (fM σ) (σ 88 14) (σ 88 13) 6 = 1 := by (have e := nmE_6 (fM σ) (σ 88 14) (σ 88 13)); omega
                          clear q488_0
                          refine j_aload_n (pc := 203) dX12_nameNow_203 rfl rfl ?_
                          refine j_iconst (pc := 204) dX12_nameNow_204 ?_
                          refine j_bipush (pc := 205) dX12_nameNow_205 rfl ?_
                          refine j_bipush (pc := 207) dX12_nameNow_207 rfl ?_
                          refine j_bipush (pc := 209) dX12_nameNow_209 rfl ?_
                          refine j_bipush (pc := 211) dX12_nameNow_211 rfl ?_
                          refine j_callV (pc := 213) (As := [vI 4, vI 102, vI 105, vI 116, vI 115]) (st := []) (c_X12_is hM 4 (by (first | decide | exact ⟨by omega, by omega⟩)) 102 (by (first | decide | exact ⟨by omega, by omega⟩)) 105 (by (first | decide | exact ⟨by omega, by omega⟩)) 116 (by (first | decide | exact ⟨by omega, by omega⟩)) 115 (by (first | decide | exact ⟨by omega, by omega⟩)) σ hI) mv_X12_107 rfl rfl rfl (a_88 hM) dX12_nameNow_213 ⟨Nat.le_of_ble_eq_true rfl, Nat.le_of_ble_eq_true rfl⟩ ⟨Nat.le_refl _, Nat.le_refl _⟩ rfl (Nat.le_of_ble_eq_true rfl) rfl (fun z491 σ492 hz491 => ?_)
                          obtain ⟨r494, rfl, hr494, rfl, q493_0⟩ := hz491
                          replace q493_0 : (r494 = 1 ∧ σ 88 13 - σ 88 14 = (4 : Int) ∧ fM σ (σ 88 14) = (102 : Int) ∧ fM σ (σ 88 14 + 1) = (105 : Int) ∧ ((4 : Int) < 3 ∨ fM σ (σ 88 14 + 2) = (116 : Int)) ∧ ((4 : Int) < 4 ∨ fM σ (σ 88 14 + 3) = (115 : Int))) ∨ (r494 = 0 ∧ ¬ (σ 88 13 - σ 88 14 = (4 : Int) ∧ fM σ (σ 88 14) = (102 : Int) ∧ fM σ (σ 88 14 + 1) = (105 : Int) ∧ ((4 : Int) < 3 ∨ fM σ (σ 88 14 + 2) = (116 : Int)) ∧ ((4 : Int) < 4 ∨ fM σ (σ 88 14 + 3) = (115 : Int)))) := q493_0
                          refine j_st (st' := [vI r494]) rfl ?_
                          refine j_ifR_eq (pc := 216) (tgt := 221) ⟨by omega, by omega⟩ dX12_nameNow_216 rfl (fun h495 => ?_) (fun h495 => ?_)
                          · have z7 : ¬ nm (fM σ) (σ 88 14) (σ 88 13) 7 = 1 := by (have e := nmE_7 (fM σ) (σ 88 14) (σ 88 13)); omega
                            clear q493_0
                            refine j_aload_n (pc := 221) dX12_nameNow_221 rfl rfl ?_
                            refine j_iconst (pc := 222) dX12_nameNow_222 ?_
                            refine j_bipush (pc := 223) dX12_nameNow_223 rfl ?_
                            refine j_bipush (pc := 225) dX12_nameNow_225 rfl ?_
                            refine j_bipush (pc := 227) dX12_nameNow_227 rfl ?_
                            refine j_bipush (pc := 229) dX12_nameNow_229 rfl ?_
                            refine j_callV (pc := 231) (As := [vI 5, vI 104, vI 111, vI 108, vI 100]) (st := []) (c_X12_is hM 5 (by (first | decide | exact ⟨by omega, by omega⟩)) 104 (by (first | decide | exact ⟨by omega, by omega⟩)) 111 (by (first | decide | exact ⟨by omega, by omega⟩)) 108 (by (first | decide | exact ⟨by omega, by omega⟩)) 100 (by (first | decide | exact ⟨by omega, by omega⟩)) σ hI) mv_X12_107 rfl rfl rfl (a_88 hM) dX12_nameNow_231 ⟨Nat.le_of_ble_eq_true rfl, Nat.le_of_ble_eq_true rfl⟩ ⟨Nat.le_refl _, Nat.le_refl _⟩ rfl (Nat.le_of_ble_eq_true rfl) rfl (fun z496 σ497 hz496 => ?_)
                            obtain ⟨r499, rfl, hr499, rfl, q498_0⟩ := hz496
                            replace q498_0 : (r499 = 1 ∧ σ 88 13 - σ 88 14 = (5 : Int) ∧ fM σ (σ 88 14) = (104 : Int) ∧ fM σ (σ 88 14 + 1) = (111 : Int) ∧ ((5 : Int) < 3 ∨ fM σ (σ 88 14 + 2) = (108 : Int)) ∧ ((5 : Int) < 4 ∨ fM σ (σ 88 14 + 3) = (100 : Int))) ∨ (r499 = 0 ∧ ¬ (σ 88 13 - σ 88 14 = (5 : Int) ∧ fM σ (σ 88 14) = (104 : Int) ∧ fM σ (σ 88 14 + 1) = (111 : Int) ∧ ((5 : Int) < 3 ∨ fM σ (σ 88 14 + 2) = (108 : Int)) ∧ ((5 : Int) < 4 ∨ fM σ (σ 88 14 + 3) = (100 : Int)))) := q498_0
                            refine j_st (st' := [vI r499]) rfl ?_
                            refine j_ifR_eq (pc := 234) (tgt := 255) ⟨by omega, by omega⟩ dX12_nameNow_234 rfl (fun h500 => ?_) (fun h500 => ?_)
                            · have z8 : ¬ nm (fM σ) (σ 88 14) (σ 88 13) 8 = 1 := by (have e := nmE_8 (fM σ) (σ 88 14) (σ 88 13)); omega
                              clear q498_0
                              refine j_aload_n (pc := 255) dX12_nameNow_255 rfl rfl ?_
                              refine j_iconst (pc := 256) dX12_nameNow_256 ?_
                              refine j_bipush (pc := 257) dX12_nameNow_257 rfl ?_
                              refine j_bipush (pc := 259) dX12_nameNow_259 rfl ?_
                              refine j_bipush (pc := 261) dX12_nameNow_261 rfl ?_
                              refine j_iconst (pc := 263) dX12_nameNow_263 ?_
                              refine j_callV (pc := 264) (As := [vI 3, vI 108, vI 111, vI 119, vI 0]) (st := []) (c_X12_is hM 3 (by (first | decide | exact ⟨by omega, by omega⟩)) 108 (by (first | decide | exact ⟨by omega, by omega⟩)) 111 (by (first | decide | exact ⟨by omega, by omega⟩)) 119 (by (first | decide | exact ⟨by omega, by omega⟩)) 0 (by (first | decide | exact ⟨by omega, by omega⟩)) σ hI) mv_X12_107 rfl rfl rfl (a_88 hM) dX12_nameNow_264 ⟨Nat.le_of_ble_eq_true rfl, Nat.le_of_ble_eq_true rfl⟩ ⟨Nat.le_refl _, Nat.le_refl _⟩ rfl (Nat.le_of_ble_eq_true rfl) rfl (fun z501 σ502 hz501 => ?_)
                              obtain ⟨r504, rfl, hr504, rfl, q503_0⟩ := hz501
                              replace q503_0 : (r504 = 1 ∧ σ 88 13 - σ 88 14 = (3 : Int) ∧ fM σ (σ 88 14) = (108 : Int) ∧ fM σ (σ 88 14 + 1) = (111 : Int) ∧ ((3 : Int) < 3 ∨ fM σ (σ 88 14 + 2) = (119 : Int)) ∧ ((3 : Int) < 4 ∨ fM σ (σ 88 14 + 3) = (0 : Int))) ∨ (r504 = 0 ∧ ¬ (σ 88 13 - σ 88 14 = (3 : Int) ∧ fM σ (σ 88 14) = (108 : Int) ∧ fM σ (σ 88 14 + 1) = (111 : Int) ∧ ((3 : Int) < 3 ∨ fM σ (σ 88 14 + 2) = (119 : Int)) ∧ ((3 : Int) < 4 ∨ fM σ (σ 88 14 + 3) = (0 : Int)))) := q503_0
                              refine j_st (st' := [vI r504]) rfl ?_
                              refine j_ifR_eq (pc := 267) (tgt := 275) ⟨by omega, by omega⟩ dX12_nameNow_267 rfl (fun h505 => ?_) (fun h505 => ?_)
                              · have z9 : ¬ nm (fM σ) (σ 88 14) (σ 88 13) 9 = 1 := by (have e := nmE_9 (fM σ) (σ 88 14) (σ 88 13)); omega
                                clear q503_0
                                have zl : lnm (fM σ) 1 (σ 88 14) (σ 88 13) = -1 := by unfold lnm; rw [if_neg (by decide)]; repeat (first | rw [if_pos (by omega)] | rw [if_neg (by omega)])
                                refine j_aload_n (pc := 275) dX12_nameNow_275 rfl rfl ?_
                                refine j_callV (pc := 276) (As := []) (st := []) (c_X12_withNow hM σ hI) mv_X12_111 rfl rfl rfl (a_88 hM) dX12_nameNow_276 ⟨Nat.le_of_ble_eq_true rfl, Nat.le_of_ble_eq_true rfl⟩ ⟨Nat.le_refl _, Nat.le_refl _⟩ rfl (Nat.le_of_ble_eq_true rfl) rfl (fun z506 σ507 hz506 => ?_)
                                obtain ⟨r509, rfl, hr509, rfl, q508_0, q508_1⟩ := hz506
                                replace q508_0 : r509 = -4 ∨ 20 ≤ r509 := q508_0
                                replace q508_1 : (r509 = -4 ∧ wnm (fM σ) 1 (σ 88 14) (σ 88 13) = -1) ∨ (r509 = 20 + wnm (fM σ) 1 (σ 88 14) (σ 88 13) ∧ 0 ≤ wnm (fM σ) 1 (σ 88 14) (σ 88 13) ∧ wnm (fM σ) 1 (σ 88 14) (σ 88 13) ≤ 3) := q508_1
                                refine j_st (st' := [vI r509]) rfl ?_
                                exact j_iret (pc := 279) ⟨rfl, rfl⟩ dX12_nameNow_279 rfl ⟨_, rfl, ⟨by omega, by omega⟩, rfl, by omega⟩
                              · have z9 : nm (fM σ) (σ 88 14) (σ 88 13) 9 = 1 := by (have e := nmE_9 (fM σ) (σ 88 14) (σ 88 13)); omega
                                clear q503_0
                                have zl : lnm (fM σ) 1 (σ 88 14) (σ 88 13) = 8 := by unfold lnm; rw [if_neg (by decide)]; repeat (first | rw [if_pos (by omega)] | rw [if_neg (by omega)])
                                refine j_bipush (pc := 270) dX12_nameNow_270 rfl ?_
                                refine j_goto (pc := 272) (tgt := 279) dX12_nameNow_272 rfl ?_
                                exact j_iret (pc := 279) ⟨rfl, rfl⟩ dX12_nameNow_279 rfl ⟨_, rfl, ⟨by omega, by omega⟩, rfl, by omega⟩
                            · refine j_aload_n (pc := 237) dX12_nameNow_237 rfl rfl ?_
                              refine j_aload_n (pc := 238) dX12_nameNow_238 rfl rfl ?_
                              refine j_getI (pc := 239) fl_X12_94 dX12_nameNow_239 (a_88 hM) rfl ?_
                              refine j_iconst (pc := 242) dX12_nameNow_242 ?_
                              refine j_iadd (pc := 243) dX12_nameNow_243 ?_
                              refine j_callV (pc := 244) (As := [vI ((σ 88 14) + 4)]) (st := []) (c_X12_look hM ((σ 88 14) + 4) ⟨by omega, by omega⟩ σ hI) mv_X12_103 rfl rfl rfl (a_88 hM) dX12_nameNow_244 ⟨Nat.le_of_ble_eq_true rfl, Nat.le_of_ble_eq_true rfl⟩ ⟨Nat.le_refl _, Nat.le_refl _⟩ rfl (Nat.le_of_ble_eq_true rfl) rfl (fun z510 σ511 hz510 => ?_)
                              obtain ⟨r513, rfl, hr513, rfl, q512_0, q512_1⟩ := hz510
                              replace q512_0 : (((σ 88 14) + 4) < σ 88 12 ∧ r513 = σ 98 ((σ 88 14) + 4).toNat) ∨ (¬ ((σ 88 14) + 4) < σ 88 12 ∧ r513 = -1) := q512_0
                              replace q512_1 : r513 = fM σ ((σ 88 14) + 4) := q512_1
                              refine j_st (st' := [vI r513]) rfl ?_
                              refine j_bipush (pc := 247) dX12_nameNow_247 rfl ?_
                              refine j_icmpR_ne (pc := 249) (tgt := 255) ⟨by omega, by omega⟩ ⟨by omega, by omega⟩ dX12_nameNow_249 rfl (fun h514 => ?_) (fun h514 => ?_)
                              · have z8 : ¬ nm (fM σ) (σ 88 14) (σ 88 13) 8 = 1 := by (have e := nmE_8 (fM σ) (σ 88 14) (σ 88 13)); omega
                                clear q498_0 q512_0 q512_1
                                refine j_aload_n (pc := 255) dX12_nameNow_255 rfl rfl ?_
                                refine j_iconst (pc := 256) dX12_nameNow_256 ?_
                                refine j_bipush (pc := 257) dX12_nameNow_257 rfl ?_
                                refine j_bipush (pc := 259) dX12_nameNow_259 rfl ?_
                                refine j_bipush (pc := 261) dX12_nameNow_261 rfl ?_
                                refine j_iconst (pc := 263) dX12_nameNow_263 ?_
                                refine j_callV (pc := 264) (As := [vI 3, vI 108, vI 111, vI 119, vI 0]) (st := []) (c_X12_is hM 3 (by (first | decide | exact ⟨by omega, by omega⟩)) 108 (by (first | decide | exact ⟨by omega, by omega⟩)) 111 (by (first | decide | exact ⟨by omega, by omega⟩)) 119 (by (first | decide | exact ⟨by omega, by omega⟩)) 0 (by (first | decide | exact ⟨by omega, by omega⟩)) σ hI) mv_X12_107 rfl rfl rfl (a_88 hM) dX12_nameNow_264 ⟨Nat.le_of_ble_eq_true rfl, Nat.le_of_ble_eq_true rfl⟩ ⟨Nat.le_refl _, Nat.le_refl _⟩ rfl (Nat.le_of_ble_eq_true rfl) rfl (fun z515 σ516 hz515 => ?_)
                                obtain ⟨r518, rfl, hr518, rfl, q517_0⟩ := hz515
                                replace q517_0 : (r518 = 1 ∧ σ 88 13 - σ 88 14 = (3 : Int) ∧ fM σ (σ 88 14) = (108 : Int) ∧ fM σ (σ 88 14 + 1) = (111 : Int) ∧ ((3 : Int) < 3 ∨ fM σ (σ 88 14 + 2) = (119 : Int)) ∧ ((3 : Int) < 4 ∨ fM σ (σ 88 14 + 3) = (0 : Int))) ∨ (r518 = 0 ∧ ¬ (σ 88 13 - σ 88 14 = (3 : Int) ∧ fM σ (σ 88 14) = (108 : Int) ∧ fM σ (σ 88 14 + 1) = (111 : Int) ∧ ((3 : Int) < 3 ∨ fM σ (σ 88 14 + 2) = (119 : Int)) ∧ ((3 : Int) < 4 ∨ fM σ (σ 88 14 + 3) = (0 : Int)))) := q517_0
                                refine j_st (st' := [vI r518]) rfl ?_
                                refine j_ifR_eq (pc := 267) (tgt := 275) ⟨by omega, by omega⟩ dX12_nameNow_267 rfl (fun h519 => ?_) (fun h519 => ?_)
                                · have z9 : ¬ nm (fM σ) (σ 88 14) (σ 88 13) 9 = 1 := by (have e := nmE_9 (fM σ) (σ 88 14) (σ 88 13)); omega
                                  clear q517_0
                                  have zl : lnm (fM σ) 1 (σ 88 14) (σ 88 13) = -1 := by unfold lnm; rw [if_neg (by decide)]; repeat (first | rw [if_pos (by omega)] | rw [if_neg (by omega)])
                                  refine j_aload_n (pc := 275) dX12_nameNow_275 rfl rfl ?_
                                  refine j_callV (pc := 276) (As := []) (st := []) (c_X12_withNow hM σ hI) mv_X12_111 rfl rfl rfl (a_88 hM) dX12_nameNow_276 ⟨Nat.le_of_ble_eq_true rfl, Nat.le_of_ble_eq_true rfl⟩ ⟨Nat.le_refl _, Nat.le_refl _⟩ rfl (Nat.le_of_ble_eq_true rfl) rfl (fun z520 σ521 hz520 => ?_)
                                  obtain ⟨r523, rfl, hr523, rfl, q522_0, q522_1⟩ := hz520
                                  replace q522_0 : r523 = -4 ∨ 20 ≤ r523 := q522_0
                                  replace q522_1 : (r523 = -4 ∧ wnm (fM σ) 1 (σ 88 14) (σ 88 13) = -1) ∨ (r523 = 20 + wnm (fM σ) 1 (σ 88 14) (σ 88 13) ∧ 0 ≤ wnm (fM σ) 1 (σ 88 14) (σ 88 13) ∧ wnm (fM σ) 1 (σ 88 14) (σ 88 13) ≤ 3) := q522_1
                                  refine j_st (st' := [vI r523]) rfl ?_
                                  exact j_iret (pc := 279) ⟨rfl, rfl⟩ dX12_nameNow_279 rfl ⟨_, rfl, ⟨by omega, by omega⟩, rfl, by omega⟩
                                · have z9 : nm (fM σ) (σ 88 14) (σ 88 13) 9 = 1 := by (have e := nmE_9 (fM σ) (σ 88 14) (σ 88 13)); omega
                                  clear q517_0
                                  have zl : lnm (fM σ) 1 (σ 88 14) (σ 88 13) = 8 := by unfold lnm; rw [if_neg (by decide)]; repeat (first | rw [if_pos (by omega)] | rw [if_neg (by omega)])
                                  refine j_bipush (pc := 270) dX12_nameNow_270 rfl ?_
                                  refine j_goto (pc := 272) (tgt := 279) dX12_nameNow_272 rfl ?_
                                  exact j_iret (pc := 279) ⟨rfl, rfl⟩ dX12_nameNow_279 rfl ⟨_, rfl, ⟨by omega, by omega⟩, rfl, by omega⟩
                              · have z8 : nm (fM σ) (σ 88 14) (σ 88 13) 8 = 1 := by (have e := nmE_8 (fM σ) (σ 88 14) (σ 88 13)); omega
                                clear q498_0 q512_0 q512_1
                                have zl : lnm (fM σ) 1 (σ 88 14) (σ 88 13) = 7 := by unfold lnm; rw [if_neg (by decide)]; repeat (first | rw [if_pos (by omega)] | rw [if_neg (by omega)])
                                refine j_bipush (pc := 252) dX12_nameNow_252 rfl ?_
                                exact j_iret (pc := 254) ⟨rfl, rfl⟩ dX12_nameNow_254 rfl ⟨_, rfl, ⟨by omega, by omega⟩, rfl, by omega⟩
                          · have z7 : nm (fM σ) (σ 88 14) (σ 88 13) 7 = 1 := by (have e := nmE_7 (fM σ) (σ 88 14) (σ 88 13)); omega
                            clear q493_0
                            have zl : lnm (fM σ) 1 (σ 88 14) (σ 88 13) = 5 := by unfold lnm; rw [if_neg (by decide)]; repeat (first | rw [if_pos (by omega)] | rw [if_neg (by omega)])
                            refine j_iconst (pc := 219) dX12_nameNow_219 ?_
                            exact j_iret (pc := 220) ⟨rfl, rfl⟩ dX12_nameNow_220 rfl ⟨_, rfl, ⟨by omega, by omega⟩, rfl, by omega⟩
                        · have z6 : nm (fM σ) (σ 88 14) (σ 88 13) 6 = 1 := by (have e := nmE_6 (fM σ) (σ 88 14) (σ 88 13)); omega
                          clear q488_0
                          have zl : lnm (fM σ) 1 (σ 88 14) (σ 88 13) = 4 := by unfold lnm; rw [if_neg (by decide)]; repeat (first | rw [if_pos (by omega)] | rw [if_neg (by omega)])
                          refine j_iconst (pc := 201) dX12_nameNow_201 ?_
                          exact j_iret (pc := 202) ⟨rfl, rfl⟩ dX12_nameNow_202 rfl ⟨_, rfl, ⟨by omega, by omega⟩, rfl, by omega⟩
                      · have z5 : nm (fM σ) (σ 88 14) (σ 88 13) 5 = 1 := by (have e := nmE_5 (fM σ) (σ 88 14) (σ 88 13)); omega
                        clear q483_0
                        have zl : lnm (fM σ) 1 (σ 88 14) (σ 88 13) = 3 := by unfold lnm; rw [if_neg (by decide)]; repeat (first | rw [if_pos (by omega)] | rw [if_neg (by omega)])
                        refine j_iconst (pc := 183) dX12_nameNow_183 ?_
                        exact j_iret (pc := 184) ⟨rfl, rfl⟩ dX12_nameNow_184 rfl ⟨_, rfl, ⟨by omega, by omega⟩, rfl, by omega⟩
                    · have z4 : nm (fM σ) (σ 88 14) (σ 88 13) 4 = 1 := by (have e := nmE_4 (fM σ) (σ 88 14) (σ 88 13)); omega
                      clear q430_0 q478_0 q478_1
                      have zl : lnm (fM σ) 1 (σ 88 14) (σ 88 13) = 2 := by unfold lnm; rw [if_neg (by decide)]; repeat (first | rw [if_pos (by omega)] | rw [if_neg (by omega)])
                      refine j_iconst (pc := 165) dX12_nameNow_165 ?_
                      exact j_iret (pc := 166) ⟨rfl, rfl⟩ dX12_nameNow_166 rfl ⟨_, rfl, ⟨by omega, by omega⟩, rfl, by omega⟩
                · have z3 : nm (fM σ) (σ 88 14) (σ 88 13) 3 = 1 := by (have e := nmE_3 (fM σ) (σ 88 14) (σ 88 13)); omega
                  clear q18_0 q122_0 q122_1 q223_0 q223_1 q324_0 q324_1 q425_0 q425_1
                  have zl : lnm (fM σ) 1 (σ 88 14) (σ 88 13) = 1 := by unfold lnm; rw [if_neg (by decide)]; repeat (first | rw [if_pos (by omega)] | rw [if_neg (by omega)])
                  refine j_iconst (pc := 132) dX12_nameNow_132 ?_
                  exact j_iret (pc := 133) ⟨rfl, rfl⟩ dX12_nameNow_133 rfl ⟨_, rfl, ⟨by omega, by omega⟩, rfl, by omega⟩
      · have z2 : nm (fM σ) (σ 88 14) (σ 88 13) 2 = 1 := by (have e := nmE_2 (fM σ) (σ 88 14) (σ 88 13)); omega
        clear q13_0
        have zl : lnm (fM σ) 1 (σ 88 14) (σ 88 13) = 0 := by unfold lnm; rw [if_neg (by decide)]; repeat (first | rw [if_pos (by omega)] | rw [if_neg (by omega)])
        refine j_iconst (pc := 51) dX12_nameNow_51 ?_
        exact j_iret (pc := 52) ⟨rfl, rfl⟩ dX12_nameNow_52 rfl ⟨_, rfl, ⟨by omega, by omega⟩, rfl, by omega⟩
    · have z1 : nm (fM σ) (σ 88 14) (σ 88 13) 1 = 1 := by (have e := nmE_1 (fM σ) (σ 88 14) (σ 88 13)); omega
      clear q8_0
      have zl : lnm (fM σ) 1 (σ 88 14) (σ 88 13) = 10 := by unfold lnm; rw [if_neg (by decide)]; repeat (first | rw [if_pos (by omega)] | rw [if_neg (by omega)])
      refine j_bipush (pc := 33) dX12_nameNow_33 rfl ?_
      exact j_iret (pc := 35) ⟨rfl, rfl⟩ dX12_nameNow_35 rfl ⟨_, rfl, ⟨by omega, by omega⟩, rfl, by omega⟩
  · have z0 : nm (fM σ) (σ 88 14) (σ 88 13) 0 = 1 := by (have e := nmE_0 (fM σ) (σ 88 14) (σ 88 13)); omega
    clear q3_0
    have zl : lnm (fM σ) 1 (σ 88 14) (σ 88 13) = 9 := by unfold lnm; rw [if_neg (by decide)]; repeat (first | rw [if_pos (by omega)] | rw [if_neg (by omega)])
    refine j_bipush (pc := 14) dX12_nameNow_14 rfl ?_
    exact j_iret (pc := 16) ⟨rfl, rfl⟩ dX12_nameNow_16 rfl ⟨_, rfl, ⟨by omega, by omega⟩, rfl, by omega⟩
