/-! 30ad.model -/
theorem dX12_leads_0 : decode cX12_leads 0 = .ok (.iload_n 1, 1) := by decide +kernel
theorem dX12_leads_1 : decode cX12_leads 1 = .ok (.i2l, 1) := by decide +kernel
theorem dX12_leads_2 : decode cX12_leads 2 = .ok (.lconst 1, 1) := by decide +kernel
theorem dX12_leads_3 : decode cX12_leads 3 = .ok (.ldc2_w 337, 3) := by decide +kernel
theorem dX12_leads_6 : decode cX12_leads 6 = .ok (.invokestatic 82, 3) := by decide +kernel
theorem dX12_leads_9 : decode cX12_leads 9 = .ok (.ifCond .eq 35, 3) := by decide +kernel
theorem dX12_leads_12 : decode cX12_leads 12 = .ok (.iload_n 2, 1) := by decide +kernel
theorem dX12_leads_13 : decode cX12_leads 13 = .ok (.i2l, 1) := by decide +kernel
theorem dX12_leads_14 : decode cX12_leads 14 = .ok (.lconst 1, 1) := by decide +kernel
theorem dX12_leads_15 : decode cX12_leads 15 = .ok (.ldc2_w 337, 3) := by decide +kernel
theorem dX12_leads_18 : decode cX12_leads 18 = .ok (.invokestatic 82, 3) := by decide +kernel
theorem dX12_leads_21 : decode cX12_leads 21 = .ok (.ifCond .eq 23, 3) := by decide +kernel
theorem dX12_leads_24 : decode cX12_leads 24 = .ok (.iload 4, 2) := by decide +kernel
theorem dX12_leads_26 : decode cX12_leads 26 = .ok (.ifCond .eq 20, 3) := by decide +kernel
theorem dX12_leads_29 : decode cX12_leads 29 = .ok (.iload 4, 2) := by decide +kernel
theorem dX12_leads_31 : decode cX12_leads 31 = .ok (.i2l, 1) := by decide +kernel
theorem dX12_leads_32 : decode cX12_leads 32 = .ok (.ldc2_w 187, 3) := by decide +kernel
theorem dX12_leads_35 : decode cX12_leads 35 = .ok (.ldc2_w 329, 3) := by decide +kernel
theorem dX12_leads_38 : decode cX12_leads 38 = .ok (.invokestatic 82, 3) := by decide +kernel
theorem dX12_leads_41 : decode cX12_leads 41 = .ok (.ifCond .ne 5, 3) := by decide +kernel
theorem dX12_leads_44 : decode cX12_leads 44 = .ok (.iconst (-1), 1) := by decide +kernel
theorem dX12_leads_45 : decode cX12_leads 45 = .ok (.ireturn, 1) := by decide +kernel
theorem dX12_leads_46 : decode cX12_leads 46 = .ok (.aload_n 0, 1) := by decide +kernel
theorem dX12_leads_47 : decode cX12_leads 47 = .ok (.invokevirtual 331, 3) := by decide +kernel
theorem dX12_leads_50 : decode cX12_leads 50 = .ok (.aload_n 0, 1) := by decide +kernel
theorem dX12_leads_51 : decode cX12_leads 51 = .ok (.getfield 326, 3) := by decide +kernel
theorem dX12_leads_54 : decode cX12_leads 54 = .ok (.bipush (-4), 2) := by decide +kernel
theorem dX12_leads_56 : decode cX12_leads 56 = .ok (.if_icmp .ne 6, 3) := by decide +kernel
theorem dX12_leads_59 : decode cX12_leads 59 = .ok (.bipush (-4), 2) := by decide +kernel
theorem dX12_leads_61 : decode cX12_leads 61 = .ok (.ireturn, 1) := by decide +kernel
theorem dX12_leads_62 : decode cX12_leads 62 = .ok (.iload 4, 2) := by decide +kernel
theorem dX12_leads_64 : decode cX12_leads 64 = .ok (.ifCond .eq 17, 3) := by decide +kernel
theorem dX12_leads_67 : decode cX12_leads 67 = .ok (.iload 4, 2) := by decide +kernel
theorem dX12_leads_69 : decode cX12_leads 69 = .ok (.bipush 10, 2) := by decide +kernel
theorem dX12_leads_71 : decode cX12_leads 71 = .ok (.isub, 1) := by decide +kernel
theorem dX12_leads_72 : decode cX12_leads 72 = .ok (.aload_n 0, 1) := by decide +kernel
theorem dX12_leads_73 : decode cX12_leads 73 = .ok (.getfield 326, 3) := by decide +kernel
theorem dX12_leads_76 : decode cX12_leads 76 = .ok (.if_icmp .lt 5, 3) := by decide +kernel
theorem dX12_leads_79 : decode cX12_leads 79 = .ok (.iconst (-1), 1) := by decide +kernel
theorem dX12_leads_80 : decode cX12_leads 80 = .ok (.ireturn, 1) := by decide +kernel
theorem dX12_leads_81 : decode cX12_leads 81 = .ok (.iload_n 3, 1) := by decide +kernel
theorem dX12_leads_82 : decode cX12_leads 82 = .ok (.ifCond .eq 54, 3) := by decide +kernel
theorem dX12_leads_85 : decode cX12_leads 85 = .ok (.aload_n 0, 1) := by decide +kernel
theorem dX12_leads_86 : decode cX12_leads 86 = .ok (.iload_n 1, 1) := by decide +kernel
theorem dX12_leads_87 : decode cX12_leads 87 = .ok (.iload_n 2, 1) := by decide +kernel
theorem dX12_leads_88 : decode cX12_leads 88 = .ok (.iconst 1, 1) := by decide +kernel
theorem dX12_leads_89 : decode cX12_leads 89 = .ok (.invokevirtual 339, 3) := by decide +kernel
theorem dX12_leads_92 : decode cX12_leads 92 = .ok (.aload_n 0, 1) := by decide +kernel
theorem dX12_leads_93 : decode cX12_leads 93 = .ok (.iload_n 1, 1) := by decide +kernel
theorem dX12_leads_94 : decode cX12_leads 94 = .ok (.iload_n 2, 1) := by decide +kernel
theorem dX12_leads_95 : decode cX12_leads 95 = .ok (.iconst 0, 1) := by decide +kernel
theorem dX12_leads_96 : decode cX12_leads 96 = .ok (.invokevirtual 339, 3) := by decide +kernel
theorem dX12_leads_99 : decode cX12_leads 99 = .ok (.if_icmp .ge 7, 3) := by decide +kernel
theorem dX12_leads_102 : decode cX12_leads 102 = .ok (.iconst 1, 1) := by decide +kernel
theorem dX12_leads_103 : decode cX12_leads 103 = .ok (.goto 4, 3) := by decide +kernel
theorem dX12_leads_106 : decode cX12_leads 106 = .ok (.iconst 0, 1) := by decide +kernel
theorem dX12_leads_107 : decode cX12_leads 107 = .ok (.istore 5, 2) := by decide +kernel
theorem dX12_leads_109 : decode cX12_leads 109 = .ok (.iload 4, 2) := by decide +kernel
theorem dX12_leads_111 : decode cX12_leads 111 = .ok (.ifCond .ne 14, 3) := by decide +kernel
theorem dX12_leads_114 : decode cX12_leads 114 = .ok (.aload_n 0, 1) := by decide +kernel
theorem dX12_leads_115 : decode cX12_leads 115 = .ok (.iload_n 1, 1) := by decide +kernel
theorem dX12_leads_116 : decode cX12_leads 116 = .ok (.iload_n 2, 1) := by decide +kernel
theorem dX12_leads_117 : decode cX12_leads 117 = .ok (.iload 5, 2) := by decide +kernel
theorem dX12_leads_119 : decode cX12_leads 119 = .ok (.invokevirtual 339, 3) := by decide +kernel
theorem dX12_leads_122 : decode cX12_leads 122 = .ok (.goto 13, 3) := by decide +kernel
theorem dX12_leads_125 : decode cX12_leads 125 = .ok (.iload 4, 2) := by decide +kernel
theorem dX12_leads_127 : decode cX12_leads 127 = .ok (.bipush 10, 2) := by decide +kernel
theorem dX12_leads_129 : decode cX12_leads 129 = .ok (.isub, 1) := by decide +kernel
theorem dX12_leads_130 : decode cX12_leads 130 = .ok (.iload 5, 2) := by decide +kernel
theorem dX12_leads_132 : decode cX12_leads 132 = .ok (.iadd, 1) := by decide +kernel
theorem dX12_leads_133 : decode cX12_leads 133 = .ok (.iconst 2, 1) := by decide +kernel
theorem dX12_leads_134 : decode cX12_leads 134 = .ok (.irem, 1) := by decide +kernel
theorem dX12_leads_135 : decode cX12_leads 135 = .ok (.ireturn, 1) := by decide +kernel
theorem dX12_leads_136 : decode cX12_leads 136 = .ok (.iconst 0, 1) := by decide +kernel
theorem dX12_leads_137 : decode cX12_leads 137 = .ok (.istore 5, 2) := by decide +kernel
theorem dX12_leads_139 : decode cX12_leads 139 = .ok (.iconst 0, 1) := by decide +kernel
theorem dX12_leads_140 : decode cX12_leads 140 = .ok (.istore 6, 2) := by decide +kernel
theorem dX12_leads_142 : decode cX12_leads 142 = .ok (.iload 6, 2) := by decide +kernel
theorem dX12_leads_144 : decode cX12_leads 144 = .ok (.aload_n 0, 1) := by decide +kernel
theorem dX12_leads_145 : decode cX12_leads 145 = .ok (.getfield 326, 3) := by decide +kernel
theorem dX12_leads_148 : decode cX12_leads 148 = .ok (.if_icmp .ge 46, 3) := by decide +kernel
theorem dX12_leads_151 : decode cX12_leads 151 = .ok (.aload_n 0, 1) := by decide +kernel
theorem dX12_leads_152 : decode cX12_leads 152 = .ok (.iload 6, 2) := by decide +kernel
theorem dX12_leads_154 : decode cX12_leads 154 = .ok (.iload_n 1, 1) := by decide +kernel
theorem dX12_leads_155 : decode cX12_leads 155 = .ok (.invokevirtual 334, 3) := by decide +kernel
theorem dX12_leads_158 : decode cX12_leads 158 = .ok (.istore 7, 2) := by decide +kernel
theorem dX12_leads_160 : decode cX12_leads 160 = .ok (.aload_n 0, 1) := by decide +kernel
theorem dX12_leads_161 : decode cX12_leads 161 = .ok (.iload 6, 2) := by decide +kernel
theorem dX12_leads_163 : decode cX12_leads 163 = .ok (.iload_n 2, 1) := by decide +kernel
theorem dX12_leads_164 : decode cX12_leads 164 = .ok (.invokevirtual 334, 3) := by decide +kernel
theorem dX12_leads_167 : decode cX12_leads 167 = .ok (.istore 8, 2) := by decide +kernel
theorem dX12_leads_169 : decode cX12_leads 169 = .ok (.iload 5, 2) := by decide +kernel
theorem dX12_leads_171 : decode cX12_leads 171 = .ok (.iload 8, 2) := by decide +kernel
theorem dX12_leads_173 : decode cX12_leads 173 = .ok (.iload 7, 2) := by decide +kernel
theorem dX12_leads_175 : decode cX12_leads 175 = .ok (.if_icmp .ge 8, 3) := by decide +kernel
theorem dX12_leads_178 : decode cX12_leads 178 = .ok (.iload 8, 2) := by decide +kernel
theorem dX12_leads_180 : decode cX12_leads 180 = .ok (.goto 5, 3) := by decide +kernel
theorem dX12_leads_183 : decode cX12_leads 183 = .ok (.iload 7, 2) := by decide +kernel
theorem dX12_leads_185 : decode cX12_leads 185 = .ok (.iadd, 1) := by decide +kernel
theorem dX12_leads_186 : decode cX12_leads 186 = .ok (.istore 5, 2) := by decide +kernel
theorem dX12_leads_188 : decode cX12_leads 188 = .ok (.iinc 6 1, 3) := by decide +kernel
theorem dX12_leads_191 : decode cX12_leads 191 = .ok (.goto (-49), 3) := by decide +kernel
theorem dX12_leads_194 : decode cX12_leads 194 = .ok (.iload 4, 2) := by decide +kernel
theorem dX12_leads_196 : decode cX12_leads 196 = .ok (.ifCond .ne 8, 3) := by decide +kernel
theorem dX12_leads_199 : decode cX12_leads 199 = .ok (.iload 5, 2) := by decide +kernel
theorem dX12_leads_201 : decode cX12_leads 201 = .ok (.goto 34, 3) := by decide +kernel
theorem dX12_leads_204 : decode cX12_leads 204 = .ok (.aload_n 0, 1) := by decide +kernel
theorem dX12_leads_205 : decode cX12_leads 205 = .ok (.iload 4, 2) := by decide +kernel
theorem dX12_leads_207 : decode cX12_leads 207 = .ok (.bipush 10, 2) := by decide +kernel
theorem dX12_leads_209 : decode cX12_leads 209 = .ok (.isub, 1) := by decide +kernel
theorem dX12_leads_210 : decode cX12_leads 210 = .ok (.iload_n 2, 1) := by decide +kernel
theorem dX12_leads_211 : decode cX12_leads 211 = .ok (.invokevirtual 334, 3) := by decide +kernel
theorem dX12_leads_214 : decode cX12_leads 214 = .ok (.aload_n 0, 1) := by decide +kernel
theorem dX12_leads_215 : decode cX12_leads 215 = .ok (.iload 4, 2) := by decide +kernel
theorem dX12_leads_217 : decode cX12_leads 217 = .ok (.bipush 10, 2) := by decide +kernel
theorem dX12_leads_219 : decode cX12_leads 219 = .ok (.isub, 1) := by decide +kernel
theorem dX12_leads_220 : decode cX12_leads 220 = .ok (.iload_n 1, 1) := by decide +kernel
theorem dX12_leads_221 : decode cX12_leads 221 = .ok (.invokevirtual 334, 3) := by decide +kernel
theorem dX12_leads_224 : decode cX12_leads 224 = .ok (.if_icmp .ge 7, 3) := by decide +kernel
theorem dX12_leads_227 : decode cX12_leads 227 = .ok (.iconst 1, 1) := by decide +kernel
theorem dX12_leads_228 : decode cX12_leads 228 = .ok (.goto 4, 3) := by decide +kernel
theorem dX12_leads_231 : decode cX12_leads 231 = .ok (.iconst 0, 1) := by decide +kernel
theorem dX12_leads_232 : decode cX12_leads 232 = .ok (.invokestatic 168, 3) := by decide +kernel
theorem dX12_leads_235 : decode cX12_leads 235 = .ok (.ireturn, 1) := by decide +kernel
abbrev q_X12_leads (a : Int) (b : Int) (t : Int) (w : Int) (σ : tw_M) : Option tw_V → tw_M → Prop := fun z τ => ∃ r : Int, z = some (vI r) ∧ (-2147483648 ≤ r ∧ r ≤ 2147483647) ∧ tw_I τ ∧ tw_F (fun c j => (c = 88 ∧ (j = 30)) ∨ (99 ≤ c ∧ c < 101)) σ τ ∧ True
set_option maxHeartbeats 4000000 in
set_option maxRecDepth 100000 in
theorem l_X12_leads {G : tw_G} (hM : tw_isM G) (a : Int) (ha : -2147483648 ≤ a ∧ a ≤ 2147483647) (b : Int) (hb : -2147483648 ≤ b ∧ b ≤ 2147483647) (t : Int) (ht : 0 ≤ t ∧ t ≤ 1) (w : Int) (hw : -2147483648 ≤ w ∧ w ≤ 2147483647) (σ : tw_M) (hI : tw_I σ) : ∀ N_ : Nat, (∀ (s : Int) (hs : -2147483648 ≤ s ∧ s ≤ 2147483647) (i : Int) (hi : 0 ≤ i ∧ i ≤ 40) (τ : tw_M) (hIτ : tw_I τ) (hFτ : tw_F (fun c j => (c = 88 ∧ (j = 30)) ∨ (99 ≤ c ∧ c < 101)) σ τ) (i0 : 1 ≤ a ∧ a ≤ 9) (i1 : 1 ≤ b ∧ b ≤ 9) (i2 : w = 0 ∨ (10 ≤ w ∧ w ≤ 49)) (hm : (40 - i).toNat < N_), tw_J G (tw_mt RX12 cX12_leads 9 (some .int) 3) (tw_E G (q_X12_leads a b t w σ)) 142 [(0, vR 88), (1, vI a), (2, vI b), (4, vI w), (5, vI s), (6, vI i)] [] τ) := by
  intro N_
  induction N_ with
  | zero => exact fun s hs i hi τ hIτ hFτ i0 i1 i2 hm => absurd hm (Nat.not_lt_zero _)
  | succ N_ ih =>
    intro s hs i hi τ hIτ hFτ i0 i1 i2 hm
    refine j_iload (pc := 142) dX12_leads_142 rfl ?_
    refine j_aload_n (pc := 144) dX12_leads_144 rfl rfl ?_
    refine j_getI (pc := 145) fl_X12_326 dX12_leads_145 (a_88 hM) rfl ?_
    have f1 : (-4 : Int) ≤ τ 88 30 ∧ τ 88 30 ≤ 40 := hIτ 88 30
    refine j_icmpR_ge (pc := 148) (tgt := 194) ⟨by omega, by omega⟩ ⟨by omega, by omega⟩ dX12_leads_148 rfl (fun h2 => ?_) (fun h2 => ?_)
    · refine j_iload (pc := 194) dX12_leads_194 rfl ?_
      refine j_ifR_ne (pc := 196) (tgt := 204) ⟨by omega, by omega⟩ dX12_leads_196 rfl (fun h3 => ?_) (fun h3 => ?_)
      · refine j_aload_n (pc := 204) dX12_leads_204 rfl rfl ?_
        refine j_iload (pc := 205) dX12_leads_205 rfl ?_
        refine j_bipush (pc := 207) dX12_leads_207 rfl ?_
        refine j_isub (pc := 209) dX12_leads_209 ?_
        refine j_top (fun z4 ez4 hz4 => ?_)
        have gz4 : w - 10 < -2147483648 ∨ 2147483647 < w - 10 ∨ z4 = w - 10 := by rw [ez4]; exact w32_or _
        refine j_iload_n (pc := 210) dX12_leads_210 rfl rfl ?_
        refine j_callV (pc := 211) (As := [vI z4, vI b]) (st := []) (c_X12_costOf hM z4 ⟨by omega, by omega⟩ b ⟨by omega, by omega⟩ τ hIτ) mv_X12_334 rfl rfl rfl (a_88 hM) dX12_leads_211 ⟨Nat.le_of_ble_eq_true rfl, Nat.le_of_ble_eq_true rfl⟩ ⟨Nat.le_refl _, Nat.le_refl _⟩ rfl (Nat.le_of_ble_eq_true rfl) rfl (fun z5 σ6 hz5 => ?_)
        obtain ⟨r8, rfl, hr8, rfl, -⟩ := hz5
        refine j_st (st' := [vI r8]) rfl ?_
        refine j_aload_n (pc := 214) dX12_leads_214 rfl rfl ?_
        refine j_iload (pc := 215) dX12_leads_215 rfl ?_
        refine j_bipush (pc := 217) dX12_leads_217 rfl ?_
        refine j_isub (pc := 219) dX12_leads_219 ?_
        refine j_top (fun z9 ez9 hz9 => ?_)
        have gz9 : w - 10 < -2147483648 ∨ 2147483647 < w - 10 ∨ z9 = w - 10 := by rw [ez9]; exact w32_or _
        refine j_iload_n (pc := 220) dX12_leads_220 rfl rfl ?_
        refine j_callV (pc := 221) (As := [vI z9, vI a]) (st := [vI r8]) (c_X12_costOf hM z9 ⟨by omega, by omega⟩ a ⟨by omega, by omega⟩ τ hIτ) mv_X12_334 rfl rfl rfl (a_88 hM) dX12_leads_221 ⟨Nat.le_of_ble_eq_true rfl, Nat.le_of_ble_eq_true rfl⟩ ⟨Nat.le_refl _, Nat.le_refl _⟩ rfl (Nat.le_of_ble_eq_true rfl) rfl (fun z10 σ11 hz10 => ?_)
        obtain ⟨r13, rfl, hr13, rfl, -⟩ := hz10
        refine j_st (st' := [vI r13, vI r8]) rfl ?_
        refine j_icmpR_ge (pc := 224) (tgt := 231) ⟨by omega, by omega⟩ ⟨by omega, by omega⟩ dX12_leads_224 rfl (fun h14 => ?_) (fun h14 => ?_)
        · refine j_iconst (pc := 231) dX12_leads_231 ?_
          refine j_callS (pc := 232) (As := [vI 0]) (st := []) (c_X12_flag 0 (by (first | decide | exact ⟨by omega, by omega⟩)) τ hIτ) ms_X12_168 rfl dX12_leads_232 ⟨Nat.le_of_ble_eq_true rfl, Nat.le_of_ble_eq_true rfl⟩ ⟨Nat.le_refl _, Nat.le_refl _⟩ rfl (Nat.le_of_ble_eq_true rfl) rfl (fun z15 σ16 hz15 => ?_)
          obtain ⟨r18, rfl, hr18, rfl, q17_0⟩ := hz15
          replace q17_0 : r18 = (0 : Int) := q17_0
          refine j_st (st' := [vI r18]) rfl ?_
          exact j_iret (pc := 235) ⟨rfl, rfl⟩ dX12_leads_235 rfl ⟨_, rfl, ⟨by omega, by omega⟩, hIτ, hFτ, trivial⟩
        · refine j_iconst (pc := 227) dX12_leads_227 ?_
          refine j_goto (pc := 228) (tgt := 232) dX12_leads_228 rfl ?_
          refine j_callS (pc := 232) (As := [vI 1]) (st := []) (c_X12_flag 1 (by (first | decide | exact ⟨by omega, by omega⟩)) τ hIτ) ms_X12_168 rfl dX12_leads_232 ⟨Nat.le_of_ble_eq_true rfl, Nat.le_of_ble_eq_true rfl⟩ ⟨Nat.le_refl _, Nat.le_refl _⟩ rfl (Nat.le_of_ble_eq_true rfl) rfl (fun z19 σ20 hz19 => ?_)
          obtain ⟨r22, rfl, hr22, rfl, q21_0⟩ := hz19
          replace q21_0 : r22 = (1 : Int) := q21_0
          refine j_st (st' := [vI r22]) rfl ?_
          exact j_iret (pc := 235) ⟨rfl, rfl⟩ dX12_leads_235 rfl ⟨_, rfl, ⟨by omega, by omega⟩, hIτ, hFτ, trivial⟩
      · refine j_iload (pc := 199) dX12_leads_199 rfl ?_
        refine j_goto (pc := 201) (tgt := 235) dX12_leads_201 rfl ?_
        exact j_iret (pc := 235) ⟨rfl, rfl⟩ dX12_leads_235 rfl ⟨_, rfl, ⟨by omega, by omega⟩, hIτ, hFτ, trivial⟩
    · refine j_aload_n (pc := 151) dX12_leads_151 rfl rfl ?_
      refine j_iload (pc := 152) dX12_leads_152 rfl ?_
      refine j_iload_n (pc := 154) dX12_leads_154 rfl rfl ?_
      refine j_callV (pc := 155) (As := [vI i, vI a]) (st := []) (c_X12_costOf hM i ⟨by omega, by omega⟩ a ⟨by omega, by omega⟩ τ hIτ) mv_X12_334 rfl rfl rfl (a_88 hM) dX12_leads_155 ⟨Nat.le_of_ble_eq_true rfl, Nat.le_of_ble_eq_true rfl⟩ ⟨Nat.le_refl _, Nat.le_refl _⟩ rfl (Nat.le_of_ble_eq_true rfl) rfl (fun z23 σ24 hz23 => ?_)
      obtain ⟨r26, rfl, hr26, rfl, -⟩ := hz23
      refine j_st (st' := [vI r26]) rfl ?_
      refine j_istore (pc := 158) (i := 7) (ls' := [(0, vR 88), (1, vI a), (2, vI b), (4, vI w), (5, vI s), (6, vI i), (7, vI r26)]) [1, 2, 3, 4, 5, 6, 0] dX12_leads_158 (Nat.le_of_ble_eq_true rfl) rfl rfl ?_
      refine j_aload_n (pc := 160) dX12_leads_160 rfl rfl ?_
      refine j_iload (pc := 161) dX12_leads_161 rfl ?_
      refine j_iload_n (pc := 163) dX12_leads_163 rfl rfl ?_
      refine j_callV (pc := 164) (As := [vI i, vI b]) (st := []) (c_X12_costOf hM i ⟨by omega, by omega⟩ b ⟨by omega, by omega⟩ τ hIτ) mv_X12_334 rfl rfl rfl (a_88 hM) dX12_leads_164 ⟨Nat.le_of_ble_eq_true rfl, Nat.le_of_ble_eq_true rfl⟩ ⟨Nat.le_refl _, Nat.le_refl _⟩ rfl (Nat.le_of_ble_eq_true rfl) rfl (fun z27 σ28 hz27 => ?_)
      obtain ⟨r30, rfl, hr30, rfl, -⟩ := hz27
      refine j_st (st' := [vI r30]) rfl ?_
      refine j_istore (pc := 167) (i := 8) (ls' := [(0, vR 88), (1, vI a), (2, vI b), (4, vI w), (5, vI s), (6, vI i), (7, vI r26), (8, vI r30)]) [1, 2, 3, 4, 5, 6, 7, 0] dX12_leads_167 (Nat.le_of_ble_eq_true rfl) rfl rfl ?_
      refine j_iload (pc := 169) dX12_leads_169 rfl ?_
      refine j_iload (pc := 171) dX12_leads_171 rfl ?_
      refine j_iload (pc := 173) dX12_leads_173 rfl ?_
      refine j_icmpR_ge (pc := 175) (tgt := 183) ⟨by omega, by omega⟩ ⟨by omega, by omega⟩ dX12_leads_175 rfl (fun h31 => ?_) (fun h31 => ?_)
      · refine j_iload (pc := 183) dX12_leads_183 rfl ?_
        refine j_iadd (pc := 185) dX12_leads_185 ?_
        refine j_top (fun z32 ez32 hz32 => ?_)
        refine j_istore (pc := 186) (i := 5) (ls' := [(0, vR 88), (1, vI a), (2, vI b), (4, vI w), (5, vI z32), (6, vI i)]) [1, 2, 3, 4, 0, 5] dX12_leads_186 (Nat.le_of_ble_eq_true rfl) rfl rfl ?_
        refine j_iinc (pc := 188) (i := 6) (n := 1) (ls' := [(0, vR 88), (1, vI a), (2, vI b), (4, vI w), (5, vI z32), (6, vI (i + 1))]) [1, 2, 3, 4, 5, 0] dX12_leads_188 rfl (Nat.le_of_ble_eq_true rfl) rfl rfl ?_
        refine j_goto (pc := 191) (tgt := 142) dX12_leads_191 rfl ?_
        refine j_ls (ls' := [(0, vR 88), (1, vI a), (2, vI b), (4, vI w), (5, vI z32), (6, vI (i + 1))]) [0, 1, 2, 3, 4, 5] rfl ?_
        exact ih z32 ⟨by omega, by omega⟩ (i + 1) ⟨by omega, by omega⟩ τ hIτ hFτ (show 1 ≤ a ∧ a ≤ 9 from by omega) (show 1 ≤ b ∧ b ≤ 9 from by omega) (show w = 0 ∨ (10 ≤ w ∧ w ≤ 49) from by omega) (show (40 - (i + 1)).toNat < N_ from by omega)
      · refine j_iload (pc := 178) dX12_leads_178 rfl ?_
        refine j_goto (pc := 180) (tgt := 185) dX12_leads_180 rfl ?_
        refine j_iadd (pc := 185) dX12_leads_185 ?_
        refine j_top (fun z33 ez33 hz33 => ?_)
        refine j_istore (pc := 186) (i := 5) (ls' := [(0, vR 88), (1, vI a), (2, vI b), (4, vI w), (5, vI z33), (6, vI i)]) [1, 2, 3, 4, 0, 5] dX12_leads_186 (Nat.le_of_ble_eq_true rfl) rfl rfl ?_
        refine j_iinc (pc := 188) (i := 6) (n := 1) (ls' := [(0, vR 88), (1, vI a), (2, vI b), (4, vI w), (5, vI z33), (6, vI (i + 1))]) [1, 2, 3, 4, 5, 0] dX12_leads_188 rfl (Nat.le_of_ble_eq_true rfl) rfl rfl ?_
        refine j_goto (pc := 191) (tgt := 142) dX12_leads_191 rfl ?_
        refine j_ls (ls' := [(0, vR 88), (1, vI a), (2, vI b), (4, vI w), (5, vI z33), (6, vI (i + 1))]) [0, 1, 2, 3, 4, 5] rfl ?_
        exact ih z33 ⟨by omega, by omega⟩ (i + 1) ⟨by omega, by omega⟩ τ hIτ hFτ (show 1 ≤ a ∧ a ≤ 9 from by omega) (show 1 ≤ b ∧ b ≤ 9 from by omega) (show w = 0 ∨ (10 ≤ w ∧ w ≤ 49) from by omega) (show (40 - (i + 1)).toNat < N_ from by omega)
set_option maxHeartbeats 4000000 in
set_option maxRecDepth 100000 in
theorem c_X12_leads {G : tw_G} (hM : tw_isM G) (a : Int) (ha : -2147483648 ≤ a ∧ a ≤ 2147483647) (b : Int) (hb : -2147483648 ≤ b ∧ b ≤ 2147483647) (t : Int) (ht : 0 ≤ t ∧ t ≤ 1) (w : Int) (hw : -2147483648 ≤ w ∧ w ≤ 2147483647) (σ : tw_M) (hI : tw_I σ) : tw_C G yX12_leads cX12_leads 9 (some .int) 3 [vR 88, vI a, vI b, vI t, vI w] σ (q_X12_leads a b t w σ) := by
  refine tw_met [(0, vR 88), (1, vI a), (2, vI b), (3, vI t), (4, vI w)] (by decide +kernel) rfl (Nat.le_of_ble_eq_true rfl) ?_
  refine j_iload_n (pc := 0) dX12_leads_0 rfl rfl ?_
  refine j_i2l (pc := 1) dX12_leads_1 ?_
  rw [w32_eq (a := a) (by omega) (by omega)]
  refine j_lconst (pc := 2) (z := 1) dX12_leads_2 rfl ?_
  refine j_ldc2 (pc := 3) (z := 9) dX12_leads_3 (tw_inc tm_7 (i := 195) rfl rfl) ?_
  refine j_callS (pc := 6) (As := [vL a, vL 1, vL 9]) (st := []) (c_X12_in a ⟨by omega, by omega⟩ 1 (by (first | decide | exact ⟨by omega, by omega⟩)) 9 (by (first | decide | exact ⟨by omega, by omega⟩)) σ hI) ms_X12_82 rfl dX12_leads_6 ⟨Nat.le_of_ble_eq_true rfl, Nat.le_of_ble_eq_true rfl⟩ ⟨Nat.le_refl _, Nat.le_refl _⟩ rfl (Nat.le_of_ble_eq_true rfl) rfl (fun z34 σ35 hz34 => ?_)
  obtain ⟨r37, rfl, hr37, rfl, q36_0⟩ := hz34
  replace q36_0 : (r37 = 1 ∧ (1 : Int) ≤ a ∧ a ≤ (9 : Int)) ∨ (r37 = 0 ∧ ¬ ((1 : Int) ≤ a ∧ a ≤ (9 : Int))) := q36_0
  refine j_st (st' := [vI r37]) rfl ?_
  refine j_ifR_eq (pc := 9) (tgt := 44) ⟨by omega, by omega⟩ dX12_leads_9 rfl (fun h38 => ?_) (fun h38 => ?_)
  · refine j_iconst (pc := 44) dX12_leads_44 ?_
    exact j_iret (pc := 45) ⟨rfl, rfl⟩ dX12_leads_45 rfl ⟨_, rfl, ⟨by omega, by omega⟩, hI, (tw_F_rf), trivial⟩
  · refine j_iload_n (pc := 12) dX12_leads_12 rfl rfl ?_
    refine j_i2l (pc := 13) dX12_leads_13 ?_
    rw [w32_eq (a := b) (by omega) (by omega)]
    refine j_lconst (pc := 14) (z := 1) dX12_leads_14 rfl ?_
    refine j_ldc2 (pc := 15) (z := 9) dX12_leads_15 (tw_inc tm_7 (i := 195) rfl rfl) ?_
    refine j_callS (pc := 18) (As := [vL b, vL 1, vL 9]) (st := []) (c_X12_in b ⟨by omega, by omega⟩ 1 (by (first | decide | exact ⟨by omega, by omega⟩)) 9 (by (first | decide | exact ⟨by omega, by omega⟩)) σ hI) ms_X12_82 rfl dX12_leads_18 ⟨Nat.le_of_ble_eq_true rfl, Nat.le_of_ble_eq_true rfl⟩ ⟨Nat.le_refl _, Nat.le_refl _⟩ rfl (Nat.le_of_ble_eq_true rfl) rfl (fun z39 σ40 hz39 => ?_)
    obtain ⟨r42, rfl, hr42, rfl, q41_0⟩ := hz39
    replace q41_0 : (r42 = 1 ∧ (1 : Int) ≤ b ∧ b ≤ (9 : Int)) ∨ (r42 = 0 ∧ ¬ ((1 : Int) ≤ b ∧ b ≤ (9 : Int))) := q41_0
    refine j_st (st' := [vI r42]) rfl ?_
    refine j_ifR_eq (pc := 21) (tgt := 44) ⟨by omega, by omega⟩ dX12_leads_21 rfl (fun h43 => ?_) (fun h43 => ?_)
    · refine j_iconst (pc := 44) dX12_leads_44 ?_
      exact j_iret (pc := 45) ⟨rfl, rfl⟩ dX12_leads_45 rfl ⟨_, rfl, ⟨by omega, by omega⟩, hI, (tw_F_rf), trivial⟩
    · refine j_iload (pc := 24) dX12_leads_24 rfl ?_
      refine j_ifR_eq (pc := 26) (tgt := 46) ⟨by omega, by omega⟩ dX12_leads_26 rfl (fun h44 => ?_) (fun h44 => ?_)
      · refine j_aload_n (pc := 46) dX12_leads_46 rfl rfl ?_
        refine j_callV (pc := 47) (As := []) (st := []) (c_X12_findPitches hM σ hI) mv_X12_331 rfl rfl rfl (a_88 hM) dX12_leads_47 ⟨Nat.le_of_ble_eq_true rfl, Nat.le_of_ble_eq_true rfl⟩ ⟨Nat.le_refl _, Nat.le_refl _⟩ rfl (Nat.le_of_ble_eq_true rfl) rfl (fun z45 σ46 hz45 => ?_)
        obtain ⟨rfl, hIσ46, hGσ46, -⟩ := hz45
        have hFσ46 : tw_F (fun c j => (c = 88 ∧ (j = 30)) ∨ (99 ≤ c ∧ c < 101)) σ σ46 := tw_F_tr (tw_F_rf) hGσ46 (fun c j q => (show (c = 88 ∧ (j = 30)) ∨ (99 ≤ c ∧ c < 101) from by replace q : (c = 88 ∧ (j = 30)) ∨ (99 ≤ c ∧ c < 101) := q; exact q))
        refine j_st (st' := []) rfl ?_
        refine j_aload_n (pc := 50) dX12_leads_50 rfl rfl ?_
        refine j_getI (pc := 51) fl_X12_326 dX12_leads_51 (a_88 hM) rfl ?_
        have f49 : (-4 : Int) ≤ σ46 88 30 ∧ σ46 88 30 ≤ 40 := hIσ46 88 30
        refine j_bipush (pc := 54) dX12_leads_54 rfl ?_
        refine j_icmpR_ne (pc := 56) (tgt := 62) ⟨by omega, by omega⟩ ⟨by omega, by omega⟩ dX12_leads_56 rfl (fun h50 => ?_) (fun h50 => ?_)
        · refine j_iload (pc := 62) dX12_leads_62 rfl ?_
          refine j_ifR_eq (pc := 64) (tgt := 81) ⟨by omega, by omega⟩ dX12_leads_64 rfl (fun h51 => ?_) (fun h51 => by exfalso; omega)
          refine j_iload_n (pc := 81) dX12_leads_81 rfl rfl ?_
          refine j_ifR_eq (pc := 82) (tgt := 136) ⟨by omega, by omega⟩ dX12_leads_82 rfl (fun h52 => ?_) (fun h52 => ?_)
          · refine j_iconst (pc := 136) dX12_leads_136 ?_
            refine j_istore (pc := 137) (i := 5) (ls' := [(0, vR 88), (1, vI a), (2, vI b), (4, vI w), (5, vI 0)]) [1, 2, 3, 5, 0] dX12_leads_137 (Nat.le_of_ble_eq_true rfl) rfl rfl ?_
            refine j_iconst (pc := 139) dX12_leads_139 ?_
            refine j_istore (pc := 140) (i := 6) (ls' := [(0, vR 88), (1, vI a), (2, vI b), (4, vI w), (5, vI 0), (6, vI 0)]) [1, 2, 3, 4, 5, 0] dX12_leads_140 (Nat.le_of_ble_eq_true rfl) rfl rfl ?_
            refine j_ls (ls' := [(0, vR 88), (1, vI a), (2, vI b), (4, vI w), (5, vI 0), (6, vI 0)]) [0, 1, 2, 3, 4, 5] rfl ?_
            exact (l_X12_leads hM a ha b hb t ht w hw σ hI (((40 - (0 : Int)).toNat) + 1)) 0 (by (first | decide | exact ⟨by omega, by omega⟩)) 0 (by (first | decide | exact ⟨by omega, by omega⟩)) σ46 hIσ46 hFσ46 (show 1 ≤ a ∧ a ≤ 9 from by omega) (show 1 ≤ b ∧ b ≤ 9 from by omega) (show w = 0 ∨ (10 ≤ w ∧ w ≤ 49) from by omega) (Nat.lt_succ_self _)
          · refine j_aload_n (pc := 85) dX12_leads_85 rfl rfl ?_
            refine j_iload_n (pc := 86) dX12_leads_86 rfl rfl ?_
            refine j_iload_n (pc := 87) dX12_leads_87 rfl rfl ?_
            refine j_iconst (pc := 88) dX12_leads_88 ?_
            refine j_callV (pc := 89) (As := [vI a, vI b, vI 1]) (st := []) (c_X12_turnsCost hM a ⟨by omega, by omega⟩ b ⟨by omega, by omega⟩ 1 (by (first | decide | exact ⟨by omega, by omega⟩)) σ46 hIσ46) mv_X12_339 rfl rfl rfl (a_88 hM) dX12_leads_89 ⟨Nat.le_of_ble_eq_true rfl, Nat.le_of_ble_eq_true rfl⟩ ⟨Nat.le_refl _, Nat.le_refl _⟩ rfl (Nat.le_of_ble_eq_true rfl) rfl (fun z53 σ54 hz53 => ?_)
            obtain ⟨r56, rfl, hr56, rfl, -⟩ := hz53
            refine j_st (st' := [vI r56]) rfl ?_
            refine j_aload_n (pc := 92) dX12_leads_92 rfl rfl ?_
            refine j_iload_n (pc := 93) dX12_leads_93 rfl rfl ?_
            refine j_iload_n (pc := 94) dX12_leads_94 rfl rfl ?_
            refine j_iconst (pc := 95) dX12_leads_95 ?_
            refine j_callV (pc := 96) (As := [vI a, vI b, vI 0]) (st := [vI r56]) (c_X12_turnsCost hM a ⟨by omega, by omega⟩ b ⟨by omega, by omega⟩ 0 (by (first | decide | exact ⟨by omega, by omega⟩)) σ46 hIσ46) mv_X12_339 rfl rfl rfl (a_88 hM) dX12_leads_96 ⟨Nat.le_of_ble_eq_true rfl, Nat.le_of_ble_eq_true rfl⟩ ⟨Nat.le_refl _, Nat.le_refl _⟩ rfl (Nat.le_of_ble_eq_true rfl) rfl (fun z57 σ58 hz57 => ?_)
            obtain ⟨r60, rfl, hr60, rfl, -⟩ := hz57
            refine j_st (st' := [vI r60, vI r56]) rfl ?_
            refine j_icmpR_ge (pc := 99) (tgt := 106) ⟨by omega, by omega⟩ ⟨by omega, by omega⟩ dX12_leads_99 rfl (fun h61 => ?_) (fun h61 => ?_)
            · refine j_iconst (pc := 106) dX12_leads_106 ?_
              refine j_istore (pc := 107) (i := 5) (ls' := [(0, vR 88), (1, vI a), (2, vI b), (4, vI w), (5, vI 0)]) [1, 2, 3, 5, 0] dX12_leads_107 (Nat.le_of_ble_eq_true rfl) rfl rfl ?_
              refine j_iload (pc := 109) dX12_leads_109 rfl ?_
              refine j_ifR_ne (pc := 111) (tgt := 125) ⟨by omega, by omega⟩ dX12_leads_111 rfl (fun h62 => by exfalso; omega) (fun h62 => ?_)
              refine j_aload_n (pc := 114) dX12_leads_114 rfl rfl ?_
              refine j_iload_n (pc := 115) dX12_leads_115 rfl rfl ?_
              refine j_iload_n (pc := 116) dX12_leads_116 rfl rfl ?_
              refine j_iload (pc := 117) dX12_leads_117 rfl ?_
              refine j_callV (pc := 119) (As := [vI a, vI b, vI 0]) (st := []) (c_X12_turnsCost hM a ⟨by omega, by omega⟩ b ⟨by omega, by omega⟩ 0 (by (first | decide | exact ⟨by omega, by omega⟩)) σ46 hIσ46) mv_X12_339 rfl rfl rfl (a_88 hM) dX12_leads_119 ⟨Nat.le_of_ble_eq_true rfl, Nat.le_of_ble_eq_true rfl⟩ ⟨Nat.le_refl _, Nat.le_refl _⟩ rfl (Nat.le_of_ble_eq_true rfl) rfl (fun z63 σ64 hz63 => ?_)
              obtain ⟨r66, rfl, hr66, rfl, -⟩ := hz63
              refine j_st (st' := [vI r66]) rfl ?_
              refine j_goto (pc := 122) (tgt := 135) dX12_leads_122 rfl ?_
              exact j_iret (pc := 135) ⟨rfl, rfl⟩ dX12_leads_135 rfl ⟨_, rfl, ⟨by omega, by omega⟩, hIσ46, hFσ46, trivial⟩
            · refine j_iconst (pc := 102) dX12_leads_102 ?_
              refine j_goto (pc := 103) (tgt := 107) dX12_leads_103 rfl ?_
              refine j_istore (pc := 107) (i := 5) (ls' := [(0, vR 88), (1, vI a), (2, vI b), (4, vI w), (5, vI 1)]) [1, 2, 3, 5, 0] dX12_leads_107 (Nat.le_of_ble_eq_true rfl) rfl rfl ?_
              refine j_iload (pc := 109) dX12_leads_109 rfl ?_
              refine j_ifR_ne (pc := 111) (tgt := 125) ⟨by omega, by omega⟩ dX12_leads_111 rfl (fun h67 => by exfalso; omega) (fun h67 => ?_)
              refine j_aload_n (pc := 114) dX12_leads_114 rfl rfl ?_
              refine j_iload_n (pc := 115) dX12_leads_115 rfl rfl ?_
              refine j_iload_n (pc := 116) dX12_leads_116 rfl rfl ?_
              refine j_iload (pc := 117) dX12_leads_117 rfl ?_
              refine j_callV (pc := 119) (As := [vI a, vI b, vI 1]) (st := []) (c_X12_turnsCost hM a ⟨by omega, by omega⟩ b ⟨by omega, by omega⟩ 1 (by (first | decide | exact ⟨by omega, by omega⟩)) σ46 hIσ46) mv_X12_339 rfl rfl rfl (a_88 hM) dX12_leads_119 ⟨Nat.le_of_ble_eq_true rfl, Nat.le_of_ble_eq_true rfl⟩ ⟨Nat.le_refl _, Nat.le_refl _⟩ rfl (Nat.le_of_ble_eq_true rfl) rfl (fun z68 σ69 hz68 => ?_)
              obtain ⟨r71, rfl, hr71, rfl, -⟩ := hz68
              refine j_st (st' := [vI r71]) rfl ?_
              refine j_goto (pc := 122) (tgt := 135) dX12_leads_122 rfl ?_
              exact j_iret (pc := 135) ⟨rfl, rfl⟩ dX12_leads_135 rfl ⟨_, rfl, ⟨by omega, by omega⟩, hIσ46, hFσ46, trivial⟩
        · refine j_bipush (pc := 59) dX12_leads_59 rfl ?_
          exact j_iret (pc := 61) ⟨rfl, rfl⟩ dX12_leads_61 rfl ⟨_, rfl, ⟨by omega, by omega⟩, hIσ46, hFσ46, trivial⟩
      · refine j_iload (pc := 29) dX12_leads_29 rfl ?_
        refine j_i2l (pc := 31) dX12_leads_31 ?_
        rw [w32_eq (a := w) (by omega) (by omega)]
        refine j_ldc2 (pc := 32) (z := 10) dX12_leads_32 (tw_inc tm_6 (i := 239) rfl rfl) ?_
        refine j_ldc2 (pc := 35) (z := 49) dX12_leads_35 (tw_inc tm_7 (i := 182) rfl rfl) ?_
        refine j_callS (pc := 38) (As := [vL w, vL 10, vL 49]) (st := []) (c_X12_in w ⟨by omega, by omega⟩ 10 (by (first | decide | exact ⟨by omega, by omega⟩)) 49 (by (first | decide | exact ⟨by omega, by omega⟩)) σ hI) ms_X12_82 rfl dX12_leads_38 ⟨Nat.le_of_ble_eq_true rfl, Nat.le_of_ble_eq_true rfl⟩ ⟨Nat.le_refl _, Nat.le_refl _⟩ rfl (Nat.le_of_ble_eq_true rfl) rfl (fun z72 σ73 hz72 => ?_)
        obtain ⟨r75, rfl, hr75, rfl, q74_0⟩ := hz72
        replace q74_0 : (r75 = 1 ∧ (10 : Int) ≤ w ∧ w ≤ (49 : Int)) ∨ (r75 = 0 ∧ ¬ ((10 : Int) ≤ w ∧ w ≤ (49 : Int))) := q74_0
        refine j_st (st' := [vI r75]) rfl ?_
        refine j_ifR_ne (pc := 41) (tgt := 46) ⟨by omega, by omega⟩ dX12_leads_41 rfl (fun h76 => ?_) (fun h76 => ?_)
        · refine j_aload_n (pc := 46) dX12_leads_46 rfl rfl ?_
          refine j_callV (pc := 47) (As := []) (st := []) (c_X12_findPitches hM σ hI) mv_X12_331 rfl rfl rfl (a_88 hM) dX12_leads_47 ⟨Nat.le_of_ble_eq_true rfl, Nat.le_of_ble_eq_true rfl⟩ ⟨Nat.le_refl _, Nat.le_refl _⟩ rfl (Nat.le_of_ble_eq_true rfl) rfl (fun z77 σ78 hz77 => ?_)
          obtain ⟨rfl, hIσ78, hGσ78, -⟩ := hz77
          have hFσ78 : tw_F (fun c j => (c = 88 ∧ (j = 30)) ∨ (99 ≤ c ∧ c < 101)) σ σ78 := tw_F_tr (tw_F_rf) hGσ78 (fun c j q => (show (c = 88 ∧ (j = 30)) ∨ (99 ≤ c ∧ c < 101) from by replace q : (c = 88 ∧ (j = 30)) ∨ (99 ≤ c ∧ c < 101) := q; exact q))
          refine j_st (st' := []) rfl ?_
          refine j_aload_n (pc := 50) dX12_leads_50 rfl rfl ?_
          refine j_getI (pc := 51) fl_X12_326 dX12_leads_51 (a_88 hM) rfl ?_
          have f81 : (-4 : Int) ≤ σ78 88 30 ∧ σ78 88 30 ≤ 40 := hIσ78 88 30
          refine j_bipush (pc := 54) dX12_leads_54 rfl ?_
          refine j_icmpR_ne (pc := 56) (tgt := 62) ⟨by omega, by omega⟩ ⟨by omega, by omega⟩ dX12_leads_56 rfl (fun h82 => ?_) (fun h82 => ?_)
          · refine j_iload (pc := 62) dX12_leads_62 rfl ?_
            refine j_ifR_eq (pc := 64) (tgt := 81) ⟨by omega, by omega⟩ dX12_leads_64 rfl (fun h83 => ?_) (fun h83 => ?_)
            · refine j_iload_n (pc := 81) dX12_leads_81 rfl rfl ?_
              refine j_ifR_eq (pc := 82) (tgt := 136) ⟨by omega, by omega⟩ dX12_leads_82 rfl (fun h84 => ?_) (fun h84 => ?_)
              · refine j_iconst (pc := 136) dX12_leads_136 ?_
                refine j_istore (pc := 137) (i := 5) (ls' := [(0, vR 88), (1, vI a), (2, vI b), (4, vI w), (5, vI 0)]) [1, 2, 3, 5, 0] dX12_leads_137 (Nat.le_of_ble_eq_true rfl) rfl rfl ?_
                refine j_iconst (pc := 139) dX12_leads_139 ?_
                refine j_istore (pc := 140) (i := 6) (ls' := [(0, vR 88), (1, vI a), (2, vI b), (4, vI w), (5, vI 0), (6, vI 0)]) [1, 2, 3, 4, 5, 0] dX12_leads_140 (Nat.le_of_ble_eq_true rfl) rfl rfl ?_
                refine j_ls (ls' := [(0, vR 88), (1, vI a), (2, vI b), (4, vI w), (5, vI 0), (6, vI 0)]) [0, 1, 2, 3, 4, 5] rfl ?_
                exact (l_X12_leads hM a ha b hb t ht w hw σ hI (((40 - (0 : Int)).toNat) + 1)) 0 (by (first | decide | exact ⟨by omega, by omega⟩)) 0 (by (first | decide | exact ⟨by omega, by omega⟩)) σ78 hIσ78 hFσ78 (show 1 ≤ a ∧ a ≤ 9 from by omega) (show 1 ≤ b ∧ b ≤ 9 from by omega) (show w = 0 ∨ (10 ≤ w ∧ w ≤ 49) from by omega) (Nat.lt_succ_self _)
              · refine j_aload_n (pc := 85) dX12_leads_85 rfl rfl ?_
                refine j_iload_n (pc := 86) dX12_leads_86 rfl rfl ?_
                refine j_iload_n (pc := 87) dX12_leads_87 rfl rfl ?_
                refine j_iconst (pc := 88) dX12_leads_88 ?_
                refine j_callV (pc := 89) (As := [vI a, vI b, vI 1]) (st := []) (c_X12_turnsCost hM a ⟨by omega, by omega⟩ b ⟨by omega, by omega⟩ 1 (by (first | decide | exact ⟨by omega, by omega⟩)) σ78 hIσ78) mv_X12_339 rfl rfl rfl (a_88 hM) dX12_leads_89 ⟨Nat.le_of_ble_eq_true rfl, Nat.le_of_ble_eq_true rfl⟩ ⟨Nat.le_refl _, Nat.le_refl _⟩ rfl (Nat.le_of_ble_eq_true rfl) rfl (fun z85 σ86 hz85 => ?_)
                obtain ⟨r88, rfl, hr88, rfl, -⟩ := hz85
                refine j_st (st' := [vI r88]) rfl ?_
                refine j_aload_n (pc := 92) dX12_leads_92 rfl rfl ?_
                refine j_iload_n (pc := 93) dX12_leads_93 rfl rfl ?_
                refine j_iload_n (pc := 94) dX12_leads_94 rfl rfl ?_
                refine j_iconst (pc := 95) dX12_leads_95 ?_
                refine j_callV (pc := 96) (As := [vI a, vI b, vI 0]) (st := [vI r88]) (c_X12_turnsCost hM a ⟨by omega, by omega⟩ b ⟨by omega, by omega⟩ 0 (by (first | decide | exact ⟨by omega, by omega⟩)) σ78 hIσ78) mv_X12_339 rfl rfl rfl (a_88 hM) dX12_leads_96 ⟨Nat.le_of_ble_eq_true rfl, Nat.le_of_ble_eq_true rfl⟩ ⟨Nat.le_refl _, Nat.le_refl _⟩ rfl (Nat.le_of_ble_eq_true rfl) rfl (fun z89 σ90 hz89 => ?_)
                obtain ⟨r92, rfl, hr92, rfl, -⟩ := hz89
                refine j_st (st' := [vI r92, vI r88]) rfl ?_
                refine j_icmpR_ge (pc := 99) (tgt := 106) ⟨by omega, by omega⟩ ⟨by omega, by omega⟩ dX12_leads_99 rfl (fun h93 => ?_) (fun h93 => ?_)
                · refine j_iconst (pc := 106) dX12_leads_106 ?_
                  refine j_istore (pc := 107) (i := 5) (ls' := [(0, vR 88), (1, vI a), (2, vI b), (4, vI w), (5, vI 0)]) [1, 2, 3, 5, 0] dX12_leads_107 (Nat.le_of_ble_eq_true rfl) rfl rfl ?_
                  refine j_iload (pc := 109) dX12_leads_109 rfl ?_
                  refine j_ifR_ne (pc := 111) (tgt := 125) ⟨by omega, by omega⟩ dX12_leads_111 rfl (fun h94 => by exfalso; omega) (fun h94 => ?_)
                  refine j_aload_n (pc := 114) dX12_leads_114 rfl rfl ?_
                  refine j_iload_n (pc := 115) dX12_leads_115 rfl rfl ?_
                  refine j_iload_n (pc := 116) dX12_leads_116 rfl rfl ?_
                  refine j_iload (pc := 117) dX12_leads_117 rfl ?_
                  refine j_callV (pc := 119) (As := [vI a, vI b, vI 0]) (st := []) (c_X12_turnsCost hM a ⟨by omega, by omega⟩ b ⟨by omega, by omega⟩ 0 (by (first | decide | exact ⟨by omega, by omega⟩)) σ78 hIσ78) mv_X12_339 rfl rfl rfl (a_88 hM) dX12_leads_119 ⟨Nat.le_of_ble_eq_true rfl, Nat.le_of_ble_eq_true rfl⟩ ⟨Nat.le_refl _, Nat.le_refl _⟩ rfl (Nat.le_of_ble_eq_true rfl) rfl (fun z95 σ96 hz95 => ?_)
                  obtain ⟨r98, rfl, hr98, rfl, -⟩ := hz95
                  refine j_st (st' := [vI r98]) rfl ?_
                  refine j_goto (pc := 122) (tgt := 135) dX12_leads_122 rfl ?_
                  exact j_iret (pc := 135) ⟨rfl, rfl⟩ dX12_leads_135 rfl ⟨_, rfl, ⟨by omega, by omega⟩, hIσ78, hFσ78, trivial⟩
                · refine j_iconst (pc := 102) dX12_leads_102 ?_
                  refine j_goto (pc := 103) (tgt := 107) dX12_leads_103 rfl ?_
                  refine j_istore (pc := 107) (i := 5) (ls' := [(0, vR 88), (1, vI a), (2, vI b), (4, vI w), (5, vI 1)]) [1, 2, 3, 5, 0] dX12_leads_107 (Nat.le_of_ble_eq_true rfl) rfl rfl ?_
                  refine j_iload (pc := 109) dX12_leads_109 rfl ?_
                  refine j_ifR_ne (pc := 111) (tgt := 125) ⟨by omega, by omega⟩ dX12_leads_111 rfl (fun h99 => by exfalso; omega) (fun h99 => ?_)
                  refine j_aload_n (pc := 114) dX12_leads_114 rfl rfl ?_
                  refine j_iload_n (pc := 115) dX12_leads_115 rfl rfl ?_
                  refine j_iload_n (pc := 116) dX12_leads_116 rfl rfl ?_
                  refine j_iload (pc := 117) dX12_leads_117 rfl ?_
                  refine j_callV (pc := 119) (As := [vI a, vI b, vI 1]) (st := []) (c_X12_turnsCost hM a ⟨by omega, by omega⟩ b ⟨by omega, by omega⟩ 1 (by (first | decide | exact ⟨by omega, by omega⟩)) σ78 hIσ78) mv_X12_339 rfl rfl rfl (a_88 hM) dX12_leads_119 ⟨Nat.le_of_ble_eq_true rfl, Nat.le_of_ble_eq_true rfl⟩ ⟨Nat.le_refl _, Nat.le_refl _⟩ rfl (Nat.le_of_ble_eq_true rfl) rfl (fun z100 σ101 hz100 => ?_)
                  obtain ⟨r103, rfl, hr103, rfl, -⟩ := hz100
                  refine j_st (st' := [vI r103]) rfl ?_
                  refine j_goto (pc := 122) (tgt := 135) dX12_leads_122 rfl ?_
                  exact j_iret (pc := 135) ⟨rfl, rfl⟩ dX12_leads_135 rfl ⟨_, rfl, ⟨by omega, by omega⟩, hIσ78, hFσ78, trivial⟩
            · refine j_iload (pc := 67) dX12_leads_67 rfl ?_
              refine j_bipush (pc := 69) dX12_leads_69 rfl ?_
              refine j_isub (pc := 71) dX12_leads_71 ?_
              refine j_top (fun z104 ez104 hz104 => ?_)
              have gz104 : w - 10 < -2147483648 ∨ 2147483647 < w - 10 ∨ z104 = w - 10 := by rw [ez104]; exact w32_or _
              refine j_aload_n (pc := 72) dX12_leads_72 rfl rfl ?_
              refine j_getI (pc := 73) fl_X12_326 dX12_leads_73 (a_88 hM) rfl ?_
              refine j_icmpR_lt (pc := 76) (tgt := 81) ⟨by omega, by omega⟩ ⟨by omega, by omega⟩ dX12_leads_76 rfl (fun h105 => ?_) (fun h105 => ?_)
              · refine j_iload_n (pc := 81) dX12_leads_81 rfl rfl ?_
                refine j_ifR_eq (pc := 82) (tgt := 136) ⟨by omega, by omega⟩ dX12_leads_82 rfl (fun h106 => ?_) (fun h106 => ?_)
                · refine j_iconst (pc := 136) dX12_leads_136 ?_
                  refine j_istore (pc := 137) (i := 5) (ls' := [(0, vR 88), (1, vI a), (2, vI b), (4, vI w), (5, vI 0)]) [1, 2, 3, 5, 0] dX12_leads_137 (Nat.le_of_ble_eq_true rfl) rfl rfl ?_
                  refine j_iconst (pc := 139) dX12_leads_139 ?_
                  refine j_istore (pc := 140) (i := 6) (ls' := [(0, vR 88), (1, vI a), (2, vI b), (4, vI w), (5, vI 0), (6, vI 0)]) [1, 2, 3, 4, 5, 0] dX12_leads_140 (Nat.le_of_ble_eq_true rfl) rfl rfl ?_
                  refine j_ls (ls' := [(0, vR 88), (1, vI a), (2, vI b), (4, vI w), (5, vI 0), (6, vI 0)]) [0, 1, 2, 3, 4, 5] rfl ?_
                  exact (l_X12_leads hM a ha b hb t ht w hw σ hI (((40 - (0 : Int)).toNat) + 1)) 0 (by (first | decide | exact ⟨by omega, by omega⟩)) 0 (by (first | decide | exact ⟨by omega, by omega⟩)) σ78 hIσ78 hFσ78 (show 1 ≤ a ∧ a ≤ 9 from by omega) (show 1 ≤ b ∧ b ≤ 9 from by omega) (show w = 0 ∨ (10 ≤ w ∧ w ≤ 49) from by omega) (Nat.lt_succ_self _)
                · refine j_aload_n (pc := 85) dX12_leads_85 rfl rfl ?_
                  refine j_iload_n (pc := 86) dX12_leads_86 rfl rfl ?_
                  refine j_iload_n (pc := 87) dX12_leads_87 rfl rfl ?_
                  refine j_iconst (pc := 88) dX12_leads_88 ?_
                  refine j_callV (pc := 89) (As := [vI a, vI b, vI 1]) (st := []) (c_X12_turnsCost hM a ⟨by omega, by omega⟩ b ⟨by omega, by omega⟩ 1 (by (first | decide | exact ⟨by omega, by omega⟩)) σ78 hIσ78) mv_X12_339 rfl rfl rfl (a_88 hM) dX12_leads_89 ⟨Nat.le_of_ble_eq_true rfl, Nat.le_of_ble_eq_true rfl⟩ ⟨Nat.le_refl _, Nat.le_refl _⟩ rfl (Nat.le_of_ble_eq_true rfl) rfl (fun z107 σ108 hz107 => ?_)
                  obtain ⟨r110, rfl, hr110, rfl, -⟩ := hz107
                  refine j_st (st' := [vI r110]) rfl ?_
                  refine j_aload_n (pc := 92) dX12_leads_92 rfl rfl ?_
                  refine j_iload_n (pc := 93) dX12_leads_93 rfl rfl ?_
                  refine j_iload_n (pc := 94) dX12_leads_94 rfl rfl ?_
                  refine j_iconst (pc := 95) dX12_leads_95 ?_
                  refine j_callV (pc := 96) (As := [vI a, vI b, vI 0]) (st := [vI r110]) (c_X12_turnsCost hM a ⟨by omega, by omega⟩ b ⟨by omega, by omega⟩ 0 (by (first | decide | exact ⟨by omega, by omega⟩)) σ78 hIσ78) mv_X12_339 rfl rfl rfl (a_88 hM) dX12_leads_96 ⟨Nat.le_of_ble_eq_true rfl, Nat.le_of_ble_eq_true rfl⟩ ⟨Nat.le_refl _, Nat.le_refl _⟩ rfl (Nat.le_of_ble_eq_true rfl) rfl (fun z111 σ112 hz111 => ?_)
                  obtain ⟨r114, rfl, hr114, rfl, -⟩ := hz111
                  refine j_st (st' := [vI r114, vI r110]) rfl ?_
                  refine j_icmpR_ge (pc := 99) (tgt := 106) ⟨by omega, by omega⟩ ⟨by omega, by omega⟩ dX12_leads_99 rfl (fun h115 => ?_) (fun h115 => ?_)
                  · refine j_iconst (pc := 106) dX12_leads_106 ?_
                    refine j_istore (pc := 107) (i := 5) (ls' := [(0, vR 88), (1, vI a), (2, vI b), (4, vI w), (5, vI 0)]) [1, 2, 3, 5, 0] dX12_leads_107 (Nat.le_of_ble_eq_true rfl) rfl rfl ?_
                    refine j_iload (pc := 109) dX12_leads_109 rfl ?_
                    refine j_ifR_ne (pc := 111) (tgt := 125) ⟨by omega, by omega⟩ dX12_leads_111 rfl (fun h116 => ?_) (fun h116 => ?_)
                    · refine j_iload (pc := 125) dX12_leads_125 rfl ?_
                      refine j_bipush (pc := 127) dX12_leads_127 rfl ?_
                      refine j_isub (pc := 129) dX12_leads_129 ?_
                      refine j_top (fun z117 ez117 hz117 => ?_)
                      have gz117 : w - 10 < -2147483648 ∨ 2147483647 < w - 10 ∨ z117 = w - 10 := by rw [ez117]; exact w32_or _
                      refine j_iload (pc := 130) dX12_leads_130 rfl ?_
                      refine j_iadd (pc := 132) dX12_leads_132 ?_
                      refine j_iconst (pc := 133) dX12_leads_133 ?_
                      refine j_irem (pc := 134) dX12_leads_134 (tw_nz ⟨by omega, by omega⟩ (by omega)) (fun z118 ez118 => ?_)
                      have hz118 : (-2147483648 : Int) ≤ z118 ∧ z118 ≤ 2147483647 := by rw [ez118]; exact rem_in _ _
                      exact j_iret (pc := 135) ⟨rfl, rfl⟩ dX12_leads_135 rfl ⟨_, rfl, ⟨by omega, by omega⟩, hIσ78, hFσ78, trivial⟩
                    · refine j_aload_n (pc := 114) dX12_leads_114 rfl rfl ?_
                      refine j_iload_n (pc := 115) dX12_leads_115 rfl rfl ?_
                      refine j_iload_n (pc := 116) dX12_leads_116 rfl rfl ?_
                      refine j_iload (pc := 117) dX12_leads_117 rfl ?_
                      refine j_callV (pc := 119) (As := [vI a, vI b, vI 0]) (st := []) (c_X12_turnsCost hM a ⟨by omega, by omega⟩ b ⟨by omega, by omega⟩ 0 (by (first | decide | exact ⟨by omega, by omega⟩)) σ78 hIσ78) mv_X12_339 rfl rfl rfl (a_88 hM) dX12_leads_119 ⟨Nat.le_of_ble_eq_true rfl, Nat.le_of_ble_eq_true rfl⟩ ⟨Nat.le_refl _, Nat.le_refl _⟩ rfl (Nat.le_of_ble_eq_true rfl) rfl (fun z119 σ120 hz119 => ?_)
                      obtain ⟨r122, rfl, hr122, rfl, -⟩ := hz119
                      refine j_st (st' := [vI r122]) rfl ?_
                      refine j_goto (pc := 122) (tgt := 135) dX12_leads_122 rfl ?_
                      exact j_iret (pc := 135) ⟨rfl, rfl⟩ dX12_leads_135 rfl ⟨_, rfl, ⟨by omega, by omega⟩, hIσ78, hFσ78, trivial⟩
                  · refine j_iconst (pc := 102) dX12_leads_102 ?_
                    refine j_goto (pc := 103) (tgt := 107) dX12_leads_103 rfl ?_
                    refine j_istore (pc := 107) (i := 5) (ls' := [(0, vR 88), (1, vI a), (2, vI b), (4, vI w), (5, vI 1)]) [1, 2, 3, 5, 0] dX12_leads_107 (Nat.le_of_ble_eq_true rfl) rfl rfl ?_
                    refine j_iload (pc := 109) dX12_leads_109 rfl ?_
                    refine j_ifR_ne (pc := 111) (tgt := 125) ⟨by omega, by omega⟩ dX12_leads_111 rfl (fun h123 => ?_) (fun h123 => ?_)
                    · refine j_iload (pc := 125) dX12_leads_125 rfl ?_
                      refine j_bipush (pc := 127) dX12_leads_127 rfl ?_
                      refine j_isub (pc := 129) dX12_leads_129 ?_
                      refine j_top (fun z124 ez124 hz124 => ?_)
                      have gz124 : w - 10 < -2147483648 ∨ 2147483647 < w - 10 ∨ z124 = w - 10 := by rw [ez124]; exact w32_or _
                      refine j_iload (pc := 130) dX12_leads_130 rfl ?_
                      refine j_iadd (pc := 132) dX12_leads_132 ?_
                      refine j_top (fun z125 ez125 hz125 => ?_)
                      refine j_iconst (pc := 133) dX12_leads_133 ?_
                      refine j_irem (pc := 134) dX12_leads_134 (tw_nz ⟨by omega, by omega⟩ (by omega)) (fun z126 ez126 => ?_)
                      have hz126 : (-2147483648 : Int) ≤ z126 ∧ z126 ≤ 2147483647 := by rw [ez126]; exact rem_in _ _
                      exact j_iret (pc := 135) ⟨rfl, rfl⟩ dX12_leads_135 rfl ⟨_, rfl, ⟨by omega, by omega⟩, hIσ78, hFσ78, trivial⟩
                    · refine j_aload_n (pc := 114) dX12_leads_114 rfl rfl ?_
                      refine j_iload_n (pc := 115) dX12_leads_115 rfl rfl ?_
                      refine j_iload_n (pc := 116) dX12_leads_116 rfl rfl ?_
                      refine j_iload (pc := 117) dX12_leads_117 rfl ?_
                      refine j_callV (pc := 119) (As := [vI a, vI b, vI 1]) (st := []) (c_X12_turnsCost hM a ⟨by omega, by omega⟩ b ⟨by omega, by omega⟩ 1 (by (first | decide | exact ⟨by omega, by omega⟩)) σ78 hIσ78) mv_X12_339 rfl rfl rfl (a_88 hM) dX12_leads_119 ⟨Nat.le_of_ble_eq_true rfl, Nat.le_of_ble_eq_true rfl⟩ ⟨Nat.le_refl _, Nat.le_refl _⟩ rfl (Nat.le_of_ble_eq_true rfl) rfl (fun z127 σ128 hz127 => ?_)
                      obtain ⟨r130, rfl, hr130, rfl, -⟩ := hz127
                      refine j_st (st' := [vI r130]) rfl ?_
                      refine j_goto (pc := 122) (tgt := 135) dX12_leads_122 rfl ?_
                      exact j_iret (pc := 135) ⟨rfl, rfl⟩ dX12_leads_135 rfl ⟨_, rfl, ⟨by omega, by omega⟩, hIσ78, hFσ78, trivial⟩
              · refine j_iconst (pc := 79) dX12_leads_79 ?_
                exact j_iret (pc := 80) ⟨rfl, rfl⟩ dX12_leads_80 rfl ⟨_, rfl, ⟨by omega, by omega⟩, hIσ78, hFσ78, trivial⟩
          · refine j_bipush (pc := 59) dX12_leads_59 rfl ?_
            exact j_iret (pc := 61) ⟨rfl, rfl⟩ dX12_leads_61 rfl ⟨_, rfl, ⟨by omega, by omega⟩, hIσ78, hFσ78, trivial⟩
        · refine j_iconst (pc := 44) dX12_leads_44 ?_
          exact j_iret (pc := 45) ⟨rfl, rfl⟩ dX12_leads_45 rfl ⟨_, rfl, ⟨by omega, by omega⟩, hI, (tw_F_rf), trivial⟩
