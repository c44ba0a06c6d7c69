/-! 32ap.model -/
theorem dX12_read_0 : decode cX12_read 0 = .ok (.iload_n 1, 1) := by decide +kernel
theorem dX12_read_1 : decode cX12_read 1 = .ok (.iload_n 2, 1) := by decide +kernel
theorem dX12_read_2 : decode cX12_read 2 = .ok (.invokestatic 377, 3) := by decide +kernel
theorem dX12_read_5 : decode cX12_read 5 = .ok (.ifCond .eq 16, 3) := by decide +kernel
theorem dX12_read_8 : decode cX12_read 8 = .ok (.iload 4, 2) := by decide +kernel
theorem dX12_read_10 : decode cX12_read 10 = .ok (.i2l, 1) := by decide +kernel
theorem dX12_read_11 : decode cX12_read 11 = .ok (.lconst 0, 1) := by decide +kernel
theorem dX12_read_12 : decode cX12_read 12 = .ok (.ldc2_w 187, 3) := by decide +kernel
theorem dX12_read_15 : decode cX12_read 15 = .ok (.invokestatic 82, 3) := by decide +kernel
theorem dX12_read_18 : decode cX12_read 18 = .ok (.ifCond .ne 5, 3) := by decide +kernel
theorem dX12_read_21 : decode cX12_read 21 = .ok (.iconst (-1), 1) := by decide +kernel
theorem dX12_read_22 : decode cX12_read 22 = .ok (.ireturn, 1) := by decide +kernel
theorem dX12_read_23 : decode cX12_read 23 = .ok (.aload_n 0, 1) := by decide +kernel
theorem dX12_read_24 : decode cX12_read 24 = .ok (.sipush 300, 3) := by decide +kernel
theorem dX12_read_27 : decode cX12_read 27 = .ok (.iconst 0, 1) := by decide +kernel
theorem dX12_read_28 : decode cX12_read 28 = .ok (.invokevirtual 283, 3) := by decide +kernel
theorem dX12_read_31 : decode cX12_read 31 = .ok (.iconst 0, 1) := by decide +kernel
theorem dX12_read_32 : decode cX12_read 32 = .ok (.istore 5, 2) := by decide +kernel
theorem dX12_read_34 : decode cX12_read 34 = .ok (.iconst 0, 1) := by decide +kernel
theorem dX12_read_35 : decode cX12_read 35 = .ok (.istore 6, 2) := by decide +kernel
theorem dX12_read_37 : decode cX12_read 37 = .ok (.iconst 0, 1) := by decide +kernel
theorem dX12_read_38 : decode cX12_read 38 = .ok (.istore 7, 2) := by decide +kernel
theorem dX12_read_40 : decode cX12_read 40 = .ok (.iload 7, 2) := by decide +kernel
theorem dX12_read_42 : decode cX12_read 42 = .ok (.iload 4, 2) := by decide +kernel
theorem dX12_read_44 : decode cX12_read 44 = .ok (.if_icmp .ge 162, 3) := by decide +kernel
theorem dX12_read_47 : decode cX12_read 47 = .ok (.iload 5, 2) := by decide +kernel
theorem dX12_read_49 : decode cX12_read 49 = .ok (.ifCond .ne 157, 3) := by decide +kernel
theorem dX12_read_52 : decode cX12_read 52 = .ok (.iconst 0, 1) := by decide +kernel
theorem dX12_read_53 : decode cX12_read 53 = .ok (.istore 8, 2) := by decide +kernel
theorem dX12_read_55 : decode cX12_read 55 = .ok (.iload 8, 2) := by decide +kernel
theorem dX12_read_57 : decode cX12_read 57 = .ok (.iconst 2, 1) := by decide +kernel
theorem dX12_read_58 : decode cX12_read 58 = .ok (.if_icmp .ge 84, 3) := by decide +kernel
theorem dX12_read_61 : decode cX12_read 61 = .ok (.iload 5, 2) := by decide +kernel
theorem dX12_read_63 : decode cX12_read 63 = .ok (.ifCond .ne 79, 3) := by decide +kernel
theorem dX12_read_66 : decode cX12_read 66 = .ok (.iload_n 3, 1) := by decide +kernel
theorem dX12_read_67 : decode cX12_read 67 = .ok (.i2l, 1) := by decide +kernel
theorem dX12_read_68 : decode cX12_read 68 = .ok (.iconst 2, 1) := by decide +kernel
theorem dX12_read_69 : decode cX12_read 69 = .ok (.iload 7, 2) := by decide +kernel
theorem dX12_read_71 : decode cX12_read 71 = .ok (.imul, 1) := by decide +kernel
theorem dX12_read_72 : decode cX12_read 72 = .ok (.i2l, 1) := by decide +kernel
theorem dX12_read_73 : decode cX12_read 73 = .ok (.ladd, 1) := by decide +kernel
theorem dX12_read_74 : decode cX12_read 74 = .ok (.iload 8, 2) := by decide +kernel
theorem dX12_read_76 : decode cX12_read 76 = .ok (.i2l, 1) := by decide +kernel
theorem dX12_read_77 : decode cX12_read 77 = .ok (.ladd, 1) := by decide +kernel
theorem dX12_read_78 : decode cX12_read 78 = .ok (.lstore 9, 2) := by decide +kernel
theorem dX12_read_80 : decode cX12_read 80 = .ok (.aload_n 0, 1) := by decide +kernel
theorem dX12_read_81 : decode cX12_read 81 = .ok (.getfield 56, 3) := by decide +kernel
theorem dX12_read_84 : decode cX12_read 84 = .ok (.iload_n 1, 1) := by decide +kernel
theorem dX12_read_85 : decode cX12_read 85 = .ok (.iaload, 1) := by decide +kernel
theorem dX12_read_86 : decode cX12_read 86 = .ok (.bipush (-4), 2) := by decide +kernel
theorem dX12_read_88 : decode cX12_read 88 = .ok (.if_icmp .ne 7, 3) := by decide +kernel
theorem dX12_read_91 : decode cX12_read 91 = .ok (.iconst 1, 1) := by decide +kernel
theorem dX12_read_92 : decode cX12_read 92 = .ok (.goto 42, 3) := by decide +kernel
theorem dX12_read_95 : decode cX12_read 95 = .ok (.aload_n 0, 1) := by decide +kernel
theorem dX12_read_96 : decode cX12_read 96 = .ok (.getfield 56, 3) := by decide +kernel
theorem dX12_read_99 : decode cX12_read 99 = .ok (.iload_n 1, 1) := by decide +kernel
theorem dX12_read_100 : decode cX12_read 100 = .ok (.iaload, 1) := by decide +kernel
theorem dX12_read_101 : decode cX12_read 101 = .ok (.iload_n 2, 1) := by decide +kernel
theorem dX12_read_102 : decode cX12_read 102 = .ok (.if_icmp .eq 7, 3) := by decide +kernel
theorem dX12_read_105 : decode cX12_read 105 = .ok (.iconst 3, 1) := by decide +kernel
theorem dX12_read_106 : decode cX12_read 106 = .ok (.goto 28, 3) := by decide +kernel
theorem dX12_read_109 : decode cX12_read 109 = .ok (.lload 9, 2) := by decide +kernel
theorem dX12_read_111 : decode cX12_read 111 = .ok (.lconst 0, 1) := by decide +kernel
theorem dX12_read_112 : decode cX12_read 112 = .ok (.lcmp, 1) := by decide +kernel
theorem dX12_read_113 : decode cX12_read 113 = .ok (.ifCond .lt 16, 3) := by decide +kernel
theorem dX12_read_116 : decode cX12_read 116 = .ok (.lload 9, 2) := by decide +kernel
theorem dX12_read_118 : decode cX12_read 118 = .ok (.aload_n 0, 1) := by decide +kernel
theorem dX12_read_119 : decode cX12_read 119 = .ok (.getfield 59, 3) := by decide +kernel
theorem dX12_read_122 : decode cX12_read 122 = .ok (.iload_n 1, 1) := by decide +kernel
theorem dX12_read_123 : decode cX12_read 123 = .ok (.iaload, 1) := by decide +kernel
theorem dX12_read_124 : decode cX12_read 124 = .ok (.i2l, 1) := by decide +kernel
theorem dX12_read_125 : decode cX12_read 125 = .ok (.lcmp, 1) := by decide +kernel
theorem dX12_read_126 : decode cX12_read 126 = .ok (.ifCond .lt 7, 3) := by decide +kernel
theorem dX12_read_129 : decode cX12_read 129 = .ok (.iconst 2, 1) := by decide +kernel
theorem dX12_read_130 : decode cX12_read 130 = .ok (.goto 4, 3) := by decide +kernel
theorem dX12_read_133 : decode cX12_read 133 = .ok (.iconst 0, 1) := by decide +kernel
theorem dX12_read_134 : decode cX12_read 134 = .ok (.istore 5, 2) := by decide +kernel
theorem dX12_read_136 : decode cX12_read 136 = .ok (.iinc 8 1, 3) := by decide +kernel
theorem dX12_read_139 : decode cX12_read 139 = .ok (.goto (-84), 3) := by decide +kernel
theorem dX12_read_142 : decode cX12_read 142 = .ok (.iload 5, 2) := by decide +kernel
theorem dX12_read_144 : decode cX12_read 144 = .ok (.ifCond .ne 56, 3) := by decide +kernel
theorem dX12_read_147 : decode cX12_read 147 = .ok (.bipush 40, 2) := by decide +kernel
theorem dX12_read_149 : decode cX12_read 149 = .ok (.iload_n 1, 1) := by decide +kernel
theorem dX12_read_150 : decode cX12_read 150 = .ok (.imul, 1) := by decide +kernel
theorem dX12_read_151 : decode cX12_read 151 = .ok (.iload_n 3, 1) := by decide +kernel
theorem dX12_read_152 : decode cX12_read 152 = .ok (.iadd, 1) := by decide +kernel
theorem dX12_read_153 : decode cX12_read 153 = .ok (.iconst 2, 1) := by decide +kernel
theorem dX12_read_154 : decode cX12_read 154 = .ok (.iload 7, 2) := by decide +kernel
theorem dX12_read_156 : decode cX12_read 156 = .ok (.imul, 1) := by decide +kernel
theorem dX12_read_157 : decode cX12_read 157 = .ok (.iadd, 1) := by decide +kernel
theorem dX12_read_158 : decode cX12_read 158 = .ok (.istore 8, 2) := by decide +kernel
theorem dX12_read_160 : decode cX12_read 160 = .ok (.aload_n 0, 1) := by decide +kernel
theorem dX12_read_161 : decode cX12_read 161 = .ok (.aload_n 0, 1) := by decide +kernel
theorem dX12_read_162 : decode cX12_read 162 = .ok (.getfield 62, 3) := by decide +kernel
theorem dX12_read_165 : decode cX12_read 165 = .ok (.iload 8, 2) := by decide +kernel
theorem dX12_read_167 : decode cX12_read 167 = .ok (.iaload, 1) := by decide +kernel
theorem dX12_read_168 : decode cX12_read 168 = .ok (.aload_n 0, 1) := by decide +kernel
theorem dX12_read_169 : decode cX12_read 169 = .ok (.getfield 62, 3) := by decide +kernel
theorem dX12_read_172 : decode cX12_read 172 = .ok (.iload 8, 2) := by decide +kernel
theorem dX12_read_174 : decode cX12_read 174 = .ok (.iconst 1, 1) := by decide +kernel
theorem dX12_read_175 : decode cX12_read 175 = .ok (.iadd, 1) := by decide +kernel
theorem dX12_read_176 : decode cX12_read 176 = .ok (.iaload, 1) := by decide +kernel
theorem dX12_read_177 : decode cX12_read 177 = .ok (.invokevirtual 380, 3) := by decide +kernel
theorem dX12_read_180 : decode cX12_read 180 = .ok (.ifCond .ge 17, 3) := by decide +kernel
theorem dX12_read_183 : decode cX12_read 183 = .ok (.aload_n 0, 1) := by decide +kernel
theorem dX12_read_184 : decode cX12_read 184 = .ok (.iconst 0, 1) := by decide +kernel
theorem dX12_read_185 : decode cX12_read 185 = .ok (.sipush 300, 3) := by decide +kernel
theorem dX12_read_188 : decode cX12_read 188 = .ok (.invokevirtual 283, 3) := by decide +kernel
theorem dX12_read_191 : decode cX12_read 191 = .ok (.bipush (-20), 2) := by decide +kernel
theorem dX12_read_193 : decode cX12_read 193 = .ok (.iload 7, 2) := by decide +kernel
theorem dX12_read_195 : decode cX12_read 195 = .ok (.isub, 1) := by decide +kernel
theorem dX12_read_196 : decode cX12_read 196 = .ok (.ireturn, 1) := by decide +kernel
theorem dX12_read_197 : decode cX12_read 197 = .ok (.iinc 6 1, 3) := by decide +kernel
theorem dX12_read_200 : decode cX12_read 200 = .ok (.iinc 7 1, 3) := by decide +kernel
theorem dX12_read_203 : decode cX12_read 203 = .ok (.goto (-163), 3) := by decide +kernel
theorem dX12_read_206 : decode cX12_read 206 = .ok (.aload_n 0, 1) := by decide +kernel
theorem dX12_read_207 : decode cX12_read 207 = .ok (.iload 5, 2) := by decide +kernel
theorem dX12_read_209 : decode cX12_read 209 = .ok (.putfield 383, 3) := by decide +kernel
theorem dX12_read_212 : decode cX12_read 212 = .ok (.iload 6, 2) := by decide +kernel
theorem dX12_read_214 : decode cX12_read 214 = .ok (.ireturn, 1) := by decide +kernel
abbrev q_X12_read (k : Int) (l : Int) (f : Int) (n : Int) (σ : tw_M) : Option tw_V → tw_M → Prop := fun z τ => ∃ r : Int, z = some (vI r) ∧ (-2147483648 ≤ r ∧ r ≤ 2147483647) ∧ tw_I τ ∧ tw_F (fun c j => (c = 88 ∧ (j = 38)) ∨ (c = 89 ∧ (j < 100 ∨ 300 ≤ j))) σ τ ∧ (mI τ) ∧ (τ 89 93 = σ 89 93) ∧ (τ 89 94 = σ 89 94) ∧ (τ 89 95 = σ 89 95) ∧ (τ 89 96 = σ 89 96) ∧ (∀ rk : Nat → Int, MOB rk 0 σ → (r = -1 ∧ ¬ (0 ≤ k ∧ k ≤ 3 ∧ 0 ≤ l ∧ l ≤ 2 ∧ 0 ≤ n ∧ n ≤ 10) ∧ ∀ c j, τ c j = σ c j) ∨ ((0 ≤ k ∧ k ≤ 3 ∧ 0 ≤ l ∧ l ≤ 2 ∧ 0 ≤ n ∧ n ≤ 10) ∧ ∃ cz : Int, ((cz = 0 ∧ 0 < n ∧ r = 0 ∧ τ 88 38 = 1 ∧ σ 104 k.toNat = -4) ∨ (cz = 0 ∧ 0 < n ∧ r = 0 ∧ τ 88 38 = 3 ∧ ¬ σ 104 k.toNat = -4 ∧ ¬ σ 104 k.toNat = l) ∨ ((n = 0 ∨ (¬ σ 104 k.toNat = -4 ∧ σ 104 k.toNat = l)) ∧ RDE (rdF (σ 105 k.toNat) f) (fun x => rdO (wM σ) rk (CM k σ) f (gM 0 σ) x = 0) n cz r (τ 88 38))) ∧ ((0 ≤ r ∧ RDM rk (CM k σ) f cz.toNat σ τ) ∨ (r < 0 ∧ RDM rk (CM k σ) f 0 σ τ ∧ τ 88 38 = σ 88 38))))
set_option maxHeartbeats 4000000 in
set_option maxRecDepth 100000 in
theorem l_X12_read {G : tw_G} (hM : tw_isM G) (k : Int) (hk : -2147483648 ≤ k ∧ k ≤ 2147483647) (l : Int) (hl : -2147483648 ≤ l ∧ l ≤ 2147483647) (f : Int) (hf : -2147483648 ≤ f ∧ f ≤ 2147483647) (n : Int) (hn : -2147483648 ≤ n ∧ n ≤ 2147483647) (σ : tw_M) (hI : tw_I σ) (hq0 : mI σ) : ∀ N_ : Nat, (∀ (e : Int) (he : 0 ≤ e ∧ e ≤ 3) (m : Int) (hm : 0 ≤ m ∧ m ≤ 10) (i : Int) (hi : 0 ≤ i ∧ i ≤ 10) (τ : tw_M) (hIτ : tw_I τ) (hFτ : tw_F (fun c j => (c = 88 ∧ (j = 38)) ∨ (c = 89 ∧ (j < 100 ∨ 300 ≤ j))) σ τ) (i0 : mI τ) (i1 : 0 ≤ k ∧ k ≤ 3 ∧ 0 ≤ l ∧ l ≤ 2) (i2 : 0 ≤ n ∧ n ≤ 10) (i3 : ∀ j : Nat, (j : Int) < 100 → τ 89 (300 + (j : Int)).toNat = σ 89 (0 + (j : Int)).toNat) (i4 : m ≤ i) (i5 : τ 89 93 = σ 89 93) (i6 : τ 89 94 = σ 89 94) (i7 : τ 89 95 = σ 89 95) (i8 : τ 89 96 = σ 89 96) (i9 : (e = 0 ∧ m = i) ∨ (e = 2 ∧ m + 1 = i ∧ ¬ (0 ≤ f + 2 * m ∧ f + 2 * m + 1 < σ 105 k.toNat) ∧ (¬ σ 104 k.toNat = -4 ∧ σ 104 k.toNat = l)) ∨ (e = 1 ∧ m = 0 ∧ 0 < n ∧ σ 104 k.toNat = -4) ∨ (e = 3 ∧ m = 0 ∧ 0 < n ∧ ¬ σ 104 k.toNat = -4 ∧ ¬ σ 104 k.toNat = l)) (i10 : ¬ e = 0 ∨ i = 0 ∨ (¬ σ 104 k.toNat = -4 ∧ σ 104 k.toNat = l)) (i11 : i ≤ n) (i12 : τ 88 38 = σ 88 38) (i13 : ∀ rk : Nat → Int, MOB rk 0 σ → RDM rk (CM k σ) f m.toNat σ τ ∧ ∀ x : Nat, (x : Int) < m → rdF (σ 105 k.toNat) f x ∧ rdO (wM σ) rk (CM k σ) f (gM 0 σ) x = 0) (hm : (100 * (11 - i)).toNat < N_), tw_J G (tw_mt RX12 cX12_read 11 (some .int) 5) (tw_E G (q_X12_read k l f n σ)) 40 [(0, vR 88), (1, vI k), (2, vI l), (3, vI f), (4, vI n), (5, vI e), (6, vI m), (7, vI i)] [] τ) ∧ (∀ (e : Int) (he : 0 ≤ e ∧ e ≤ 3) (m : Int) (hm : 0 ≤ m ∧ m ≤ 10) (i : Int) (hi : 0 ≤ i ∧ i ≤ 9) (c : Int) (hc : 0 ≤ c ∧ c ≤ 2) (τ : tw_M) (hIτ : tw_I τ) (hFτ : tw_F (fun c j => (c = 88 ∧ (j = 38)) ∨ (c = 89 ∧ (j < 100 ∨ 300 ≤ j))) σ τ) (i0 : mI τ) (i1 : 0 ≤ k ∧ k ≤ 3 ∧ 0 ≤ l ∧ l ≤ 2) (i2 : 0 ≤ n ∧ n ≤ 10) (i3 : ∀ j : Nat, (j : Int) < 100 → τ 89 (300 + (j : Int)).toNat = σ 89 (0 + (j : Int)).toNat) (i4 : m ≤ i) (i5 : i < n) (i6 : ¬ e = 0 ∨ ((c = 0 ∨ (0 ≤ f + 2 * i ∧ f + 2 * i < τ 105 k.toNat)) ∧ (c ≤ 1 ∨ f + 2 * i + 1 < τ 105 k.toNat))) (i7 : τ 89 93 = σ 89 93) (i8 : τ 89 94 = σ 89 94) (i9 : τ 89 95 = σ 89 95) (i10 : τ 89 96 = σ 89 96) (i11 : m = i) (i12 : (e = 0 ∧ (c = 0 ∨ (¬ σ 104 k.toNat = -4 ∧ σ 104 k.toNat = l))) ∨ (e = 1 ∧ σ 104 k.toNat = -4) ∨ (e = 3 ∧ ¬ σ 104 k.toNat = -4 ∧ ¬ σ 104 k.toNat = l) ∨ (e = 2 ∧ (¬ σ 104 k.toNat = -4 ∧ σ 104 k.toNat = l) ∧ ¬ (0 ≤ f + 2 * i ∧ f + 2 * i + 1 < σ 105 k.toNat))) (i13 : i = 0 ∨ (¬ σ 104 k.toNat = -4 ∧ σ 104 k.toNat = l)) (i14 : τ 88 38 = σ 88 38) (i15 : ∀ rk : Nat → Int, MOB rk 0 σ → RDM rk (CM k σ) f m.toNat σ τ ∧ ∀ x : Nat, (x : Int) < m → rdF (σ 105 k.toNat) f x ∧ rdO (wM σ) rk (CM k σ) f (gM 0 σ) x = 0) (hm : (100 * (11 - i) - 1 - c).toNat < N_), tw_J G (tw_mt RX12 cX12_read 11 (some .int) 5) (tw_E G (q_X12_read k l f n σ)) 55 [(0, vR 88), (1, vI k), (2, vI l), (3, vI f), (4, vI n), (5, vI e), (6, vI m), (7, vI i), (8, vI c)] [] τ) := by
  intro N_
  induction N_ with
  | zero => exact ⟨fun e he m hm i hi τ hIτ hFτ i0 i1 i2 i3 i4 i5 i6 i7 i8 i9 i10 i11 i12 i13 hm => absurd hm (Nat.not_lt_zero _), fun e he m hm i hi c hc τ hIτ hFτ i0 i1 i2 i3 i4 i5 i6 i7 i8 i9 i10 i11 i12 i13 i14 i15 hm => absurd hm (Nat.not_lt_zero _)⟩
  | succ N_ ih =>
    refine ⟨?_, ?_⟩
    · intro e he m hm i hi τ hIτ hFτ i0 i1 i2 i3 i4 i5 i6 i7 i8 i9 i10 i11 i12 i13 hm
      have s104 : τ 104 k.toNat = σ 104 k.toNat := hFτ 104 _ (show ¬ ((104 = 88 ∧ (k.toNat = 38)) ∨ (104 = 89 ∧ (k.toNat < 100 ∨ 300 ≤ k.toNat))) from fun h => h.elim (fun h => absurd h.1 (by decide)) (fun h => absurd h.1 (by decide)))
      have s105 : τ 105 k.toNat = σ 105 k.toNat := hFτ 105 _ (show ¬ ((105 = 88 ∧ (k.toNat = 38)) ∨ (105 = 89 ∧ (k.toNat < 100 ∨ 300 ≤ k.toNat))) from fun h => h.elim (fun h => absurd h.1 (by decide)) (fun h => absurd h.1 (by decide)))
      have MT : wM τ = wM σ := wM_F (fun j a b => hFτ 91 j (show ¬ ((91 = 88 ∧ (j = 38)) ∨ (91 = 89 ∧ (j < 100 ∨ 300 ≤ j))) from fun h => h.elim (fun h => absurd h.1 (by decide)) (fun h => absurd h.1 (by decide)))) (fun j => hFτ 92 j (show ¬ ((92 = 88 ∧ (j = 38)) ∨ (92 = 89 ∧ (j < 100 ∨ 300 ≤ j))) from fun h => h.elim (fun h => absurd h.1 (by decide)) (fun h => absurd h.1 (by decide))))
      have ft : (1 : Int) ≤ τ 91 0 ∧ τ 91 0 ≤ 40 := hIτ 91 0
      refine j_iload (pc := 40) dX12_read_40 rfl ?_
      refine j_iload (pc := 42) dX12_read_42 rfl ?_
      refine j_icmpR_ge (pc := 44) (tgt := 206) ⟨by omega, by omega⟩ ⟨by omega, by omega⟩ dX12_read_44 rfl (fun h1 => ?_) (fun h1 => ?_)
      · refine j_aload_n (pc := 206) dX12_read_206 rfl rfl ?_
        refine j_iload (pc := 207) dX12_read_207 rfl ?_
        refine j_putI (pc := 209) fl_X12_383 fp_X12_38 dX12_read_209 (a_88 hM) rfl (j_nm (fun σ2 (eσ2 : σ2 = tw_up τ 88 38 e) => ?_))
        have hIσ2 : tw_I σ2 := tw_I_up hIτ eσ2 (show (-2147483648 : Int) ≤ e ∧ e ≤ 2147483647 from ⟨by omega, by omega⟩)
        have hFσ2 : tw_F (fun c j => (c = 88 ∧ (j = 38)) ∨ (c = 89 ∧ (j < 100 ∨ 300 ≤ j))) σ σ2 := tw_F_up hFτ eσ2 (show (88 = 88 ∧ (38 = 38)) ∨ (88 = 89 ∧ (38 < 100 ∨ 300 ≤ 38)) from (Or.inl ⟨rfl, rfl⟩))
        have mI9 : mI σ2 := mI_kept i0 (fun j hj => tw_ne1 eσ2 (by (first | decide | omega))) (fun j => tw_ne1 eσ2 (by (first | decide | omega))) (tw_ne1 eσ2 (by (first | decide | omega))) hIτ
        refine j_iload (pc := 212) dX12_read_212 rfl ?_
        have t9 : σ2 88 38 = e := tw_eq1 eσ2
        have fin : ∀ rk : Nat → Int, MOB rk 0 σ → (m = -1 ∧ ¬ (0 ≤ k ∧ k ≤ 3 ∧ 0 ≤ l ∧ l ≤ 2 ∧ 0 ≤ n ∧ n ≤ 10) ∧ ∀ c j, σ2 c j = σ c j) ∨ ((0 ≤ k ∧ k ≤ 3 ∧ 0 ≤ l ∧ l ≤ 2 ∧ 0 ≤ n ∧ n ≤ 10) ∧ ∃ cz : Int, ((cz = 0 ∧ 0 < n ∧ m = 0 ∧ σ2 88 38 = 1 ∧ σ 104 k.toNat = -4) ∨ (cz = 0 ∧ 0 < n ∧ m = 0 ∧ σ2 88 38 = 3 ∧ ¬ σ 104 k.toNat = -4 ∧ ¬ σ 104 k.toNat = l) ∨ ((n = 0 ∨ (¬ σ 104 k.toNat = -4 ∧ σ 104 k.toNat = l)) ∧ RDE (rdF (σ 105 k.toNat) f) (fun x => rdO (wM σ) rk (CM k σ) f (gM 0 σ) x = 0) n cz m (σ2 88 38))) ∧ ((0 ≤ m ∧ RDM rk (CM k σ) f cz.toNat σ σ2) ∨ (m < 0 ∧ RDM rk (CM k σ) f 0 σ σ2 ∧ σ2 88 38 = σ 88 38))) := fun rk M => by
          obtain ⟨a, b⟩ := i13 rk M
          have a2 := RDM_F a (m := σ2) (fun j hj => ((tw_ne1 eσ2 (by (first | decide | omega))))) ((tw_ne1 eσ2 (by (first | decide | omega))))
          refine Or.inr ⟨by omega, m, ?_, Or.inl ⟨by omega, a2⟩⟩
          rcases i9 with ⟨e1, e2⟩ | ⟨e1, e2, e3, e4⟩ | ⟨e1, e2, e3, e4⟩ | ⟨e1, e2, e3, e4, e5⟩
          · exact Or.inr (Or.inr ⟨by omega, ⟨by omega, by omega⟩, b, Or.inl ⟨by omega, by omega, by omega⟩⟩)
          · exact Or.inr (Or.inr ⟨Or.inr e4, ⟨by omega, by omega⟩, b, Or.inr (Or.inl ⟨by omega, fun z => e3 (by unfold rdF at z; omega), by omega, by omega⟩)⟩)
          · exact Or.inl ⟨by omega, by omega, by omega, by omega, e4⟩
          · exact Or.inr (Or.inl ⟨by omega, by omega, by omega, by omega, e4, e5⟩)
        have y3 : σ2 89 93 = τ 89 93 := (tw_ne1 eσ2 (by (first | decide | omega)))
        have f4 : (0 : Int) ≤ τ 89 93 ∧ τ 89 93 ≤ 999 := hIτ 89 93
        have y5 : σ2 89 94 = τ 89 94 := (tw_ne1 eσ2 (by (first | decide | omega)))
        have f6 : (-2147483648 : Int) ≤ τ 89 94 ∧ τ 89 94 ≤ 2147483647 := hIτ 89 94
        have y7 : σ2 89 95 = τ 89 95 := (tw_ne1 eσ2 (by (first | decide | omega)))
        have f8 : (0 : Int) ≤ τ 89 95 ∧ τ 89 95 ≤ 999 := hIτ 89 95
        have y9 : σ2 89 96 = τ 89 96 := (tw_ne1 eσ2 (by (first | decide | omega)))
        have f10 : (-2147483648 : Int) ≤ τ 89 96 ∧ τ 89 96 ≤ 2147483647 := hIτ 89 96
        have y11 : σ2 88 38 = e := (tw_eq1 eσ2)
        exact j_iret (pc := 214) ⟨rfl, rfl⟩ dX12_read_214 rfl ⟨_, rfl, ⟨by omega, by omega⟩, hIσ2, hFσ2, (by first | exact mI9 | exact hq0), (by first | rfl | exact r93 | exact ((tw_ne1 eσ2 (by (first | decide | omega)))).trans i5 | omega), (by first | rfl | exact r94 | exact ((tw_ne1 eσ2 (by (first | decide | omega)))).trans i6 | omega), (by first | rfl | exact r95 | exact ((tw_ne1 eσ2 (by (first | decide | omega)))).trans i7 | omega), (by first | rfl | exact r96 | exact ((tw_ne1 eσ2 (by (first | decide | omega)))).trans i8 | omega), fin⟩
      · refine j_iload (pc := 47) dX12_read_47 rfl ?_
        refine j_ifR_ne (pc := 49) (tgt := 206) ⟨by omega, by omega⟩ dX12_read_49 rfl (fun h12 => ?_) (fun h12 => ?_)
        · refine j_aload_n (pc := 206) dX12_read_206 rfl rfl ?_
          refine j_iload (pc := 207) dX12_read_207 rfl ?_
          refine j_putI (pc := 209) fl_X12_383 fp_X12_38 dX12_read_209 (a_88 hM) rfl (j_nm (fun σ13 (eσ13 : σ13 = tw_up τ 88 38 e) => ?_))
          have hIσ13 : tw_I σ13 := tw_I_up hIτ eσ13 (show (-2147483648 : Int) ≤ e ∧ e ≤ 2147483647 from ⟨by omega, by omega⟩)
          have hFσ13 : tw_F (fun c j => (c = 88 ∧ (j = 38)) ∨ (c = 89 ∧ (j < 100 ∨ 300 ≤ j))) σ σ13 := tw_F_up hFτ eσ13 (show (88 = 88 ∧ (38 = 38)) ∨ (88 = 89 ∧ (38 < 100 ∨ 300 ≤ 38)) from (Or.inl ⟨rfl, rfl⟩))
          have mI9 : mI σ13 := mI_kept i0 (fun j hj => tw_ne1 eσ13 (by (first | decide | omega))) (fun j => tw_ne1 eσ13 (by (first | decide | omega))) (tw_ne1 eσ13 (by (first | decide | omega))) hIτ
          refine j_iload (pc := 212) dX12_read_212 rfl ?_
          have t9 : σ13 88 38 = e := tw_eq1 eσ13
          have fin : ∀ rk : Nat → Int, MOB rk 0 σ → (m = -1 ∧ ¬ (0 ≤ k ∧ k ≤ 3 ∧ 0 ≤ l ∧ l ≤ 2 ∧ 0 ≤ n ∧ n ≤ 10) ∧ ∀ c j, σ13 c j = σ c j) ∨ ((0 ≤ k ∧ k ≤ 3 ∧ 0 ≤ l ∧ l ≤ 2 ∧ 0 ≤ n ∧ n ≤ 10) ∧ ∃ cz : Int, ((cz = 0 ∧ 0 < n ∧ m = 0 ∧ σ13 88 38 = 1 ∧ σ 104 k.toNat = -4) ∨ (cz = 0 ∧ 0 < n ∧ m = 0 ∧ σ13 88 38 = 3 ∧ ¬ σ 104 k.toNat = -4 ∧ ¬ σ 104 k.toNat = l) ∨ ((n = 0 ∨ (¬ σ 104 k.toNat = -4 ∧ σ 104 k.toNat = l)) ∧ RDE (rdF (σ 105 k.toNat) f) (fun x => rdO (wM σ) rk (CM k σ) f (gM 0 σ) x = 0) n cz m (σ13 88 38))) ∧ ((0 ≤ m ∧ RDM rk (CM k σ) f cz.toNat σ σ13) ∨ (m < 0 ∧ RDM rk (CM k σ) f 0 σ σ13 ∧ σ13 88 38 = σ 88 38))) := fun rk M => by
            obtain ⟨a, b⟩ := i13 rk M
            have a2 := RDM_F a (m := σ13) (fun j hj => ((tw_ne1 eσ13 (by (first | decide | omega))))) ((tw_ne1 eσ13 (by (first | decide | omega))))
            refine Or.inr ⟨by omega, m, ?_, Or.inl ⟨by omega, a2⟩⟩
            rcases i9 with ⟨e1, e2⟩ | ⟨e1, e2, e3, e4⟩ | ⟨e1, e2, e3, e4⟩ | ⟨e1, e2, e3, e4, e5⟩
            · exact Or.inr (Or.inr ⟨by omega, ⟨by omega, by omega⟩, b, Or.inl ⟨by omega, by omega, by omega⟩⟩)
            · exact Or.inr (Or.inr ⟨Or.inr e4, ⟨by omega, by omega⟩, b, Or.inr (Or.inl ⟨by omega, fun z => e3 (by unfold rdF at z; omega), by omega, by omega⟩)⟩)
            · exact Or.inl ⟨by omega, by omega, by omega, by omega, e4⟩
            · exact Or.inr (Or.inl ⟨by omega, by omega, by omega, by omega, e4, e5⟩)
          have y14 : σ13 89 93 = τ 89 93 := (tw_ne1 eσ13 (by (first | decide | omega)))
          have f15 : (0 : Int) ≤ τ 89 93 ∧ τ 89 93 ≤ 999 := hIτ 89 93
          have y16 : σ13 89 94 = τ 89 94 := (tw_ne1 eσ13 (by (first | decide | omega)))
          have f17 : (-2147483648 : Int) ≤ τ 89 94 ∧ τ 89 94 ≤ 2147483647 := hIτ 89 94
          have y18 : σ13 89 95 = τ 89 95 := (tw_ne1 eσ13 (by (first | decide | omega)))
          have f19 : (0 : Int) ≤ τ 89 95 ∧ τ 89 95 ≤ 999 := hIτ 89 95
          have y20 : σ13 89 96 = τ 89 96 := (tw_ne1 eσ13 (by (first | decide | omega)))
          have f21 : (-2147483648 : Int) ≤ τ 89 96 ∧ τ 89 96 ≤ 2147483647 := hIτ 89 96
          have y22 : σ13 88 38 = e := (tw_eq1 eσ13)
          exact j_iret (pc := 214) ⟨rfl, rfl⟩ dX12_read_214 rfl ⟨_, rfl, ⟨by omega, by omega⟩, hIσ13, hFσ13, (by first | exact mI9 | exact hq0), (by first | rfl | exact r93 | exact ((tw_ne1 eσ13 (by (first | decide | omega)))).trans i5 | omega), (by first | rfl | exact r94 | exact ((tw_ne1 eσ13 (by (first | decide | omega)))).trans i6 | omega), (by first | rfl | exact r95 | exact ((tw_ne1 eσ13 (by (first | decide | omega)))).trans i7 | omega), (by first | rfl | exact r96 | exact ((tw_ne1 eσ13 (by (first | decide | omega)))).trans i8 | omega), fin⟩
        · refine j_iconst (pc := 52) dX12_read_52 ?_
          refine j_istore (pc := 53) (i := 8) (ls' := [(0, vR 88), (1, vI k), (2, vI l), (3, vI f), (4, vI n), (5, vI e), (6, vI m), (7, vI i), (8, vI 0)]) [1, 2, 3, 4, 5, 6, 7, 8, 0] dX12_read_53 (Nat.le_of_ble_eq_true rfl) rfl rfl ?_
          refine j_ls (ls' := [(0, vR 88), (1, vI k), (2, vI l), (3, vI f), (4, vI n), (5, vI e), (6, vI m), (7, vI i), (8, vI 0)]) [0, 1, 2, 3, 4, 5, 6, 7, 8] rfl ?_
          exact ih.2 e ⟨by omega, by omega⟩ m ⟨by omega, by omega⟩ i ⟨by omega, by omega⟩ 0 (by (first | decide | exact ⟨by omega, by omega⟩)) τ hIτ hFτ (show mI τ from i0) (show 0 ≤ k ∧ k ≤ 3 ∧ 0 ≤ l ∧ l ≤ 2 from by omega) (show 0 ≤ n ∧ n ≤ 10 from by omega) (show ∀ j : Nat, (j : Int) < 100 → τ 89 (300 + (j : Int)).toNat = σ 89 (0 + (j : Int)).toNat from i3) (show m ≤ i from by omega) (show i < n from by omega) (show ¬ e = 0 ∨ (((0 : Int) = 0 ∨ (0 ≤ f + 2 * i ∧ f + 2 * i < τ 105 k.toNat)) ∧ ((0 : Int) ≤ 1 ∨ f + 2 * i + 1 < τ 105 k.toNat)) from by omega) (show τ 89 93 = σ 89 93 from (by first | exact i7 | exact i5 | omega)) (show τ 89 94 = σ 89 94 from (by first | exact i8 | exact i6 | omega)) (show τ 89 95 = σ 89 95 from (by first | exact i9 | exact i7 | omega)) (show τ 89 96 = σ 89 96 from (by first | exact i10 | exact i8 | omega)) (show m = i from by omega) (show (e = 0 ∧ ((0 : Int) = 0 ∨ (¬ σ 104 k.toNat = -4 ∧ σ 104 k.toNat = l))) ∨ (e = 1 ∧ σ 104 k.toNat = -4) ∨ (e = 3 ∧ ¬ σ 104 k.toNat = -4 ∧ ¬ σ 104 k.toNat = l) ∨ (e = 2 ∧ (¬ σ 104 k.toNat = -4 ∧ σ 104 k.toNat = l) ∧ ¬ (0 ≤ f + 2 * i ∧ f + 2 * i + 1 < σ 105 k.toNat)) from by omega) (show i = 0 ∨ (¬ σ 104 k.toNat = -4 ∧ σ 104 k.toNat = l) from by omega) (show τ 88 38 = σ 88 38 from by omega) (show ∀ rk : Nat → Int, MOB rk 0 σ → RDM rk (CM k σ) f m.toNat σ τ ∧ ∀ x : Nat, (x : Int) < m → rdF (σ 105 k.toNat) f x ∧ rdO (wM σ) rk (CM k σ) f (gM 0 σ) x = 0 from (by first | exact i15 | exact i13)) (show (100 * (11 - i) - 1 - (0 : Int)).toNat < N_ from by omega)
    · intro e he m hm i hi c hc τ hIτ hFτ i0 i1 i2 i3 i4 i5 i6 i7 i8 i9 i10 i11 i12 i13 i14 i15 hm
      have f105 : (0 : Int) ≤ τ 105 k.toNat ∧ τ 105 k.toNat ≤ 40 := hIτ 105 _
      have s104 : τ 104 k.toNat = σ 104 k.toNat := hFτ 104 _ (show ¬ ((104 = 88 ∧ (k.toNat = 38)) ∨ (104 = 89 ∧ (k.toNat < 100 ∨ 300 ≤ k.toNat))) from fun h => h.elim (fun h => absurd h.1 (by decide)) (fun h => absurd h.1 (by decide)))
      have s105 : τ 105 k.toNat = σ 105 k.toNat := hFτ 105 _ (show ¬ ((105 = 88 ∧ (k.toNat = 38)) ∨ (105 = 89 ∧ (k.toNat < 100 ∨ 300 ≤ k.toNat))) from fun h => h.elim (fun h => absurd h.1 (by decide)) (fun h => absurd h.1 (by decide)))
      have MT : wM τ = wM σ := wM_F (fun j a b => hFτ 91 j (show ¬ ((91 = 88 ∧ (j = 38)) ∨ (91 = 89 ∧ (j < 100 ∨ 300 ≤ j))) from fun h => h.elim (fun h => absurd h.1 (by decide)) (fun h => absurd h.1 (by decide)))) (fun j => hFτ 92 j (show ¬ ((92 = 88 ∧ (j = 38)) ∨ (92 = 89 ∧ (j < 100 ∨ 300 ≤ j))) from fun h => h.elim (fun h => absurd h.1 (by decide)) (fun h => absurd h.1 (by decide))))
      have ft : (1 : Int) ≤ τ 91 0 ∧ τ 91 0 ≤ 40 := hIτ 91 0
      refine j_iload (pc := 55) dX12_read_55 rfl ?_
      refine j_iconst (pc := 57) dX12_read_57 ?_
      refine j_icmpR_ge (pc := 58) (tgt := 142) ⟨by omega, by omega⟩ ⟨by omega, by omega⟩ dX12_read_58 rfl (fun h23 => ?_) (fun h23 => ?_)
      · refine j_iload (pc := 142) dX12_read_142 rfl ?_
        refine j_ifR_ne (pc := 144) (tgt := 200) ⟨by omega, by omega⟩ dX12_read_144 rfl (fun h24 => ?_) (fun h24 => ?_)
        · refine j_iinc (pc := 200) (i := 7) (n := 1) (ls' := [(0, vR 88), (1, vI k), (2, vI l), (3, vI f), (4, vI n), (5, vI e), (6, vI m), (7, vI (i + 1))]) [1, 2, 3, 4, 5, 6, 7, 0] dX12_read_200 rfl (Nat.le_of_ble_eq_true rfl) rfl rfl ?_
          refine j_goto (pc := 203) (tgt := 40) dX12_read_203 rfl ?_
          refine j_ls (ls' := [(0, vR 88), (1, vI k), (2, vI l), (3, vI f), (4, vI n), (5, vI e), (6, vI m), (7, vI (i + 1))]) [0, 1, 2, 3, 4, 5, 6, 7] rfl ?_
          exact ih.1 e ⟨by omega, by omega⟩ m ⟨by omega, by omega⟩ (i + 1) ⟨by omega, by omega⟩ τ hIτ hFτ (show mI τ from (by first | exact __0 | exact i0 | exact mI9)) (show 0 ≤ k ∧ k ≤ 3 ∧ 0 ≤ l ∧ l ≤ 2 from by omega) (show 0 ≤ n ∧ n ≤ 10 from by omega) (show ∀ j : Nat, (j : Int) < 100 → τ 89 (300 + (j : Int)).toNat = σ 89 (0 + (j : Int)).toNat from (by first | exact fun j hj => (hG_ 89 _ _).trans (i3 j hj) | exact i3 | exact __0)) (show m ≤ (i + 1) from by omega) (show τ 89 93 = σ 89 93 from (by first | exact (hG_ 89 93 _).trans i7 | exact i7 | omega)) (show τ 89 94 = σ 89 94 from (by first | exact (hG_ 89 94 _).trans i8 | exact i8 | omega)) (show τ 89 95 = σ 89 95 from (by first | exact (hG_ 89 95 _).trans i9 | exact i9 | omega)) (show τ 89 96 = σ 89 96 from (by first | exact (hG_ 89 96 _).trans i10 | exact i10 | omega)) (show (e = 0 ∧ m = (i + 1)) ∨ (e = 2 ∧ m + 1 = (i + 1) ∧ ¬ (0 ≤ f + 2 * m ∧ f + 2 * m + 1 < σ 105 k.toNat) ∧ (¬ σ 104 k.toNat = -4 ∧ σ 104 k.toNat = l)) ∨ (e = 1 ∧ m = 0 ∧ 0 < n ∧ σ 104 k.toNat = -4) ∨ (e = 3 ∧ m = 0 ∧ 0 < n ∧ ¬ σ 104 k.toNat = -4 ∧ ¬ σ 104 k.toNat = l) from by omega) (show ¬ e = 0 ∨ (i + 1) = 0 ∨ (¬ σ 104 k.toNat = -4 ∧ σ 104 k.toNat = l) from by omega) (show (i + 1) ≤ n from by omega) (show τ 88 38 = σ 88 38 from by omega) (show ∀ rk : Nat → Int, MOB rk 0 σ → RDM rk (CM k σ) f m.toNat σ τ ∧ ∀ x : Nat, (x : Int) < m → rdF (σ 105 k.toNat) f x ∧ rdO (wM σ) rk (CM k σ) f (gM 0 σ) x = 0 from (fun rk M => by
                                                              obtain ⟨a, b⟩ := i15 rk M
                                                              first
                                                              | exact ⟨a, b⟩
                                                              | (have y := __1; rcases RDM_s a eh9 es9 MT ft (hG_ 91 0 _) y with ⟨z1, z2⟩ | ⟨z1, z2, z3⟩; (exfalso; omega); exact ⟨by rw [show (m + 1).toNat = m.toNat + 1 from by omega]; exact z3, fun x hx => by by_cases q : (x : Int) = m; (rw [show x = m.toNat from by omega]; exact ⟨⟨by omega, by omega⟩, z2⟩); exact b x (by omega)⟩))) (show (100 * (11 - (i + 1))).toNat < N_ from by omega)
        · refine j_bipush (pc := 147) dX12_read_147 rfl ?_
          refine j_iload_n (pc := 149) dX12_read_149 rfl rfl ?_
          refine j_imul (pc := 150) dX12_read_150 ?_
          refine j_iload_n (pc := 151) dX12_read_151 rfl rfl ?_
          refine j_iadd (pc := 152) dX12_read_152 ?_
          refine j_iconst (pc := 153) dX12_read_153 ?_
          refine j_iload (pc := 154) dX12_read_154 rfl ?_
          refine j_imul (pc := 156) dX12_read_156 ?_
          refine j_iadd (pc := 157) dX12_read_157 ?_
          refine j_istore (pc := 158) (i := 8) (ls' := [(0, vR 88), (1, vI k), (2, vI l), (3, vI f), (4, vI n), (5, vI e), (6, vI m), (7, vI i), (8, vI (((40 * k) + f) + (2 * i)))]) [1, 2, 3, 4, 5, 6, 7, 8, 0] dX12_read_158 (Nat.le_of_ble_eq_true rfl) rfl rfl ?_
          refine j_aload_n (pc := 160) dX12_read_160 rfl rfl ?_
          refine j_aload_n (pc := 161) dX12_read_161 rfl rfl ?_
          refine j_getR (pc := 162) (r := 106) fl_X12_62 dX12_read_162 (a_88 hM) rfl ?_
          refine j_iload (pc := 165) dX12_read_165 rfl ?_
          have eh9 : τ 106 ((((40 * k) + f) + (2 * i))).toNat = CM k σ (f + 2 * ((m.toNat : Nat) : Int)) := by rw [CM_at ⟨by omega, by omega⟩, show (40 * k + (f + 2 * ((m.toNat : Nat) : Int))).toNat = ((((40 * k) + f) + (2 * i))).toNat from by omega]; exact hFτ 106 _ (show ¬ ((106 = 88 ∧ (((((40 * k) + f) + (2 * i))).toNat = 38)) ∨ (106 = 89 ∧ (((((40 * k) + f) + (2 * i))).toNat < 100 ∨ 300 ≤ ((((40 * k) + f) + (2 * i))).toNat))) from fun h => h.elim (fun h => absurd h.1 (by decide)) (fun h => absurd h.1 (by decide)))
          refine j_iald (pc := 167) dX12_read_167 (a_106 hM) (by omega) (by omega) (by decide) ?_
          have f25 : (-2147483648 : Int) ≤ τ 106 ((((40 * k) + f) + (2 * i)).toNat) ∧ τ 106 ((((40 * k) + f) + (2 * i)).toNat) ≤ 2147483647 := hIτ 106 ((((40 * k) + f) + (2 * i)).toNat)
          refine j_aload_n (pc := 168) dX12_read_168 rfl rfl ?_
          refine j_getR (pc := 169) (r := 106) fl_X12_62 dX12_read_169 (a_88 hM) rfl ?_
          refine j_iload (pc := 172) dX12_read_172 rfl ?_
          refine j_iconst (pc := 174) dX12_read_174 ?_
          refine j_iadd (pc := 175) dX12_read_175 ?_
          have es9 : τ 106 (((((40 * k) + f) + (2 * i)) + 1)).toNat = CM k σ (f + 2 * ((m.toNat : Nat) : Int) + 1) := by rw [CM_at ⟨by omega, by omega⟩, show (40 * k + (f + 2 * ((m.toNat : Nat) : Int) + 1)).toNat = (((((40 * k) + f) + (2 * i)) + 1)).toNat from by omega]; exact hFτ 106 _ (show ¬ ((106 = 88 ∧ ((((((40 * k) + f) + (2 * i)) + 1)).toNat = 38)) ∨ (106 = 89 ∧ ((((((40 * k) + f) + (2 * i)) + 1)).toNat < 100 ∨ 300 ≤ (((((40 * k) + f) + (2 * i)) + 1)).toNat))) from fun h => h.elim (fun h => absurd h.1 (by decide)) (fun h => absurd h.1 (by decide)))
          refine j_iald (pc := 176) dX12_read_176 (a_106 hM) (by omega) (by omega) (by decide) ?_
          have f26 : (-2147483648 : Int) ≤ τ 106 (((((40 * k) + f) + (2 * i)) + 1).toNat) ∧ τ 106 (((((40 * k) + f) + (2 * i)) + 1).toNat) ≤ 2147483647 := hIτ 106 (((((40 * k) + f) + (2 * i)) + 1).toNat)
          refine j_callV (pc := 177) (As := [vI (τ 106 ((((40 * k) + f) + (2 * i)).toNat)), vI (τ 106 (((((40 * k) + f) + (2 * i)) + 1).toNat))]) (st := []) (c_X12_put hM (τ 106 ((((40 * k) + f) + (2 * i)).toNat)) ⟨by omega, by omega⟩ (τ 106 (((((40 * k) + f) + (2 * i)) + 1).toNat)) ⟨by omega, by omega⟩ τ hIτ i0) mv_X12_380 rfl rfl rfl (a_88 hM) dX12_read_177 ⟨Nat.le_of_ble_eq_true rfl, Nat.le_of_ble_eq_true rfl⟩ ⟨Nat.le_refl _, Nat.le_refl _⟩ rfl (Nat.le_of_ble_eq_true rfl) rfl (fun z27 σ28 hz27 => ?_)
          obtain ⟨r30, rfl, hr30, hIσ28, hGσ28, q29_0, q29_1⟩ := hz27
          replace q29_0 : mI σ28 := q29_0
          replace q29_1 : (¬ whyS (wM τ) (gM 0 τ (τ 106 ((((40 * k) + f) + (2 * i)).toNat)).toNat) (cnt (gM 0 τ) (τ 91 0).toNat) (τ 89 (82 + (τ 106 (((((40 * k) + f) + (2 * i)) + 1).toNat))).toNat) (τ 106 ((((40 * k) + f) + (2 * i)).toNat)) (τ 106 (((((40 * k) + f) + (2 * i)) + 1).toNat)) = 0 ∧ r30 = whyS (wM τ) (gM 0 τ (τ 106 ((((40 * k) + f) + (2 * i)).toNat)).toNat) (cnt (gM 0 τ) (τ 91 0).toNat) (τ 89 (82 + (τ 106 (((((40 * k) + f) + (2 * i)) + 1).toNat))).toNat) (τ 106 ((((40 * k) + f) + (2 * i)).toNat)) (τ 106 (((((40 * k) + f) + (2 * i)) + 1).toNat)) ∧ ∀ c j, σ28 c j = τ c j) ∨ (whyS (wM τ) (gM 0 τ (τ 106 ((((40 * k) + f) + (2 * i)).toNat)).toNat) (cnt (gM 0 τ) (τ 91 0).toNat) (τ 89 (82 + (τ 106 (((((40 * k) + f) + (2 * i)) + 1).toNat))).toNat) (τ 106 ((((40 * k) + f) + (2 * i)).toNat)) (τ 106 (((((40 * k) + f) + (2 * i)) + 1).toNat)) = 0 ∧ r30 = cnt (gM 0 τ) (τ 106 ((((40 * k) + f) + (2 * i)).toNat)).toNat ∧ σ28 89 (τ 106 ((((40 * k) + f) + (2 * i)).toNat)).toNat = (τ 106 (((((40 * k) + f) + (2 * i)) + 1).toNat)) ∧ σ28 89 (41 + (τ 106 ((((40 * k) + f) + (2 * i)).toNat))).toNat = 0 ∧ (τ 89 (82 + (τ 106 (((((40 * k) + f) + (2 * i)) + 1).toNat))).toNat < 0 ∨ σ28 89 (82 + (τ 106 (((((40 * k) + f) + (2 * i)) + 1).toNat))).toNat = τ 89 (82 + (τ 106 (((((40 * k) + f) + (2 * i)) + 1).toNat))).toNat - 1) ∧ ∀ j : Nat, ¬ j = (τ 106 ((((40 * k) + f) + (2 * i)).toNat)).toNat → ¬ j = (41 + (τ 106 ((((40 * k) + f) + (2 * i)).toNat))).toNat → ¬ j = (82 + (τ 106 (((((40 * k) + f) + (2 * i)) + 1).toNat))).toNat → σ28 89 j = τ 89 j) := q29_1
          have hFσ28 : tw_F (fun c j => (c = 88 ∧ (j = 38)) ∨ (c = 89 ∧ (j < 100 ∨ 300 ≤ j))) σ σ28 := tw_F_tr hFτ hGσ28 (fun c j q => (show (c = 88 ∧ (j = 38)) ∨ (c = 89 ∧ (j < 100 ∨ 300 ≤ j)) from by replace q : (c = 89 ∧ j < 93) := q; omega))
          refine j_st (st' := [vI r30]) rfl ?_
          refine j_ifR_ge (pc := 180) (tgt := 197) ⟨by omega, by omega⟩ dX12_read_180 rfl (fun h31 => ?_) (fun h31 => ?_)
          · refine j_iinc (pc := 197) (i := 6) (n := 1) (ls' := [(0, vR 88), (1, vI k), (2, vI l), (3, vI f), (4, vI n), (5, vI e), (6, vI (m + 1)), (7, vI i)]) [1, 2, 3, 4, 5, 6, 0, 7] dX12_read_197 rfl (Nat.le_of_ble_eq_true rfl) rfl rfl ?_
            refine j_iinc (pc := 200) (i := 7) (n := 1) (ls' := [(0, vR 88), (1, vI k), (2, vI l), (3, vI f), (4, vI n), (5, vI e), (6, vI (m + 1)), (7, vI (i + 1))]) [1, 2, 3, 4, 5, 6, 7, 0] dX12_read_200 rfl (Nat.le_of_ble_eq_true rfl) rfl rfl ?_
            refine j_goto (pc := 203) (tgt := 40) dX12_read_203 rfl ?_
            refine j_ls (ls' := [(0, vR 88), (1, vI k), (2, vI l), (3, vI f), (4, vI n), (5, vI e), (6, vI (m + 1)), (7, vI (i + 1))]) [0, 1, 2, 3, 4, 5, 6, 7] rfl ?_
            have y32 : σ28 88 38 = τ 88 38 := (hGσ28 88 38 (show ¬ ((88 = 89 ∧ 38 < 93)) from by decide))
            have f33 : (-2147483648 : Int) ≤ τ 88 38 ∧ τ 88 38 ≤ 2147483647 := hIτ 88 38
            exact ih.1 e ⟨by omega, by omega⟩ (m + 1) ⟨by omega, by omega⟩ (i + 1) ⟨by omega, by omega⟩ σ28 hIσ28 hFσ28 (show mI σ28 from (by first | exact q29_0 | exact i0 | exact mI9)) (show 0 ≤ k ∧ k ≤ 3 ∧ 0 ≤ l ∧ l ≤ 2 from by omega) (show 0 ≤ n ∧ n ≤ 10 from by omega) (show ∀ j : Nat, (j : Int) < 100 → σ28 89 (300 + (j : Int)).toNat = σ 89 (0 + (j : Int)).toNat from (by first | exact fun j hj => (hGσ28 89 _ (show ¬ ((89 = 89 ∧ (300 + (j : Int)).toNat < 93)) from by omega)).trans (i3 j hj) | exact i3 | exact q29_0)) (show (m + 1) ≤ (i + 1) from by omega) (show σ28 89 93 = σ 89 93 from (by first | exact (hGσ28 89 93 (show ¬ ((89 = 89 ∧ 93 < 93)) from by decide)).trans i7 | exact i7 | omega)) (show σ28 89 94 = σ 89 94 from (by first | exact (hGσ28 89 94 (show ¬ ((89 = 89 ∧ 94 < 93)) from by decide)).trans i8 | exact i8 | omega)) (show σ28 89 95 = σ 89 95 from (by first | exact (hGσ28 89 95 (show ¬ ((89 = 89 ∧ 95 < 93)) from by decide)).trans i9 | exact i9 | omega)) (show σ28 89 96 = σ 89 96 from (by first | exact (hGσ28 89 96 (show ¬ ((89 = 89 ∧ 96 < 93)) from by decide)).trans i10 | exact i10 | omega)) (show (e = 0 ∧ (m + 1) = (i + 1)) ∨ (e = 2 ∧ (m + 1) + 1 = (i + 1) ∧ ¬ (0 ≤ f + 2 * (m + 1) ∧ f + 2 * (m + 1) + 1 < σ 105 k.toNat) ∧ (¬ σ 104 k.toNat = -4 ∧ σ 104 k.toNat = l)) ∨ (e = 1 ∧ (m + 1) = 0 ∧ 0 < n ∧ σ 104 k.toNat = -4) ∨ (e = 3 ∧ (m + 1) = 0 ∧ 0 < n ∧ ¬ σ 104 k.toNat = -4 ∧ ¬ σ 104 k.toNat = l) from by omega) (show ¬ e = 0 ∨ (i + 1) = 0 ∨ (¬ σ 104 k.toNat = -4 ∧ σ 104 k.toNat = l) from by omega) (show (i + 1) ≤ n from by omega) (show σ28 88 38 = σ 88 38 from by omega) (show ∀ rk : Nat → Int, MOB rk 0 σ → RDM rk (CM k σ) f (m + 1).toNat σ σ28 ∧ ∀ x : Nat, (x : Int) < (m + 1) → rdF (σ 105 k.toNat) f x ∧ rdO (wM σ) rk (CM k σ) f (gM 0 σ) x = 0 from (fun rk M => by
                                                              obtain ⟨a, b⟩ := i15 rk M
                                                              first
                                                              | exact ⟨a, b⟩
                                                              | (have y := q29_1; rcases RDM_s a eh9 es9 MT ft (hGσ28 91 0 (show ¬ ((91 = 89 ∧ 0 < 93)) from by decide)) y with ⟨z1, z2⟩ | ⟨z1, z2, z3⟩; (exfalso; omega); exact ⟨by rw [show (m + 1).toNat = m.toNat + 1 from by omega]; exact z3, fun x hx => by by_cases q : (x : Int) = m; (rw [show x = m.toNat from by omega]; exact ⟨⟨by omega, by omega⟩, z2⟩); exact b x (by omega)⟩))) (show (100 * (11 - (i + 1))).toNat < N_ from by omega)
          · refine j_aload_n (pc := 183) dX12_read_183 rfl rfl ?_
            refine j_iconst (pc := 184) dX12_read_184 ?_
            refine j_sipush (pc := 185) dX12_read_185 rfl ?_
            refine j_callV (pc := 188) (As := [vI 0, vI 300]) (st := []) (c_X12_copies hM 0 (by (first | decide | exact ⟨by omega, by omega⟩)) 300 (by (first | decide | exact ⟨by omega, by omega⟩)) σ28 hIσ28 (by omega) (by omega) (by omega)) mv_X12_283 rfl rfl rfl (a_88 hM) dX12_read_188 ⟨Nat.le_of_ble_eq_true rfl, Nat.le_of_ble_eq_true rfl⟩ ⟨Nat.le_refl _, Nat.le_refl _⟩ rfl (Nat.le_of_ble_eq_true rfl) rfl (fun z34 σ35 hz34 => ?_)
            obtain ⟨rfl, hIσ35, hGσ35, q36_0⟩ := hz34
            replace q36_0 : ∀ j : Nat, (j : Int) < 100 → σ35 89 ((0 : Int) + (j : Int)).toNat = σ28 89 ((300 : Int) + (j : Int)).toNat := q36_0
            have hFσ35 : tw_F (fun c j => (c = 88 ∧ (j = 38)) ∨ (c = 89 ∧ (j < 100 ∨ 300 ≤ j))) σ σ35 := tw_F_tr hFσ28 hGσ35 (fun c j q => (show (c = 88 ∧ (j = 38)) ∨ (c = 89 ∧ (j < 100 ∨ 300 ≤ j)) from by replace q : (c = 89 ∧ (0 : Int) ≤ (j : Int) ∧ (j : Int) < (0 : Int) + 100) := q; omega))
            refine j_st (st' := []) rfl ?_
            have mI9 : mI σ35 := mI_restore hI hq0 q36_0 (fun j hj => (hGσ28 89 _ (show ¬ ((89 = 89 ∧ (300 + (j : Int)).toNat < 93)) from by omega)).trans (i3 j hj)) (fun j h1 h2 => hFσ35 89 j (show ¬ ((89 = 88 ∧ (j = 38)) ∨ (89 = 89 ∧ (j < 100 ∨ 300 ≤ j))) from by omega)) (fun j => hFσ35 90 j (show ¬ ((90 = 88 ∧ (j = 38)) ∨ (90 = 89 ∧ (j < 100 ∨ 300 ≤ j))) from fun h => h.elim (fun h => absurd h.1 (by decide)) (fun h => absurd h.1 (by decide)))) (hFσ35 91 0 (show ¬ ((91 = 88 ∧ (0 = 38)) ∨ (91 = 89 ∧ (0 < 100 ∨ 300 ≤ 0))) from by decide))
            have fp : ∀ j : Nat, (j : Int) < 100 → σ28 89 (300 + (j : Int)).toNat = σ 89 (0 + (j : Int)).toNat := fun j hj => (hGσ28 89 _ (show ¬ ((89 = 89 ∧ (300 + (j : Int)).toNat < 93)) from by omega)).trans (i3 j hj)
            have r93 : σ35 89 93 = σ 89 93 := (cpy q36_0 (j := 93) (a := 93) (b := 393) (by decide) (by omega) (by omega)).trans (cpy fp (j := 93) (a := 393) (b := 93) (by decide) (by omega) (by omega))
            have r94 : σ35 89 94 = σ 89 94 := (cpy q36_0 (j := 94) (a := 94) (b := 394) (by decide) (by omega) (by omega)).trans (cpy fp (j := 94) (a := 394) (b := 94) (by decide) (by omega) (by omega))
            have r95 : σ35 89 95 = σ 89 95 := (cpy q36_0 (j := 95) (a := 95) (b := 395) (by decide) (by omega) (by omega)).trans (cpy fp (j := 95) (a := 395) (b := 95) (by decide) (by omega) (by omega))
            have r96 : σ35 89 96 = σ 89 96 := (cpy q36_0 (j := 96) (a := 96) (b := 396) (by decide) (by omega) (by omega)).trans (cpy fp (j := 96) (a := 396) (b := 96) (by decide) (by omega) (by omega))
            refine j_bipush (pc := 191) dX12_read_191 rfl ?_
            refine j_iload (pc := 193) dX12_read_193 rfl ?_
            refine j_isub (pc := 195) dX12_read_195 ?_
            have rb9 : ∀ j : Nat, j < 93 → σ35 89 j = σ 89 j := fun j hj => (cpy q36_0 (j := j) (a := j) (b := 300 + j) (by omega) (by omega) (by omega)).trans (cpy fp (j := j) (a := 300 + j) (b := j) (by omega) (by omega) (by omega))
            have fin : ∀ rk : Nat → Int, MOB rk 0 σ → (((-20) - i) = -1 ∧ ¬ (0 ≤ k ∧ k ≤ 3 ∧ 0 ≤ l ∧ l ≤ 2 ∧ 0 ≤ n ∧ n ≤ 10) ∧ ∀ c j, σ35 c j = σ c j) ∨ ((0 ≤ k ∧ k ≤ 3 ∧ 0 ≤ l ∧ l ≤ 2 ∧ 0 ≤ n ∧ n ≤ 10) ∧ ∃ cz : Int, ((cz = 0 ∧ 0 < n ∧ ((-20) - i) = 0 ∧ σ35 88 38 = 1 ∧ σ 104 k.toNat = -4) ∨ (cz = 0 ∧ 0 < n ∧ ((-20) - i) = 0 ∧ σ35 88 38 = 3 ∧ ¬ σ 104 k.toNat = -4 ∧ ¬ σ 104 k.toNat = l) ∨ ((n = 0 ∨ (¬ σ 104 k.toNat = -4 ∧ σ 104 k.toNat = l)) ∧ RDE (rdF (σ 105 k.toNat) f) (fun x => rdO (wM σ) rk (CM k σ) f (gM 0 σ) x = 0) n cz ((-20) - i) (σ35 88 38))) ∧ ((0 ≤ ((-20) - i) ∧ RDM rk (CM k σ) f cz.toNat σ σ35) ∨ (((-20) - i) < 0 ∧ RDM rk (CM k σ) f 0 σ σ35 ∧ σ35 88 38 = σ 88 38))) := fun rk M => by
              obtain ⟨a, b⟩ := i15 rk M
              have y := q29_1
              rcases RDM_s a eh9 es9 MT ft (hGσ28 91 0 (show ¬ ((91 = 89 ∧ 0 < 93)) from by decide)) y with ⟨z1, z2⟩ | ⟨z1, z2, z3⟩
              · exact Or.inr ⟨by omega, m, Or.inr (Or.inr ⟨by omega, ⟨by omega, by omega⟩, b, Or.inr (Or.inr ⟨by omega, ⟨by omega, by omega⟩, z2, by omega⟩)⟩), Or.inr ⟨by omega, RDM_0 M rb9 (hFσ35 91 0 (show ¬ ((91 = 88 ∧ (0 = 38)) ∨ (91 = 89 ∧ (0 < 100 ∨ 300 ≤ 0))) from by decide)), ((((hGσ35 88 38 (show ¬ ((88 = 89 ∧ (0 : Int) ≤ (38 : Int) ∧ (38 : Int) < (0 : Int) + 100)) from fun h => absurd h.1 (by decide)))).trans (hGσ28 88 38 (show ¬ ((88 = 89 ∧ 38 < 93)) from by decide)))).trans i14⟩⟩
              · exfalso; omega
            have y38 : σ35 88 38 = τ 88 38 := ((hGσ35 88 38 (show ¬ ((88 = 89 ∧ (0 : Int) ≤ (38 : Int) ∧ (38 : Int) < (0 : Int) + 100)) from fun h => absurd h.1 (by decide)))).trans (hGσ28 88 38 (show ¬ ((88 = 89 ∧ 38 < 93)) from by decide))
            have f39 : (-2147483648 : Int) ≤ τ 88 38 ∧ τ 88 38 ≤ 2147483647 := hIτ 88 38
            exact j_iret (pc := 196) ⟨rfl, rfl⟩ dX12_read_196 rfl ⟨_, rfl, ⟨by omega, by omega⟩, hIσ35, hFσ35, (by first | exact mI9 | exact hq0), (by first | rfl | exact r93 | exact (rfl).trans i5 | omega), (by first | rfl | exact r94 | exact (rfl).trans i6 | omega), (by first | rfl | exact r95 | exact (rfl).trans i7 | omega), (by first | rfl | exact r96 | exact (rfl).trans i8 | omega), fin⟩
      · refine j_iload (pc := 61) dX12_read_61 rfl ?_
        refine j_ifR_ne (pc := 63) (tgt := 142) ⟨by omega, by omega⟩ dX12_read_63 rfl (fun h40 => ?_) (fun h40 => ?_)
        · refine j_iload (pc := 142) dX12_read_142 rfl ?_
          refine j_ifR_ne (pc := 144) (tgt := 200) ⟨by omega, by omega⟩ dX12_read_144 rfl (fun h41 => ?_) (fun h41 => by exfalso; omega)
          refine j_iinc (pc := 200) (i := 7) (n := 1) (ls' := [(0, vR 88), (1, vI k), (2, vI l), (3, vI f), (4, vI n), (5, vI e), (6, vI m), (7, vI (i + 1))]) [1, 2, 3, 4, 5, 6, 7, 0] dX12_read_200 rfl (Nat.le_of_ble_eq_true rfl) rfl rfl ?_
          refine j_goto (pc := 203) (tgt := 40) dX12_read_203 rfl ?_
          refine j_ls (ls' := [(0, vR 88), (1, vI k), (2, vI l), (3, vI f), (4, vI n), (5, vI e), (6, vI m), (7, vI (i + 1))]) [0, 1, 2, 3, 4, 5, 6, 7] rfl ?_
          exact ih.1 e ⟨by omega, by omega⟩ m ⟨by omega, by omega⟩ (i + 1) ⟨by omega, by omega⟩ τ hIτ hFτ (show mI τ from (by first | exact __0 | exact i0 | exact mI9)) (show 0 ≤ k ∧ k ≤ 3 ∧ 0 ≤ l ∧ l ≤ 2 from by omega) (show 0 ≤ n ∧ n ≤ 10 from by omega) (show ∀ j : Nat, (j : Int) < 100 → τ 89 (300 + (j : Int)).toNat = σ 89 (0 + (j : Int)).toNat from (by first | exact fun j hj => (hG_ 89 _ _).trans (i3 j hj) | exact i3 | exact __0)) (show m ≤ (i + 1) from by omega) (show τ 89 93 = σ 89 93 from (by first | exact (hG_ 89 93 _).trans i7 | exact i7 | omega)) (show τ 89 94 = σ 89 94 from (by first | exact (hG_ 89 94 _).trans i8 | exact i8 | omega)) (show τ 89 95 = σ 89 95 from (by first | exact (hG_ 89 95 _).trans i9 | exact i9 | omega)) (show τ 89 96 = σ 89 96 from (by first | exact (hG_ 89 96 _).trans i10 | exact i10 | omega)) (show (e = 0 ∧ m = (i + 1)) ∨ (e = 2 ∧ m + 1 = (i + 1) ∧ ¬ (0 ≤ f + 2 * m ∧ f + 2 * m + 1 < σ 105 k.toNat) ∧ (¬ σ 104 k.toNat = -4 ∧ σ 104 k.toNat = l)) ∨ (e = 1 ∧ m = 0 ∧ 0 < n ∧ σ 104 k.toNat = -4) ∨ (e = 3 ∧ m = 0 ∧ 0 < n ∧ ¬ σ 104 k.toNat = -4 ∧ ¬ σ 104 k.toNat = l) from by omega) (show ¬ e = 0 ∨ (i + 1) = 0 ∨ (¬ σ 104 k.toNat = -4 ∧ σ 104 k.toNat = l) from by omega) (show (i + 1) ≤ n from by omega) (show τ 88 38 = σ 88 38 from by omega) (show ∀ rk : Nat → Int, MOB rk 0 σ → RDM rk (CM k σ) f m.toNat σ τ ∧ ∀ x : Nat, (x : Int) < m → rdF (σ 105 k.toNat) f x ∧ rdO (wM σ) rk (CM k σ) f (gM 0 σ) x = 0 from (fun rk M => by
                                                              obtain ⟨a, b⟩ := i15 rk M
                                                              first
                                                              | exact ⟨a, b⟩
                                                              | (have y := __1; rcases RDM_s a eh9 es9 MT ft (hG_ 91 0 _) y with ⟨z1, z2⟩ | ⟨z1, z2, z3⟩; (exfalso; omega); exact ⟨by rw [show (m + 1).toNat = m.toNat + 1 from by omega]; exact z3, fun x hx => by by_cases q : (x : Int) = m; (rw [show x = m.toNat from by omega]; exact ⟨⟨by omega, by omega⟩, z2⟩); exact b x (by omega)⟩))) (show (100 * (11 - (i + 1))).toNat < N_ from by omega)
        · refine j_iload_n (pc := 66) dX12_read_66 rfl rfl ?_
          refine j_i2l (pc := 67) dX12_read_67 ?_
          rw [w32_eq (a := f) (by omega) (by omega)]
          refine j_iconst (pc := 68) dX12_read_68 ?_
          refine j_iload (pc := 69) dX12_read_69 rfl ?_
          refine j_imul (pc := 71) dX12_read_71 ?_
          refine j_i2l (pc := 72) dX12_read_72 ?_
          rw [w32_eq (a := 2 * i) (by omega) (by omega)]
          refine j_ladd (pc := 73) dX12_read_73 ?_
          refine j_iload (pc := 74) dX12_read_74 rfl ?_
          refine j_i2l (pc := 76) dX12_read_76 ?_
          rw [w32_eq (a := c) (by omega) (by omega)]
          refine j_ladd (pc := 77) dX12_read_77 ?_
          refine j_lstore (pc := 78) (i := 9) (ls' := [(0, vR 88), (1, vI k), (2, vI l), (3, vI f), (4, vI n), (6, vI m), (7, vI i), (8, vI c), (9, vL ((f + (2 * i)) + c))]) [1, 2, 3, 4, 5, 7, 8, 9, 0] dX12_read_78 (Nat.le_of_ble_eq_true rfl) rfl rfl ?_
          refine j_aload_n (pc := 80) dX12_read_80 rfl rfl ?_
          refine j_getR (pc := 81) (r := 104) fl_X12_56 dX12_read_81 (a_88 hM) rfl ?_
          refine j_iload_n (pc := 84) dX12_read_84 rfl rfl ?_
          refine j_iald (pc := 85) dX12_read_85 (a_104 hM) (by omega) (by omega) (by decide) ?_
          have f42 : (-4 : Int) ≤ τ 104 (k.toNat) ∧ τ 104 (k.toNat) ≤ 2 := hIτ 104 (k.toNat)
          refine j_bipush (pc := 86) dX12_read_86 rfl ?_
          refine j_icmpR_ne (pc := 88) (tgt := 95) ⟨by omega, by omega⟩ ⟨by omega, by omega⟩ dX12_read_88 rfl (fun h43 => ?_) (fun h43 => ?_)
          · refine j_aload_n (pc := 95) dX12_read_95 rfl rfl ?_
            refine j_getR (pc := 96) (r := 104) fl_X12_56 dX12_read_96 (a_88 hM) rfl ?_
            refine j_iload_n (pc := 99) dX12_read_99 rfl rfl ?_
            refine j_iald (pc := 100) dX12_read_100 (a_104 hM) (by omega) (by omega) (by decide) ?_
            refine j_iload_n (pc := 101) dX12_read_101 rfl rfl ?_
            refine j_icmpR_eq (pc := 102) (tgt := 109) ⟨by omega, by omega⟩ ⟨by omega, by omega⟩ dX12_read_102 rfl (fun h44 => ?_) (fun h44 => ?_)
            · refine j_lload (pc := 109) dX12_read_109 rfl ?_
              refine j_lconst (pc := 111) (z := 0) dX12_read_111 rfl ?_
              refine j_lcmp (pc := 112) dX12_read_112 (fun z45 ez45 => ?_)
              have hz45 : (z45 = 1 ∧ 0 < (f + (2 * i)) + c) ∨ (z45 = 0 ∧ (f + (2 * i)) + c = 0) ∨ (z45 = -1 ∧ (f + (2 * i)) + c < 0) := by rw [ez45]; exact tw_cmp_eq ⟨by omega, by omega⟩ ⟨by omega, by omega⟩
              refine j_ifR_lt (pc := 113) (tgt := 129) ⟨by omega, by omega⟩ dX12_read_113 rfl (fun h46 => ?_) (fun h46 => ?_)
              · refine j_iconst (pc := 129) dX12_read_129 ?_
                refine j_goto (pc := 130) (tgt := 134) dX12_read_130 rfl ?_
                refine j_istore (pc := 134) (i := 5) (ls' := [(0, vR 88), (1, vI k), (2, vI l), (3, vI f), (4, vI n), (5, vI 2), (6, vI m), (7, vI i), (8, vI c)]) [1, 2, 3, 4, 5, 0, 6, 7, 8] dX12_read_134 (Nat.le_of_ble_eq_true rfl) rfl rfl ?_
                refine j_iinc (pc := 136) (i := 8) (n := 1) (ls' := [(0, vR 88), (1, vI k), (2, vI l), (3, vI f), (4, vI n), (5, vI 2), (6, vI m), (7, vI i), (8, vI (c + 1))]) [1, 2, 3, 4, 5, 6, 7, 8, 0] dX12_read_136 rfl (Nat.le_of_ble_eq_true rfl) rfl rfl ?_
                refine j_goto (pc := 139) (tgt := 55) dX12_read_139 rfl ?_
                refine j_ls (ls' := [(0, vR 88), (1, vI k), (2, vI l), (3, vI f), (4, vI n), (5, vI 2), (6, vI m), (7, vI i), (8, vI (c + 1))]) [0, 1, 2, 3, 4, 5, 6, 7, 8] rfl ?_
                exact ih.2 2 (by (first | decide | exact ⟨by omega, by omega⟩)) m ⟨by omega, by omega⟩ i ⟨by omega, by omega⟩ (c + 1) ⟨by omega, by omega⟩ τ hIτ hFτ (show mI τ from i0) (show 0 ≤ k ∧ k ≤ 3 ∧ 0 ≤ l ∧ l ≤ 2 from by omega) (show 0 ≤ n ∧ n ≤ 10 from by omega) (show ∀ j : Nat, (j : Int) < 100 → τ 89 (300 + (j : Int)).toNat = σ 89 (0 + (j : Int)).toNat from i3) (show m ≤ i from by omega) (show i < n from by omega) (show ¬ (2 : Int) = 0 ∨ (((c + 1) = 0 ∨ (0 ≤ f + 2 * i ∧ f + 2 * i < τ 105 k.toNat)) ∧ ((c + 1) ≤ 1 ∨ f + 2 * i + 1 < τ 105 k.toNat)) from by omega) (show τ 89 93 = σ 89 93 from (by first | exact i7 | exact i5 | omega)) (show τ 89 94 = σ 89 94 from (by first | exact i8 | exact i6 | omega)) (show τ 89 95 = σ 89 95 from (by first | exact i9 | exact i7 | omega)) (show τ 89 96 = σ 89 96 from (by first | exact i10 | exact i8 | omega)) (show m = i from by omega) (show ((2 : Int) = 0 ∧ ((c + 1) = 0 ∨ (¬ σ 104 k.toNat = -4 ∧ σ 104 k.toNat = l))) ∨ ((2 : Int) = 1 ∧ σ 104 k.toNat = -4) ∨ ((2 : Int) = 3 ∧ ¬ σ 104 k.toNat = -4 ∧ ¬ σ 104 k.toNat = l) ∨ ((2 : Int) = 2 ∧ (¬ σ 104 k.toNat = -4 ∧ σ 104 k.toNat = l) ∧ ¬ (0 ≤ f + 2 * i ∧ f + 2 * i + 1 < σ 105 k.toNat)) from by omega) (show i = 0 ∨ (¬ σ 104 k.toNat = -4 ∧ σ 104 k.toNat = l) from by omega) (show τ 88 38 = σ 88 38 from by omega) (show ∀ rk : Nat → Int, MOB rk 0 σ → RDM rk (CM k σ) f m.toNat σ τ ∧ ∀ x : Nat, (x : Int) < m → rdF (σ 105 k.toNat) f x ∧ rdO (wM σ) rk (CM k σ) f (gM 0 σ) x = 0 from (by first | exact i15 | exact i13)) (show (100 * (11 - i) - 1 - (c + 1)).toNat < N_ from by omega)
              · refine j_lload (pc := 116) dX12_read_116 rfl ?_
                refine j_aload_n (pc := 118) dX12_read_118 rfl rfl ?_
                refine j_getR (pc := 119) (r := 105) fl_X12_59 dX12_read_119 (a_88 hM) rfl ?_
                refine j_iload_n (pc := 122) dX12_read_122 rfl rfl ?_
                refine j_iald (pc := 123) dX12_read_123 (a_105 hM) (by omega) (by omega) (by decide) ?_
                have f47 : (0 : Int) ≤ τ 105 (k.toNat) ∧ τ 105 (k.toNat) ≤ 40 := hIτ 105 (k.toNat)
                refine j_i2l (pc := 124) dX12_read_124 ?_
                rw [w32_eq (a := τ 105 (k.toNat)) (by omega) (by omega)]
                refine j_lcmp (pc := 125) dX12_read_125 (fun z48 ez48 => ?_)
                have hz48 : (z48 = 1 ∧ τ 105 (k.toNat) < (f + (2 * i)) + c) ∨ (z48 = 0 ∧ (f + (2 * i)) + c = τ 105 (k.toNat)) ∨ (z48 = -1 ∧ (f + (2 * i)) + c < τ 105 (k.toNat)) := by rw [ez48]; exact tw_cmp_eq ⟨by omega, by omega⟩ ⟨by omega, by omega⟩
                refine j_ifR_lt (pc := 126) (tgt := 133) ⟨by omega, by omega⟩ dX12_read_126 rfl (fun h49 => ?_) (fun h49 => ?_)
                · refine j_iconst (pc := 133) dX12_read_133 ?_
                  refine j_istore (pc := 134) (i := 5) (ls' := [(0, vR 88), (1, vI k), (2, vI l), (3, vI f), (4, vI n), (5, vI 0), (6, vI m), (7, vI i), (8, vI c)]) [1, 2, 3, 4, 5, 0, 6, 7, 8] dX12_read_134 (Nat.le_of_ble_eq_true rfl) rfl rfl ?_
                  refine j_iinc (pc := 136) (i := 8) (n := 1) (ls' := [(0, vR 88), (1, vI k), (2, vI l), (3, vI f), (4, vI n), (5, vI 0), (6, vI m), (7, vI i), (8, vI (c + 1))]) [1, 2, 3, 4, 5, 6, 7, 8, 0] dX12_read_136 rfl (Nat.le_of_ble_eq_true rfl) rfl rfl ?_
                  refine j_goto (pc := 139) (tgt := 55) dX12_read_139 rfl ?_
                  refine j_ls (ls' := [(0, vR 88), (1, vI k), (2, vI l), (3, vI f), (4, vI n), (5, vI 0), (6, vI m), (7, vI i), (8, vI (c + 1))]) [0, 1, 2, 3, 4, 5, 6, 7, 8] rfl ?_
                  exact ih.2 0 (by (first | decide | exact ⟨by omega, by omega⟩)) m ⟨by omega, by omega⟩ i ⟨by omega, by omega⟩ (c + 1) ⟨by omega, by omega⟩ τ hIτ hFτ (show mI τ from i0) (show 0 ≤ k ∧ k ≤ 3 ∧ 0 ≤ l ∧ l ≤ 2 from by omega) (show 0 ≤ n ∧ n ≤ 10 from by omega) (show ∀ j : Nat, (j : Int) < 100 → τ 89 (300 + (j : Int)).toNat = σ 89 (0 + (j : Int)).toNat from i3) (show m ≤ i from by omega) (show i < n from by omega) (show ¬ (0 : Int) = 0 ∨ (((c + 1) = 0 ∨ (0 ≤ f + 2 * i ∧ f + 2 * i < τ 105 k.toNat)) ∧ ((c + 1) ≤ 1 ∨ f + 2 * i + 1 < τ 105 k.toNat)) from by omega) (show τ 89 93 = σ 89 93 from (by first | exact i7 | exact i5 | omega)) (show τ 89 94 = σ 89 94 from (by first | exact i8 | exact i6 | omega)) (show τ 89 95 = σ 89 95 from (by first | exact i9 | exact i7 | omega)) (show τ 89 96 = σ 89 96 from (by first | exact i10 | exact i8 | omega)) (show m = i from by omega) (show ((0 : Int) = 0 ∧ ((c + 1) = 0 ∨ (¬ σ 104 k.toNat = -4 ∧ σ 104 k.toNat = l))) ∨ ((0 : Int) = 1 ∧ σ 104 k.toNat = -4) ∨ ((0 : Int) = 3 ∧ ¬ σ 104 k.toNat = -4 ∧ ¬ σ 104 k.toNat = l) ∨ ((0 : Int) = 2 ∧ (¬ σ 104 k.toNat = -4 ∧ σ 104 k.toNat = l) ∧ ¬ (0 ≤ f + 2 * i ∧ f + 2 * i + 1 < σ 105 k.toNat)) from by omega) (show i = 0 ∨ (¬ σ 104 k.toNat = -4 ∧ σ 104 k.toNat = l) from by omega) (show τ 88 38 = σ 88 38 from by omega) (show ∀ rk : Nat → Int, MOB rk 0 σ → RDM rk (CM k σ) f m.toNat σ τ ∧ ∀ x : Nat, (x : Int) < m → rdF (σ 105 k.toNat) f x ∧ rdO (wM σ) rk (CM k σ) f (gM 0 σ) x = 0 from (by first | exact i15 | exact i13)) (show (100 * (11 - i) - 1 - (c + 1)).toNat < N_ from by omega)
                · refine j_iconst (pc := 129) dX12_read_129 ?_
                  refine j_goto (pc := 130) (tgt := 134) dX12_read_130 rfl ?_
                  refine j_istore (pc := 134) (i := 5) (ls' := [(0, vR 88), (1, vI k), (2, vI l), (3, vI f), (4, vI n), (5, vI 2), (6, vI m), (7, vI i), (8, vI c)]) [1, 2, 3, 4, 5, 0, 6, 7, 8] dX12_read_134 (Nat.le_of_ble_eq_true rfl) rfl rfl ?_
                  refine j_iinc (pc := 136) (i := 8) (n := 1) (ls' := [(0, vR 88), (1, vI k), (2, vI l), (3, vI f), (4, vI n), (5, vI 2), (6, vI m), (7, vI i), (8, vI (c + 1))]) [1, 2, 3, 4, 5, 6, 7, 8, 0] dX12_read_136 rfl (Nat.le_of_ble_eq_true rfl) rfl rfl ?_
                  refine j_goto (pc := 139) (tgt := 55) dX12_read_139 rfl ?_
                  refine j_ls (ls' := [(0, vR 88), (1, vI k), (2, vI l), (3, vI f), (4, vI n), (5, vI 2), (6, vI m), (7, vI i), (8, vI (c + 1))]) [0, 1, 2, 3, 4, 5, 6, 7, 8] rfl ?_
                  exact ih.2 2 (by (first | decide | exact ⟨by omega, by omega⟩)) m ⟨by omega, by omega⟩ i ⟨by omega, by omega⟩ (c + 1) ⟨by omega, by omega⟩ τ hIτ hFτ (show mI τ from i0) (show 0 ≤ k ∧ k ≤ 3 ∧ 0 ≤ l ∧ l ≤ 2 from by omega) (show 0 ≤ n ∧ n ≤ 10 from by omega) (show ∀ j : Nat, (j : Int) < 100 → τ 89 (300 + (j : Int)).toNat = σ 89 (0 + (j : Int)).toNat from i3) (show m ≤ i from by omega) (show i < n from by omega) (show ¬ (2 : Int) = 0 ∨ (((c + 1) = 0 ∨ (0 ≤ f + 2 * i ∧ f + 2 * i < τ 105 k.toNat)) ∧ ((c + 1) ≤ 1 ∨ f + 2 * i + 1 < τ 105 k.toNat)) from by omega) (show τ 89 93 = σ 89 93 from (by first | exact i7 | exact i5 | omega)) (show τ 89 94 = σ 89 94 from (by first | exact i8 | exact i6 | omega)) (show τ 89 95 = σ 89 95 from (by first | exact i9 | exact i7 | omega)) (show τ 89 96 = σ 89 96 from (by first | exact i10 | exact i8 | omega)) (show m = i from by omega) (show ((2 : Int) = 0 ∧ ((c + 1) = 0 ∨ (¬ σ 104 k.toNat = -4 ∧ σ 104 k.toNat = l))) ∨ ((2 : Int) = 1 ∧ σ 104 k.toNat = -4) ∨ ((2 : Int) = 3 ∧ ¬ σ 104 k.toNat = -4 ∧ ¬ σ 104 k.toNat = l) ∨ ((2 : Int) = 2 ∧ (¬ σ 104 k.toNat = -4 ∧ σ 104 k.toNat = l) ∧ ¬ (0 ≤ f + 2 * i ∧ f + 2 * i + 1 < σ 105 k.toNat)) from by omega) (show i = 0 ∨ (¬ σ 104 k.toNat = -4 ∧ σ 104 k.toNat = l) from by omega) (show τ 88 38 = σ 88 38 from by omega) (show ∀ rk : Nat → Int, MOB rk 0 σ → RDM rk (CM k σ) f m.toNat σ τ ∧ ∀ x : Nat, (x : Int) < m → rdF (σ 105 k.toNat) f x ∧ rdO (wM σ) rk (CM k σ) f (gM 0 σ) x = 0 from (by first | exact i15 | exact i13)) (show (100 * (11 - i) - 1 - (c + 1)).toNat < N_ from by omega)
            · refine j_iconst (pc := 105) dX12_read_105 ?_
              refine j_goto (pc := 106) (tgt := 134) dX12_read_106 rfl ?_
              refine j_istore (pc := 134) (i := 5) (ls' := [(0, vR 88), (1, vI k), (2, vI l), (3, vI f), (4, vI n), (5, vI 3), (6, vI m), (7, vI i), (8, vI c)]) [1, 2, 3, 4, 5, 0, 6, 7, 8] dX12_read_134 (Nat.le_of_ble_eq_true rfl) rfl rfl ?_
              refine j_iinc (pc := 136) (i := 8) (n := 1) (ls' := [(0, vR 88), (1, vI k), (2, vI l), (3, vI f), (4, vI n), (5, vI 3), (6, vI m), (7, vI i), (8, vI (c + 1))]) [1, 2, 3, 4, 5, 6, 7, 8, 0] dX12_read_136 rfl (Nat.le_of_ble_eq_true rfl) rfl rfl ?_
              refine j_goto (pc := 139) (tgt := 55) dX12_read_139 rfl ?_
              refine j_ls (ls' := [(0, vR 88), (1, vI k), (2, vI l), (3, vI f), (4, vI n), (5, vI 3), (6, vI m), (7, vI i), (8, vI (c + 1))]) [0, 1, 2, 3, 4, 5, 6, 7, 8] rfl ?_
              exact ih.2 3 (by (first | decide | exact ⟨by omega, by omega⟩)) m ⟨by omega, by omega⟩ i ⟨by omega, by omega⟩ (c + 1) ⟨by omega, by omega⟩ τ hIτ hFτ (show mI τ from i0) (show 0 ≤ k ∧ k ≤ 3 ∧ 0 ≤ l ∧ l ≤ 2 from by omega) (show 0 ≤ n ∧ n ≤ 10 from by omega) (show ∀ j : Nat, (j : Int) < 100 → τ 89 (300 + (j : Int)).toNat = σ 89 (0 + (j : Int)).toNat from i3) (show m ≤ i from by omega) (show i < n from by omega) (show ¬ (3 : Int) = 0 ∨ (((c + 1) = 0 ∨ (0 ≤ f + 2 * i ∧ f + 2 * i < τ 105 k.toNat)) ∧ ((c + 1) ≤ 1 ∨ f + 2 * i + 1 < τ 105 k.toNat)) from by omega) (show τ 89 93 = σ 89 93 from (by first | exact i7 | exact i5 | omega)) (show τ 89 94 = σ 89 94 from (by first | exact i8 | exact i6 | omega)) (show τ 89 95 = σ 89 95 from (by first | exact i9 | exact i7 | omega)) (show τ 89 96 = σ 89 96 from (by first | exact i10 | exact i8 | omega)) (show m = i from by omega) (show ((3 : Int) = 0 ∧ ((c + 1) = 0 ∨ (¬ σ 104 k.toNat = -4 ∧ σ 104 k.toNat = l))) ∨ ((3 : Int) = 1 ∧ σ 104 k.toNat = -4) ∨ ((3 : Int) = 3 ∧ ¬ σ 104 k.toNat = -4 ∧ ¬ σ 104 k.toNat = l) ∨ ((3 : Int) = 2 ∧ (¬ σ 104 k.toNat = -4 ∧ σ 104 k.toNat = l) ∧ ¬ (0 ≤ f + 2 * i ∧ f + 2 * i + 1 < σ 105 k.toNat)) from by omega) (show i = 0 ∨ (¬ σ 104 k.toNat = -4 ∧ σ 104 k.toNat = l) from by omega) (show τ 88 38 = σ 88 38 from by omega) (show ∀ rk : Nat → Int, MOB rk 0 σ → RDM rk (CM k σ) f m.toNat σ τ ∧ ∀ x : Nat, (x : Int) < m → rdF (σ 105 k.toNat) f x ∧ rdO (wM σ) rk (CM k σ) f (gM 0 σ) x = 0 from (by first | exact i15 | exact i13)) (show (100 * (11 - i) - 1 - (c + 1)).toNat < N_ from by omega)
          · refine j_iconst (pc := 91) dX12_read_91 ?_
            refine j_goto (pc := 92) (tgt := 134) dX12_read_92 rfl ?_
            refine j_istore (pc := 134) (i := 5) (ls' := [(0, vR 88), (1, vI k), (2, vI l), (3, vI f), (4, vI n), (5, vI 1), (6, vI m), (7, vI i), (8, vI c)]) [1, 2, 3, 4, 5, 0, 6, 7, 8] dX12_read_134 (Nat.le_of_ble_eq_true rfl) rfl rfl ?_
            refine j_iinc (pc := 136) (i := 8) (n := 1) (ls' := [(0, vR 88), (1, vI k), (2, vI l), (3, vI f), (4, vI n), (5, vI 1), (6, vI m), (7, vI i), (8, vI (c + 1))]) [1, 2, 3, 4, 5, 6, 7, 8, 0] dX12_read_136 rfl (Nat.le_of_ble_eq_true rfl) rfl rfl ?_
            refine j_goto (pc := 139) (tgt := 55) dX12_read_139 rfl ?_
            refine j_ls (ls' := [(0, vR 88), (1, vI k), (2, vI l), (3, vI f), (4, vI n), (5, vI 1), (6, vI m), (7, vI i), (8, vI (c + 1))]) [0, 1, 2, 3, 4, 5, 6, 7, 8] rfl ?_
            exact ih.2 1 (by (first | decide | exact ⟨by omega, by omega⟩)) m ⟨by omega, by omega⟩ i ⟨by omega, by omega⟩ (c + 1) ⟨by omega, by omega⟩ τ hIτ hFτ (show mI τ from i0) (show 0 ≤ k ∧ k ≤ 3 ∧ 0 ≤ l ∧ l ≤ 2 from by omega) (show 0 ≤ n ∧ n ≤ 10 from by omega) (show ∀ j : Nat, (j : Int) < 100 → τ 89 (300 + (j : Int)).toNat = σ 89 (0 + (j : Int)).toNat from i3) (show m ≤ i from by omega) (show i < n from by omega) (show ¬ (1 : Int) = 0 ∨ (((c + 1) = 0 ∨ (0 ≤ f + 2 * i ∧ f + 2 * i < τ 105 k.toNat)) ∧ ((c + 1) ≤ 1 ∨ f + 2 * i + 1 < τ 105 k.toNat)) from by omega) (show τ 89 93 = σ 89 93 from (by first | exact i7 | exact i5 | omega)) (show τ 89 94 = σ 89 94 from (by first | exact i8 | exact i6 | omega)) (show τ 89 95 = σ 89 95 from (by first | exact i9 | exact i7 | omega)) (show τ 89 96 = σ 89 96 from (by first | exact i10 | exact i8 | omega)) (show m = i from by omega) (show ((1 : Int) = 0 ∧ ((c + 1) = 0 ∨ (¬ σ 104 k.toNat = -4 ∧ σ 104 k.toNat = l))) ∨ ((1 : Int) = 1 ∧ σ 104 k.toNat = -4) ∨ ((1 : Int) = 3 ∧ ¬ σ 104 k.toNat = -4 ∧ ¬ σ 104 k.toNat = l) ∨ ((1 : Int) = 2 ∧ (¬ σ 104 k.toNat = -4 ∧ σ 104 k.toNat = l) ∧ ¬ (0 ≤ f + 2 * i ∧ f + 2 * i + 1 < σ 105 k.toNat)) from by omega) (show i = 0 ∨ (¬ σ 104 k.toNat = -4 ∧ σ 104 k.toNat = l) from by omega) (show τ 88 38 = σ 88 38 from by omega) (show ∀ rk : Nat → Int, MOB rk 0 σ → RDM rk (CM k σ) f m.toNat σ τ ∧ ∀ x : Nat, (x : Int) < m → rdF (σ 105 k.toNat) f x ∧ rdO (wM σ) rk (CM k σ) f (gM 0 σ) x = 0 from (by first | exact i15 | exact i13)) (show (100 * (11 - i) - 1 - (c + 1)).toNat < N_ from by omega)
set_option maxHeartbeats 4000000 in
set_option maxRecDepth 100000 in
theorem c_X12_read {G : tw_G} (hM : tw_isM G) (k : Int) (hk : -2147483648 ≤ k ∧ k ≤ 2147483647) (l : Int) (hl : -2147483648 ≤ l ∧ l ≤ 2147483647) (f : Int) (hf : -2147483648 ≤ f ∧ f ≤ 2147483647) (n : Int) (hn : -2147483648 ≤ n ∧ n ≤ 2147483647) (σ : tw_M) (hI : tw_I σ) (hq0 : mI σ) : tw_C G yX12_read cX12_read 11 (some .int) 5 [vR 88, vI k, vI l, vI f, vI n] σ (q_X12_read k l f n σ) := by
  refine tw_met [(0, vR 88), (1, vI k), (2, vI l), (3, vI f), (4, vI n)] (by decide +kernel) rfl (Nat.le_of_ble_eq_true rfl) ?_
  refine j_iload_n (pc := 0) dX12_read_0 rfl rfl ?_
  refine j_iload_n (pc := 1) dX12_read_1 rfl rfl ?_
  refine j_callS (pc := 2) (As := [vI k, vI l]) (st := []) (c_X12_isSheet k ⟨by omega, by omega⟩ l ⟨by omega, by omega⟩ σ hI) ms_X12_377 rfl dX12_read_2 ⟨Nat.le_of_ble_eq_true rfl, Nat.le_of_ble_eq_true rfl⟩ ⟨Nat.le_refl _, Nat.le_refl _⟩ rfl (Nat.le_of_ble_eq_true rfl) rfl (fun z50 σ51 hz50 => ?_)
  obtain ⟨r53, rfl, hr53, rfl, q52_0⟩ := hz50
  replace q52_0 : (r53 = 1 ∧ 0 ≤ k ∧ k ≤ 3 ∧ 0 ≤ l ∧ l ≤ 2) ∨ (r53 = 0 ∧ ¬ (0 ≤ k ∧ k ≤ 3 ∧ 0 ≤ l ∧ l ≤ 2)) := q52_0
  refine j_st (st' := [vI r53]) rfl ?_
  refine j_ifR_eq (pc := 5) (tgt := 21) ⟨by omega, by omega⟩ dX12_read_5 rfl (fun h54 => ?_) (fun h54 => ?_)
  · refine j_iconst (pc := 21) dX12_read_21 ?_
    have fin : ∀ rk : Nat → Int, MOB rk 0 σ → ((-1) = -1 ∧ ¬ (0 ≤ k ∧ k ≤ 3 ∧ 0 ≤ l ∧ l ≤ 2 ∧ 0 ≤ n ∧ n ≤ 10) ∧ ∀ c j, σ c j = σ c j) ∨ ((0 ≤ k ∧ k ≤ 3 ∧ 0 ≤ l ∧ l ≤ 2 ∧ 0 ≤ n ∧ n ≤ 10) ∧ ∃ cz : Int, ((cz = 0 ∧ 0 < n ∧ (-1) = 0 ∧ σ 88 38 = 1 ∧ σ 104 k.toNat = -4) ∨ (cz = 0 ∧ 0 < n ∧ (-1) = 0 ∧ σ 88 38 = 3 ∧ ¬ σ 104 k.toNat = -4 ∧ ¬ σ 104 k.toNat = l) ∨ ((n = 0 ∨ (¬ σ 104 k.toNat = -4 ∧ σ 104 k.toNat = l)) ∧ RDE (rdF (σ 105 k.toNat) f) (fun x => rdO (wM σ) rk (CM k σ) f (gM 0 σ) x = 0) n cz (-1) (σ 88 38))) ∧ ((0 ≤ (-1) ∧ RDM rk (CM k σ) f cz.toNat σ σ) ∨ ((-1) < 0 ∧ RDM rk (CM k σ) f 0 σ σ ∧ σ 88 38 = σ 88 38))) := fun rk M => Or.inl ⟨rfl, by omega, fun c j => rfl⟩
    exact j_iret (pc := 22) ⟨rfl, rfl⟩ dX12_read_22 rfl ⟨_, rfl, ⟨by omega, by omega⟩, hI, (tw_F_rf), (by first | exact mI9 | exact hq0), (by first | rfl | exact r93 | exact (rfl).trans i5 | omega), (by first | rfl | exact r94 | exact (rfl).trans i6 | omega), (by first | rfl | exact r95 | exact (rfl).trans i7 | omega), (by first | rfl | exact r96 | exact (rfl).trans i8 | omega), fin⟩
  · refine j_iload (pc := 8) dX12_read_8 rfl ?_
    refine j_i2l (pc := 10) dX12_read_10 ?_
    rw [w32_eq (a := n) (by omega) (by omega)]
    refine j_lconst (pc := 11) (z := 0) dX12_read_11 rfl ?_
    refine j_ldc2 (pc := 12) (z := 10) dX12_read_12 (tw_inc tm_6 (i := 239) rfl rfl) ?_
    refine j_callS (pc := 15) (As := [vL n, vL 0, vL 10]) (st := []) (c_X12_in n ⟨by omega, by omega⟩ 0 (by (first | decide | exact ⟨by omega, by omega⟩)) 10 (by (first | decide | exact ⟨by omega, by omega⟩)) σ hI) ms_X12_82 rfl dX12_read_15 ⟨Nat.le_of_ble_eq_true rfl, Nat.le_of_ble_eq_true rfl⟩ ⟨Nat.le_refl _, Nat.le_refl _⟩ rfl (Nat.le_of_ble_eq_true rfl) rfl (fun z55 σ56 hz55 => ?_)
    obtain ⟨r58, rfl, hr58, rfl, q57_0⟩ := hz55
    replace q57_0 : (r58 = 1 ∧ (0 : Int) ≤ n ∧ n ≤ (10 : Int)) ∨ (r58 = 0 ∧ ¬ ((0 : Int) ≤ n ∧ n ≤ (10 : Int))) := q57_0
    refine j_st (st' := [vI r58]) rfl ?_
    refine j_ifR_ne (pc := 18) (tgt := 23) ⟨by omega, by omega⟩ dX12_read_18 rfl (fun h59 => ?_) (fun h59 => ?_)
    · refine j_aload_n (pc := 23) dX12_read_23 rfl rfl ?_
      refine j_sipush (pc := 24) dX12_read_24 rfl ?_
      refine j_iconst (pc := 27) dX12_read_27 ?_
      refine j_callV (pc := 28) (As := [vI 300, vI 0]) (st := []) (c_X12_copies hM 300 (by (first | decide | exact ⟨by omega, by omega⟩)) 0 (by (first | decide | exact ⟨by omega, by omega⟩)) σ hI (by omega) (by omega) (by omega)) mv_X12_283 rfl rfl rfl (a_88 hM) dX12_read_28 ⟨Nat.le_of_ble_eq_true rfl, Nat.le_of_ble_eq_true rfl⟩ ⟨Nat.le_refl _, Nat.le_refl _⟩ rfl (Nat.le_of_ble_eq_true rfl) rfl (fun z60 σ61 hz60 => ?_)
      obtain ⟨rfl, hIσ61, hGσ61, q62_0⟩ := hz60
      replace q62_0 : ∀ j : Nat, (j : Int) < 100 → σ61 89 ((300 : Int) + (j : Int)).toNat = σ 89 ((0 : Int) + (j : Int)).toNat := q62_0
      have hFσ61 : tw_F (fun c j => (c = 88 ∧ (j = 38)) ∨ (c = 89 ∧ (j < 100 ∨ 300 ≤ j))) σ σ61 := tw_F_tr (tw_F_rf) hGσ61 (fun c j q => (show (c = 88 ∧ (j = 38)) ∨ (c = 89 ∧ (j < 100 ∨ 300 ≤ j)) from by replace q : (c = 89 ∧ (300 : Int) ≤ (j : Int) ∧ (j : Int) < (300 : Int) + 100) := q; omega))
      refine j_st (st' := []) rfl ?_
      have mI9 : mI σ61 := mI_kept hq0 (fun j hj => hGσ61 89 j (show ¬ ((89 = 89 ∧ (300 : Int) ≤ (j : Int) ∧ (j : Int) < (300 : Int) + 100)) from by omega)) (fun j => hGσ61 90 j (show ¬ ((90 = 89 ∧ (300 : Int) ≤ (j : Int) ∧ (j : Int) < (300 : Int) + 100)) from fun h => absurd h.1 (by decide))) (hGσ61 91 0 (show ¬ ((91 = 89 ∧ (300 : Int) ≤ (0 : Int) ∧ (0 : Int) < (300 : Int) + 100)) from fun h => absurd h.1 (by decide))) hI
      refine j_iconst (pc := 31) dX12_read_31 ?_
      refine j_istore (pc := 32) (i := 5) (ls' := [(0, vR 88), (1, vI k), (2, vI l), (3, vI f), (4, vI n), (5, vI 0)]) [1, 2, 3, 4, 5, 0] dX12_read_32 (Nat.le_of_ble_eq_true rfl) rfl rfl ?_
      refine j_iconst (pc := 34) dX12_read_34 ?_
      refine j_istore (pc := 35) (i := 6) (ls' := [(0, vR 88), (1, vI k), (2, vI l), (3, vI f), (4, vI n), (5, vI 0), (6, vI 0)]) [1, 2, 3, 4, 5, 6, 0] dX12_read_35 (Nat.le_of_ble_eq_true rfl) rfl rfl ?_
      refine j_iconst (pc := 37) dX12_read_37 ?_
      refine j_istore (pc := 38) (i := 7) (ls' := [(0, vR 88), (1, vI k), (2, vI l), (3, vI f), (4, vI n), (5, vI 0), (6, vI 0), (7, vI 0)]) [1, 2, 3, 4, 5, 6, 7, 0] dX12_read_38 (Nat.le_of_ble_eq_true rfl) rfl rfl ?_
      refine j_ls (ls' := [(0, vR 88), (1, vI k), (2, vI l), (3, vI f), (4, vI n), (5, vI 0), (6, vI 0), (7, vI 0)]) [0, 1, 2, 3, 4, 5, 6, 7] rfl ?_
      have y64 : σ61 88 38 = σ 88 38 := (hGσ61 88 38 (show ¬ ((88 = 89 ∧ (300 : Int) ≤ (38 : Int) ∧ (38 : Int) < (300 : Int) + 100)) from fun h => absurd h.1 (by decide)))
      have f65 : (-2147483648 : Int) ≤ σ 88 38 ∧ σ 88 38 ≤ 2147483647 := hI 88 38
      exact (l_X12_read hM k hk l hl f hf n hn σ hI hq0 (((100 * (11 - (0 : Int))).toNat) + 1)).1 0 (by (first | decide | exact ⟨by omega, by omega⟩)) 0 (by (first | decide | exact ⟨by omega, by omega⟩)) 0 (by (first | decide | exact ⟨by omega, by omega⟩)) σ61 hIσ61 hFσ61 (show mI σ61 from (by first | exact q62_0 | exact i0 | exact mI9)) (show 0 ≤ k ∧ k ≤ 3 ∧ 0 ≤ l ∧ l ≤ 2 from by omega) (show 0 ≤ n ∧ n ≤ 10 from by omega) (show ∀ j : Nat, (j : Int) < 100 → σ61 89 (300 + (j : Int)).toNat = σ 89 (0 + (j : Int)).toNat from (by first | exact fun j hj => (hGσ61 89 _ (show ¬ ((89 = 89 ∧ (300 : Int) ≤ ((300 + (j : Int)).toNat : Int) ∧ ((300 + (j : Int)).toNat : Int) < (300 : Int) + 100)) from by omega)).trans (i3 j hj) | exact i3 | exact q62_0)) (show (0 : Int) ≤ (0 : Int) from by omega) (show σ61 89 93 = σ 89 93 from (hGσ61 89 93 (show ¬ ((89 = 89 ∧ (300 : Int) ≤ (93 : Int) ∧ (93 : Int) < (300 : Int) + 100)) from by omega))) (show σ61 89 94 = σ 89 94 from (hGσ61 89 94 (show ¬ ((89 = 89 ∧ (300 : Int) ≤ (94 : Int) ∧ (94 : Int) < (300 : Int) + 100)) from by omega))) (show σ61 89 95 = σ 89 95 from (hGσ61 89 95 (show ¬ ((89 = 89 ∧ (300 : Int) ≤ (95 : Int) ∧ (95 : Int) < (300 : Int) + 100)) from by omega))) (show σ61 89 96 = σ 89 96 from (hGσ61 89 96 (show ¬ ((89 = 89 ∧ (300 : Int) ≤ (96 : Int) ∧ (96 : Int) < (300 : Int) + 100)) from by omega))) (show ((0 : Int) = 0 ∧ (0 : Int) = (0 : Int)) ∨ ((0 : Int) = 2 ∧ (0 : Int) + 1 = (0 : Int) ∧ ¬ (0 ≤ f + 2 * (0 : Int) ∧ f + 2 * (0 : Int) + 1 < σ 105 k.toNat) ∧ (¬ σ 104 k.toNat = -4 ∧ σ 104 k.toNat = l)) ∨ ((0 : Int) = 1 ∧ (0 : Int) = 0 ∧ 0 < n ∧ σ 104 k.toNat = -4) ∨ ((0 : Int) = 3 ∧ (0 : Int) = 0 ∧ 0 < n ∧ ¬ σ 104 k.toNat = -4 ∧ ¬ σ 104 k.toNat = l) from by omega) (show ¬ (0 : Int) = 0 ∨ (0 : Int) = 0 ∨ (¬ σ 104 k.toNat = -4 ∧ σ 104 k.toNat = l) from by omega) (show (0 : Int) ≤ n from by omega) (show σ61 88 38 = σ 88 38 from by omega) (show ∀ rk : Nat → Int, MOB rk 0 σ → RDM rk (CM k σ) f (0 : Int).toNat σ σ61 ∧ ∀ x : Nat, (x : Int) < (0 : Int) → rdF (σ 105 k.toNat) f x ∧ rdO (wM σ) rk (CM k σ) f (gM 0 σ) x = 0 from (fun rk M => ⟨RDM_0 M (fun j hj => ((hGσ61 89 j (show ¬ ((89 = 89 ∧ (300 : Int) ≤ (j : Int) ∧ (j : Int) < (300 : Int) + 100)) from by omega)))) ((hGσ61 91 0 (show ¬ ((91 = 89 ∧ (300 : Int) ≤ (0 : Int) ∧ (0 : Int) < (300 : Int) + 100)) from fun h => absurd h.1 (by decide)))), fun x hx => by exfalso; omega⟩)) (Nat.lt_succ_self _)
    · refine j_iconst (pc := 21) dX12_read_21 ?_
      have fin : ∀ rk : Nat → Int, MOB rk 0 σ → ((-1) = -1 ∧ ¬ (0 ≤ k ∧ k ≤ 3 ∧ 0 ≤ l ∧ l ≤ 2 ∧ 0 ≤ n ∧ n ≤ 10) ∧ ∀ c j, σ c j = σ c j) ∨ ((0 ≤ k ∧ k ≤ 3 ∧ 0 ≤ l ∧ l ≤ 2 ∧ 0 ≤ n ∧ n ≤ 10) ∧ ∃ cz : Int, ((cz = 0 ∧ 0 < n ∧ (-1) = 0 ∧ σ 88 38 = 1 ∧ σ 104 k.toNat = -4) ∨ (cz = 0 ∧ 0 < n ∧ (-1) = 0 ∧ σ 88 38 = 3 ∧ ¬ σ 104 k.toNat = -4 ∧ ¬ σ 104 k.toNat = l) ∨ ((n = 0 ∨ (¬ σ 104 k.toNat = -4 ∧ σ 104 k.toNat = l)) ∧ RDE (rdF (σ 105 k.toNat) f) (fun x => rdO (wM σ) rk (CM k σ) f (gM 0 σ) x = 0) n cz (-1) (σ 88 38))) ∧ ((0 ≤ (-1) ∧ RDM rk (CM k σ) f cz.toNat σ σ) ∨ ((-1) < 0 ∧ RDM rk (CM k σ) f 0 σ σ ∧ σ 88 38 = σ 88 38))) := fun rk M => Or.inl ⟨rfl, by omega, fun c j => rfl⟩
      exact j_iret (pc := 22) ⟨rfl, rfl⟩ dX12_read_22 rfl ⟨_, rfl, ⟨by omega, by omega⟩, hI, (tw_F_rf), (by first | exact mI9 | exact hq0), (by first | rfl | exact r93 | exact (rfl).trans i5 | omega), (by first | rfl | exact r94 | exact (rfl).trans i6 | omega), (by first | rfl | exact r95 | exact (rfl).trans i7 | omega), (by first | rfl | exact r96 | exact (rfl).trans i8 | omega), fin⟩
