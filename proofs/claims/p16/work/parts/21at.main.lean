/-! 21at.main -/
theorem dX11_read_0 : decode cX11_read 0 = .ok (.aload_n 0, 1) := by decide +kernel
theorem dX11_read_1 : decode cX11_read 1 = .ok (.iload_n 1, 1) := by decide +kernel
theorem dX11_read_2 : decode cX11_read 2 = .ok (.invokevirtual 401, 3) := by decide +kernel
theorem dX11_read_5 : decode cX11_read 5 = .ok (.ifCond .eq 22, 3) := by decide +kernel
theorem dX11_read_8 : decode cX11_read 8 = .ok (.iload_n 2, 1) := by decide +kernel
theorem dX11_read_9 : decode cX11_read 9 = .ok (.invokestatic 404, 3) := by decide +kernel
theorem dX11_read_12 : decode cX11_read 12 = .ok (.ifCond .eq 15, 3) := by decide +kernel
theorem dX11_read_15 : decode cX11_read 15 = .ok (.iload 4, 2) := by decide +kernel
theorem dX11_read_17 : decode cX11_read 17 = .ok (.ifCond .lt 10, 3) := by decide +kernel
theorem dX11_read_20 : decode cX11_read 20 = .ok (.iload 4, 2) := by decide +kernel
theorem dX11_read_22 : decode cX11_read 22 = .ok (.bipush 10, 2) := by decide +kernel
theorem dX11_read_24 : decode cX11_read 24 = .ok (.if_icmp .le 5, 3) := by decide +kernel
theorem dX11_read_27 : decode cX11_read 27 = .ok (.iconst (-1), 1) := by decide +kernel
theorem dX11_read_28 : decode cX11_read 28 = .ok (.ireturn, 1) := by decide +kernel
theorem dX11_read_29 : decode cX11_read 29 = .ok (.aload_n 0, 1) := by decide +kernel
theorem dX11_read_30 : decode cX11_read 30 = .ok (.getfield 87, 3) := by decide +kernel
theorem dX11_read_33 : decode cX11_read 33 = .ok (.iload_n 1, 1) := by decide +kernel
theorem dX11_read_34 : decode cX11_read 34 = .ok (.aaload, 1) := by decide +kernel
theorem dX11_read_35 : decode cX11_read 35 = .ok (.astore 5, 2) := by decide +kernel
theorem dX11_read_37 : decode cX11_read 37 = .ok (.iconst 0, 1) := by decide +kernel
theorem dX11_read_38 : decode cX11_read 38 = .ok (.istore 6, 2) := by decide +kernel
theorem dX11_read_40 : decode cX11_read 40 = .ok (.iconst 0, 1) := by decide +kernel
theorem dX11_read_41 : decode cX11_read 41 = .ok (.istore 7, 2) := by decide +kernel
theorem dX11_read_43 : decode cX11_read 43 = .ok (.iload 4, 2) := by decide +kernel
theorem dX11_read_45 : decode cX11_read 45 = .ok (.ifCond .le 31, 3) := by decide +kernel
theorem dX11_read_48 : decode cX11_read 48 = .ok (.aload 5, 2) := by decide +kernel
theorem dX11_read_50 : decode cX11_read 50 = .ok (.getfield 409, 3) := by decide +kernel
theorem dX11_read_53 : decode cX11_read 53 = .ok (.ifCond .ne 7, 3) := by decide +kernel
theorem dX11_read_56 : decode cX11_read 56 = .ok (.iconst 1, 1) := by decide +kernel
theorem dX11_read_57 : decode cX11_read 57 = .ok (.goto 17, 3) := by decide +kernel
theorem dX11_read_60 : decode cX11_read 60 = .ok (.aload 5, 2) := by decide +kernel
theorem dX11_read_62 : decode cX11_read 62 = .ok (.getfield 416, 3) := by decide +kernel
theorem dX11_read_65 : decode cX11_read 65 = .ok (.iload_n 2, 1) := by decide +kernel
theorem dX11_read_66 : decode cX11_read 66 = .ok (.if_icmp .eq 7, 3) := by decide +kernel
theorem dX11_read_69 : decode cX11_read 69 = .ok (.iconst 3, 1) := by decide +kernel
theorem dX11_read_70 : decode cX11_read 70 = .ok (.goto 4, 3) := by decide +kernel
theorem dX11_read_73 : decode cX11_read 73 = .ok (.iconst 0, 1) := by decide +kernel
theorem dX11_read_74 : decode cX11_read 74 = .ok (.istore 6, 2) := by decide +kernel
theorem dX11_read_76 : decode cX11_read 76 = .ok (.aload_n 0, 1) := by decide +kernel
theorem dX11_read_77 : decode cX11_read 77 = .ok (.getfield 36, 3) := by decide +kernel
theorem dX11_read_80 : decode cX11_read 80 = .ok (.aload_n 0, 1) := by decide +kernel
theorem dX11_read_81 : decode cX11_read 81 = .ok (.getfield 26, 3) := by decide +kernel
theorem dX11_read_84 : decode cX11_read 84 = .ok (.invokevirtual 398, 3) := by decide +kernel
theorem dX11_read_87 : decode cX11_read 87 = .ok (.iconst 0, 1) := by decide +kernel
theorem dX11_read_88 : decode cX11_read 88 = .ok (.istore 8, 2) := by decide +kernel
theorem dX11_read_90 : decode cX11_read 90 = .ok (.iload 8, 2) := by decide +kernel
theorem dX11_read_92 : decode cX11_read 92 = .ok (.iload 4, 2) := by decide +kernel
theorem dX11_read_94 : decode cX11_read 94 = .ok (.if_icmp .ge 102, 3) := by decide +kernel
theorem dX11_read_97 : decode cX11_read 97 = .ok (.iload 6, 2) := by decide +kernel
theorem dX11_read_99 : decode cX11_read 99 = .ok (.ifCond .ne 97, 3) := by decide +kernel
theorem dX11_read_102 : decode cX11_read 102 = .ok (.iload_n 3, 1) := by decide +kernel
theorem dX11_read_103 : decode cX11_read 103 = .ok (.iconst 2, 1) := by decide +kernel
theorem dX11_read_104 : decode cX11_read 104 = .ok (.iload 8, 2) := by decide +kernel
theorem dX11_read_106 : decode cX11_read 106 = .ok (.imul, 1) := by decide +kernel
theorem dX11_read_107 : decode cX11_read 107 = .ok (.iadd, 1) := by decide +kernel
theorem dX11_read_108 : decode cX11_read 108 = .ok (.istore 9, 2) := by decide +kernel
theorem dX11_read_110 : decode cX11_read 110 = .ok (.aload 5, 2) := by decide +kernel
theorem dX11_read_112 : decode cX11_read 112 = .ok (.iload 9, 2) := by decide +kernel
theorem dX11_read_114 : decode cX11_read 114 = .ok (.invokevirtual 412, 3) := by decide +kernel
theorem dX11_read_117 : decode cX11_read 117 = .ok (.ifCond .eq 15, 3) := by decide +kernel
theorem dX11_read_120 : decode cX11_read 120 = .ok (.aload 5, 2) := by decide +kernel
theorem dX11_read_122 : decode cX11_read 122 = .ok (.iload 9, 2) := by decide +kernel
theorem dX11_read_124 : decode cX11_read 124 = .ok (.iconst 1, 1) := by decide +kernel
theorem dX11_read_125 : decode cX11_read 125 = .ok (.iadd, 1) := by decide +kernel
theorem dX11_read_126 : decode cX11_read 126 = .ok (.invokevirtual 412, 3) := by decide +kernel
theorem dX11_read_129 : decode cX11_read 129 = .ok (.ifCond .ne 9, 3) := by decide +kernel
theorem dX11_read_132 : decode cX11_read 132 = .ok (.iconst 2, 1) := by decide +kernel
theorem dX11_read_133 : decode cX11_read 133 = .ok (.istore 6, 2) := by decide +kernel
theorem dX11_read_135 : decode cX11_read 135 = .ok (.goto 55, 3) := by decide +kernel
theorem dX11_read_138 : decode cX11_read 138 = .ok (.aload_n 0, 1) := by decide +kernel
theorem dX11_read_139 : decode cX11_read 139 = .ok (.getfield 26, 3) := by decide +kernel
theorem dX11_read_142 : decode cX11_read 142 = .ok (.aload_n 0, 1) := by decide +kernel
theorem dX11_read_143 : decode cX11_read 143 = .ok (.getfield 10, 3) := by decide +kernel
theorem dX11_read_146 : decode cX11_read 146 = .ok (.aload 5, 2) := by decide +kernel
theorem dX11_read_148 : decode cX11_read 148 = .ok (.getfield 419, 3) := by decide +kernel
theorem dX11_read_151 : decode cX11_read 151 = .ok (.iload 9, 2) := by decide +kernel
theorem dX11_read_153 : decode cX11_read 153 = .ok (.iaload, 1) := by decide +kernel
theorem dX11_read_154 : decode cX11_read 154 = .ok (.aload 5, 2) := by decide +kernel
theorem dX11_read_156 : decode cX11_read 156 = .ok (.getfield 419, 3) := by decide +kernel
theorem dX11_read_159 : decode cX11_read 159 = .ok (.iload 9, 2) := by decide +kernel
theorem dX11_read_161 : decode cX11_read 161 = .ok (.iconst 1, 1) := by decide +kernel
theorem dX11_read_162 : decode cX11_read 162 = .ok (.iadd, 1) := by decide +kernel
theorem dX11_read_163 : decode cX11_read 163 = .ok (.iaload, 1) := by decide +kernel
theorem dX11_read_164 : decode cX11_read 164 = .ok (.invokevirtual 178, 3) := by decide +kernel
theorem dX11_read_167 : decode cX11_read 167 = .ok (.ifCond .ge 20, 3) := by decide +kernel
theorem dX11_read_170 : decode cX11_read 170 = .ok (.aload_n 0, 1) := by decide +kernel
theorem dX11_read_171 : decode cX11_read 171 = .ok (.getfield 26, 3) := by decide +kernel
theorem dX11_read_174 : decode cX11_read 174 = .ok (.aload_n 0, 1) := by decide +kernel
theorem dX11_read_175 : decode cX11_read 175 = .ok (.getfield 36, 3) := by decide +kernel
theorem dX11_read_178 : decode cX11_read 178 = .ok (.invokevirtual 398, 3) := by decide +kernel
theorem dX11_read_181 : decode cX11_read 181 = .ok (.bipush (-20), 2) := by decide +kernel
theorem dX11_read_183 : decode cX11_read 183 = .ok (.iload 8, 2) := by decide +kernel
theorem dX11_read_185 : decode cX11_read 185 = .ok (.isub, 1) := by decide +kernel
theorem dX11_read_186 : decode cX11_read 186 = .ok (.ireturn, 1) := by decide +kernel
theorem dX11_read_187 : decode cX11_read 187 = .ok (.iinc 7 1, 3) := by decide +kernel
theorem dX11_read_190 : decode cX11_read 190 = .ok (.iinc 8 1, 3) := by decide +kernel
theorem dX11_read_193 : decode cX11_read 193 = .ok (.goto (-103), 3) := by decide +kernel
theorem dX11_read_196 : decode cX11_read 196 = .ok (.aload_n 0, 1) := by decide +kernel
theorem dX11_read_197 : decode cX11_read 197 = .ok (.iload 6, 2) := by decide +kernel
theorem dX11_read_199 : decode cX11_read 199 = .ok (.putfield 95, 3) := by decide +kernel
theorem dX11_read_202 : decode cX11_read 202 = .ok (.iload 7, 2) := by decide +kernel
theorem dX11_read_204 : decode cX11_read 204 = .ok (.ireturn, 1) := by decide +kernel
abbrev q_X11_read (k : Int) (l : Int) (f : Int) (n : Int) (σ : tw_M) : Option tw_V → tw_M → Prop := fun z τ => ∃ r : Int, z = some (vI r) ∧ (-2147483648 ≤ r ∧ r ≤ 2147483647) ∧ tw_I τ ∧ tw_F (fun c j => (23 ≤ c ∧ c < 31) ∨ (47 ≤ c ∧ c < 55) ∨ (c = 0 ∧ (j = 14))) σ τ ∧ (τ 29 0 = σ 29 0) ∧ (τ 30 0 = σ 30 0) ∧ (τ 29 1 = σ 29 1) ∧ (τ 30 1 = σ 30 1) ∧ (∀ gg qq rk : Nat → Int, RG 24 gg qq σ → CNR rk gg 28 σ → (r = -1 ∧ ¬ (0 ≤ k ∧ k ≤ 3 ∧ 0 ≤ l ∧ l ≤ 2 ∧ 0 ≤ n ∧ n ≤ 10) ∧ ∀ c j, τ c j = σ c j) ∨ ((0 ≤ k ∧ k ≤ 3 ∧ 0 ≤ l ∧ l ≤ 2 ∧ 0 ≤ n ∧ n ≤ 10) ∧ ∃ cz : Int, ((cz = 0 ∧ 0 < n ∧ r = 0 ∧ τ 0 14 = 1 ∧ σ (80 + 2 * k.toNat) 1 = 0) ∨ (cz = 0 ∧ 0 < n ∧ r = 0 ∧ τ 0 14 = 3 ∧ ¬ σ (80 + 2 * k.toNat) 1 = 0 ∧ ¬ σ (80 + 2 * k.toNat) 2 = l) ∨ ((n = 0 ∨ (¬ σ (80 + 2 * k.toNat) 1 = 0 ∧ σ (80 + 2 * k.toNat) 2 = l)) ∧ RDE (rdF (σ (80 + 2 * k.toNat) 3) f) (fun x => rdO (wW 1 σ) rk (CC (81 + 2 * k.toNat) σ) f gg x = 0) n cz r (τ 0 14))) ∧ ((0 ≤ r ∧ RDX rk (CC (81 + 2 * k.toNat) σ) f gg qq cz.toNat τ) ∨ (r < 0 ∧ RDX rk (CC (81 + 2 * k.toNat) σ) f gg qq 0 τ ∧ τ 0 14 = σ 0 14)))) ∧ (τ 23 4 = σ 23 4) ∧ (τ 23 5 = σ 23 5)
set_option maxHeartbeats 4000000 in
set_option maxRecDepth 100000 in
theorem l_X11_read {G : tw_G} (hX : tw_isX G) (k : Int) (hk : -2147483648 ≤ k ∧ k ≤ 2147483647) (l : Int) (hl : -2147483648 ≤ l ∧ l ≤ 2147483647) (f : Int) (hf : -2147483648 ≤ f ∧ f ≤ 2147483647) (n : Int) (hn : -2147483648 ≤ n ∧ n ≤ 2147483647) (σ : tw_M) (hI : tw_I σ) : ∀ N_ : Nat, (∀ (s : Nat) (hs : IsSheet G s) (m : Int) (hm : 0 ≤ m ∧ m ≤ 3) (c : Int) (hc : 0 ≤ c ∧ c ≤ 10) (i : Int) (hi : 0 ≤ i ∧ i ≤ 10) (τ : tw_M) (hIτ : tw_I τ) (hFτ : tw_F (fun c j => (23 ≤ c ∧ c < 31) ∨ (47 ≤ c ∧ c < 55) ∨ (c = 0 ∧ (j = 14))) σ τ) (i0 : c ≤ i) (i1 : n ≤ 10) (i2 : 0 ≤ n) (i3 : τ 29 0 = σ 29 0) (i4 : τ 30 0 = σ 30 0) (i5 : τ 29 1 = σ 29 1) (i6 : τ 30 1 = σ 30 1) (i7 : τ 53 0 = σ 29 0) (i8 : τ 54 0 = σ 30 0) (i9 : τ 53 1 = σ 29 1) (i10 : τ 54 1 = σ 30 1) (i11 : (s : Int) = 80 + 2 * k) (i12 : CPY 47 23 σ τ) (i13 : τ 0 14 = σ 0 14) (i14 : (m = 0 ∧ c = i) ∨ (m = 2 ∧ c + 1 = i ∧ ¬ (0 ≤ f + 2 * c ∧ f + 2 * c + 1 < σ s 3)) ∨ (m = 1 ∧ c = 0 ∧ i = 0 ∧ 0 < n ∧ σ s 1 = 0) ∨ (m = 3 ∧ c = 0 ∧ i = 0 ∧ 0 < n ∧ ¬ σ s 1 = 0 ∧ ¬ σ s 2 = l)) (i15 : m = 1 ∨ m = 3 ∨ n = 0 ∨ (¬ σ s 1 = 0 ∧ σ s 2 = l)) (i16 : c ≤ n) (i17 : i ≤ n) (i18 : 0 ≤ k ∧ k ≤ 3 ∧ 0 ≤ l ∧ l ≤ 2) (i19 : τ 23 4 = σ 23 4) (i20 : τ 23 5 = σ 23 5) (i21 : ∀ gg qq rk : Nat → Int, RG 24 gg qq σ → CNR rk gg 28 σ → RDX rk (CC (s + 1) σ) f gg qq c.toNat τ ∧ ∀ x : Nat, (x : Int) < c → rdF (σ s 3) f x ∧ rdO (wW 1 σ) rk (CC (s + 1) σ) f gg x = 0) (hm : (10 - i).toNat < N_), tw_J G (tw_mt RX11 cX11_read 10 (some .int) 2) (tw_E G (q_X11_read k l f n σ)) 90 [(0, vR 0), (3, vI f), (4, vI n), (5, vR s), (6, vI m), (7, vI c), (8, vI i)] [] τ) := by
  intro N_
  induction N_ with
  | zero => exact fun s hs m hm c hc i hi τ hIτ hFτ i0 i1 i2 i3 i4 i5 i6 i7 i8 i9 i10 i11 i12 i13 i14 i15 i16 i17 i18 i19 i20 i21 hm => absurd hm (Nat.not_lt_zero _)
  | succ N_ ih =>
    intro s hs m hm c hc i hi τ hIτ hFτ i0 i1 i2 i3 i4 i5 i6 i7 i8 i9 i10 i11 i12 i13 i14 i15 i16 i17 i18 i19 i20 i21 hm
    have s1 : τ s 1 = σ s 1 := hFτ s 1 (show ¬ ((23 ≤ s ∧ s < 31) ∨ (47 ≤ s ∧ s < 55) ∨ (s = 0 ∧ (1 = 14))) from by omega)
    have s2 : τ s 2 = σ s 2 := hFτ s 2 (show ¬ ((23 ≤ s ∧ s < 31) ∨ (47 ≤ s ∧ s < 55) ∨ (s = 0 ∧ (2 = 14))) from by omega)
    have s3 : τ s 3 = σ s 3 := hFτ s 3 (show ¬ ((23 ≤ s ∧ s < 31) ∨ (47 ≤ s ∧ s < 55) ∨ (s = 0 ∧ (3 = 14))) from by omega)
    have f3 : (0 : Int) ≤ σ s 3 ∧ σ s 3 ≤ 40 := tw_Ig hs.2.1 hI 3
    have f1 : (0 : Int) ≤ σ s 1 ∧ σ s 1 ≤ 1 := tw_Ig hs.2.1 hI 1
    have W1 : wW 1 τ = wW 1 σ := wW_F (fun c j a b => hFτ c j (show ¬ ((23 ≤ c ∧ c < 31) ∨ (47 ≤ c ∧ c < 55) ∨ (c = 0 ∧ (j = 14))) from by omega))
    have w1h : wW 1 σ 100 ≤ 40 := by (have r0 : wW 1 σ 100 = σ 2 0 := wW_r (w := 1) (j := 0) (by decide)); (have ft : (1 : Int) ≤ σ 2 0 ∧ σ 2 0 ≤ 40 := hI 2 0); omega
    refine j_iload (pc := 90) dX11_read_90 rfl ?_
    refine j_iload (pc := 92) dX11_read_92 rfl ?_
    refine j_icmpR_ge (pc := 94) (tgt := 196) ⟨by omega, by omega⟩ ⟨by omega, by omega⟩ dX11_read_94 rfl (fun h1 => ?_) (fun h1 => ?_)
    · refine j_aload_n (pc := 196) dX11_read_196 rfl rfl ?_
      refine j_iload (pc := 197) dX11_read_197 rfl ?_
      refine j_putI (pc := 199) fl_X11_95 fp_X11_14 dX11_read_199 (a_0 hX) rfl (j_nm (fun σ2 (eσ2 : σ2 = tw_up τ 0 14 m) => ?_))
      have hIσ2 : tw_I σ2 := tw_I_up hIτ eσ2 (show (-2147483648 : Int) ≤ m ∧ m ≤ 2147483647 from ⟨by omega, by omega⟩)
      have hFσ2 : tw_F (fun c j => (23 ≤ c ∧ c < 31) ∨ (47 ≤ c ∧ c < 55) ∨ (c = 0 ∧ (j = 14))) σ σ2 := tw_F_up hFτ eσ2 (show (23 ≤ 0 ∧ 0 < 31) ∨ (47 ≤ 0 ∧ 0 < 55) ∨ (0 = 0 ∧ (14 = 14)) from (Or.inr (Or.inr ⟨rfl, rfl⟩)))
      refine j_iload (pc := 202) dX11_read_202 rfl ?_
      have t9 : σ2 0 14 = m := tw_eq1 eσ2
      have fin : ∀ gg qq rk : Nat → Int, RG 24 gg qq σ → CNR rk gg 28 σ → (c = -1 ∧ ¬ (0 ≤ k ∧ k ≤ 3 ∧ 0 ≤ l ∧ l ≤ 2 ∧ 0 ≤ n ∧ n ≤ 10) ∧ ∀ c j, σ2 c j = σ c j) ∨ ((0 ≤ k ∧ k ≤ 3 ∧ 0 ≤ l ∧ l ≤ 2 ∧ 0 ≤ n ∧ n ≤ 10) ∧ ∃ cz : Int, ((cz = 0 ∧ 0 < n ∧ c = 0 ∧ σ2 0 14 = 1 ∧ σ (80 + 2 * k.toNat) 1 = 0) ∨ (cz = 0 ∧ 0 < n ∧ c = 0 ∧ σ2 0 14 = 3 ∧ ¬ σ (80 + 2 * k.toNat) 1 = 0 ∧ ¬ σ (80 + 2 * k.toNat) 2 = l) ∨ ((n = 0 ∨ (¬ σ (80 + 2 * k.toNat) 1 = 0 ∧ σ (80 + 2 * k.toNat) 2 = l)) ∧ RDE (rdF (σ (80 + 2 * k.toNat) 3) f) (fun x => rdO (wW 1 σ) rk (CC (81 + 2 * k.toNat) σ) f gg x = 0) n cz c (σ2 0 14))) ∧ ((0 ≤ c ∧ RDX rk (CC (81 + 2 * k.toNat) σ) f gg qq cz.toNat σ2) ∨ (c < 0 ∧ RDX rk (CC (81 + 2 * k.toNat) σ) f gg qq 0 σ2 ∧ σ2 0 14 = σ 0 14))) := fun gg qq rk H C => by
        obtain ⟨a, b⟩ := i21 gg qq rk H C
        have a2 := RDX_F a (τ := σ2) (fun c j a b => ((tw_ne1 eσ2 (by (first | decide | omega)))))
        rw [show 80 + 2 * k.toNat = s from by omega, show 81 + 2 * k.toNat = s + 1 from by omega]
        refine Or.inr ⟨by omega, c, ?_, Or.inl ⟨by omega, a2⟩⟩
        rcases i14 with ⟨e1, e2⟩ | ⟨e1, e2, e3⟩ | ⟨e1, e2, e3, e4, e5⟩ | ⟨e1, e2, e3, e4, e5⟩
        · exact Or.inr (Or.inr ⟨by omega, ⟨by omega, by omega⟩, b, Or.inl ⟨by omega, by omega, by omega⟩⟩)
        · exact Or.inr (Or.inr ⟨by omega, ⟨by omega, by omega⟩, b, Or.inr (Or.inl ⟨by omega, fun z => e3 (by unfold rdF at z; omega), by omega, by omega⟩)⟩)
        · exact Or.inl ⟨by omega, by omega, by omega, by omega, e5⟩
        · exact Or.inr (Or.inl ⟨by omega, by omega, by omega, by omega, e5⟩)
      have y3 : σ2 29 0 = τ 29 0 := (tw_ne1 eσ2 (by (first | decide | omega)))
      have f4 : (0 : Int) ≤ τ 29 0 ∧ τ 29 0 ≤ 999 := hIτ 29 0
      have y5 : σ2 30 0 = τ 30 0 := (tw_ne1 eσ2 (by (first | decide | omega)))
      have f6 : (-2147483648 : Int) ≤ τ 30 0 ∧ τ 30 0 ≤ 2147483647 := hIτ 30 0
      have y7 : σ2 29 1 = τ 29 1 := (tw_ne1 eσ2 (by (first | decide | omega)))
      have f8 : (0 : Int) ≤ τ 29 1 ∧ τ 29 1 ≤ 999 := hIτ 29 1
      have y9 : σ2 30 1 = τ 30 1 := (tw_ne1 eσ2 (by (first | decide | omega)))
      have f10 : (-2147483648 : Int) ≤ τ 30 1 ∧ τ 30 1 ≤ 2147483647 := hIτ 30 1
      have y11 : σ2 0 14 = m := (tw_eq1 eσ2)
      have y12 : σ2 23 4 = τ 23 4 := (tw_ne1 eσ2 (by (first | decide | omega)))
      have f13 : (-2147483648 : Int) ≤ τ 23 4 ∧ τ 23 4 ≤ 2147483647 := hIτ 23 4
      have y14 : σ2 23 5 = τ 23 5 := (tw_ne1 eσ2 (by (first | decide | omega)))
      have f15 : (-2147483648 : Int) ≤ τ 23 5 ∧ τ 23 5 ≤ 2147483647 := hIτ 23 5
      exact j_iret (pc := 204) ⟨rfl, rfl⟩ dX11_read_204 rfl ⟨_, rfl, ⟨by omega, by omega⟩, hIσ2, hFσ2, by omega, by omega, by omega, by omega, fin, (by first | rfl | exact ((tw_ne1 eσ2 (by (first | decide | omega)))).trans i19 | exact cb9.2.2.2.1), (by first | rfl | exact ((tw_ne1 eσ2 (by (first | decide | omega)))).trans i20 | exact cb9.2.2.2.2)⟩
    · refine j_iload (pc := 97) dX11_read_97 rfl ?_
      refine j_ifR_ne (pc := 99) (tgt := 196) ⟨by omega, by omega⟩ dX11_read_99 rfl (fun h16 => ?_) (fun h16 => ?_)
      · refine j_aload_n (pc := 196) dX11_read_196 rfl rfl ?_
        refine j_iload (pc := 197) dX11_read_197 rfl ?_
        refine j_putI (pc := 199) fl_X11_95 fp_X11_14 dX11_read_199 (a_0 hX) rfl (j_nm (fun σ17 (eσ17 : σ17 = tw_up τ 0 14 m) => ?_))
        have hIσ17 : tw_I σ17 := tw_I_up hIτ eσ17 (show (-2147483648 : Int) ≤ m ∧ m ≤ 2147483647 from ⟨by omega, by omega⟩)
        have hFσ17 : tw_F (fun c j => (23 ≤ c ∧ c < 31) ∨ (47 ≤ c ∧ c < 55) ∨ (c = 0 ∧ (j = 14))) σ σ17 := tw_F_up hFτ eσ17 (show (23 ≤ 0 ∧ 0 < 31) ∨ (47 ≤ 0 ∧ 0 < 55) ∨ (0 = 0 ∧ (14 = 14)) from (Or.inr (Or.inr ⟨rfl, rfl⟩)))
        refine j_iload (pc := 202) dX11_read_202 rfl ?_
        have t9 : σ17 0 14 = m := tw_eq1 eσ17
        have fin : ∀ gg qq rk : Nat → Int, RG 24 gg qq σ → CNR rk gg 28 σ → (c = -1 ∧ ¬ (0 ≤ k ∧ k ≤ 3 ∧ 0 ≤ l ∧ l ≤ 2 ∧ 0 ≤ n ∧ n ≤ 10) ∧ ∀ c j, σ17 c j = σ c j) ∨ ((0 ≤ k ∧ k ≤ 3 ∧ 0 ≤ l ∧ l ≤ 2 ∧ 0 ≤ n ∧ n ≤ 10) ∧ ∃ cz : Int, ((cz = 0 ∧ 0 < n ∧ c = 0 ∧ σ17 0 14 = 1 ∧ σ (80 + 2 * k.toNat) 1 = 0) ∨ (cz = 0 ∧ 0 < n ∧ c = 0 ∧ σ17 0 14 = 3 ∧ ¬ σ (80 + 2 * k.toNat) 1 = 0 ∧ ¬ σ (80 + 2 * k.toNat) 2 = l) ∨ ((n = 0 ∨ (¬ σ (80 + 2 * k.toNat) 1 = 0 ∧ σ (80 + 2 * k.toNat) 2 = l)) ∧ RDE (rdF (σ (80 + 2 * k.toNat) 3) f) (fun x => rdO (wW 1 σ) rk (CC (81 + 2 * k.toNat) σ) f gg x = 0) n cz c (σ17 0 14))) ∧ ((0 ≤ c ∧ RDX rk (CC (81 + 2 * k.toNat) σ) f gg qq cz.toNat σ17) ∨ (c < 0 ∧ RDX rk (CC (81 + 2 * k.toNat) σ) f gg qq 0 σ17 ∧ σ17 0 14 = σ 0 14))) := fun gg qq rk H C => by
          obtain ⟨a, b⟩ := i21 gg qq rk H C
          have a2 := RDX_F a (τ := σ17) (fun c j a b => ((tw_ne1 eσ17 (by (first | decide | omega)))))
          rw [show 80 + 2 * k.toNat = s from by omega, show 81 + 2 * k.toNat = s + 1 from by omega]
          refine Or.inr ⟨by omega, c, ?_, Or.inl ⟨by omega, a2⟩⟩
          rcases i14 with ⟨e1, e2⟩ | ⟨e1, e2, e3⟩ | ⟨e1, e2, e3, e4, e5⟩ | ⟨e1, e2, e3, e4, e5⟩
          · exact Or.inr (Or.inr ⟨by omega, ⟨by omega, by omega⟩, b, Or.inl ⟨by omega, by omega, by omega⟩⟩)
          · exact Or.inr (Or.inr ⟨by omega, ⟨by omega, by omega⟩, b, Or.inr (Or.inl ⟨by omega, fun z => e3 (by unfold rdF at z; omega), by omega, by omega⟩)⟩)
          · exact Or.inl ⟨by omega, by omega, by omega, by omega, e5⟩
          · exact Or.inr (Or.inl ⟨by omega, by omega, by omega, by omega, e5⟩)
        have y18 : σ17 29 0 = τ 29 0 := (tw_ne1 eσ17 (by (first | decide | omega)))
        have f19 : (0 : Int) ≤ τ 29 0 ∧ τ 29 0 ≤ 999 := hIτ 29 0
        have y20 : σ17 30 0 = τ 30 0 := (tw_ne1 eσ17 (by (first | decide | omega)))
        have f21 : (-2147483648 : Int) ≤ τ 30 0 ∧ τ 30 0 ≤ 2147483647 := hIτ 30 0
        have y22 : σ17 29 1 = τ 29 1 := (tw_ne1 eσ17 (by (first | decide | omega)))
        have f23 : (0 : Int) ≤ τ 29 1 ∧ τ 29 1 ≤ 999 := hIτ 29 1
        have y24 : σ17 30 1 = τ 30 1 := (tw_ne1 eσ17 (by (first | decide | omega)))
        have f25 : (-2147483648 : Int) ≤ τ 30 1 ∧ τ 30 1 ≤ 2147483647 := hIτ 30 1
        have y26 : σ17 0 14 = m := (tw_eq1 eσ17)
        have y27 : σ17 23 4 = τ 23 4 := (tw_ne1 eσ17 (by (first | decide | omega)))
        have f28 : (-2147483648 : Int) ≤ τ 23 4 ∧ τ 23 4 ≤ 2147483647 := hIτ 23 4
        have y29 : σ17 23 5 = τ 23 5 := (tw_ne1 eσ17 (by (first | decide | omega)))
        have f30 : (-2147483648 : Int) ≤ τ 23 5 ∧ τ 23 5 ≤ 2147483647 := hIτ 23 5
        exact j_iret (pc := 204) ⟨rfl, rfl⟩ dX11_read_204 rfl ⟨_, rfl, ⟨by omega, by omega⟩, hIσ17, hFσ17, by omega, by omega, by omega, by omega, fin, (by first | rfl | exact ((tw_ne1 eσ17 (by (first | decide | omega)))).trans i19 | exact cb9.2.2.2.1), (by first | rfl | exact ((tw_ne1 eσ17 (by (first | decide | omega)))).trans i20 | exact cb9.2.2.2.2)⟩
      · refine j_iload_n (pc := 102) dX11_read_102 rfl rfl ?_
        refine j_iconst (pc := 103) dX11_read_103 ?_
        refine j_iload (pc := 104) dX11_read_104 rfl ?_
        refine j_imul (pc := 106) dX11_read_106 ?_
        refine j_iadd (pc := 107) dX11_read_107 ?_
        refine j_top (fun z31 ez31 hz31 => ?_)
        have gz31 : f + (2 * i) < -2147483648 ∨ 2147483647 < f + (2 * i) ∨ z31 = f + (2 * i) := by rw [ez31]; exact w32_or _
        have w9 : f + 2 * i ≤ 2147483647 ∨ z31 < 0 := by
          by_cases q : f + 2 * i ≤ 2147483647
          · exact Or.inl q
          · exact Or.inr (by rw [ez31]; exact w32_up (by omega) (by omega))
        refine j_istore (pc := 108) (i := 9) (ls' := [(0, vR 0), (3, vI f), (4, vI n), (5, vR s), (6, vI m), (7, vI c), (8, vI i), (9, vI z31)]) [1, 2, 3, 4, 5, 6, 7, 0] dX11_read_108 (Nat.le_of_ble_eq_true rfl) rfl rfl ?_
        refine j_aload (pc := 110) dX11_read_110 rfl ?_
        refine j_iload (pc := 112) dX11_read_112 rfl ?_
        refine j_callV (pc := 114) (As := [vI z31]) (st := []) (c_X8_has s hs z31 ⟨by omega, by omega⟩ τ hIτ) mv_X11_412 rfl rfl rfl hs.1.1 dX11_read_114 ⟨Nat.le_of_ble_eq_true rfl, Nat.le_of_ble_eq_true rfl⟩ ⟨Nat.le_refl _, Nat.le_refl _⟩ rfl (Nat.le_of_ble_eq_true rfl) rfl (fun z32 σ33 hz32 => ?_)
        obtain ⟨r35, rfl, hr35, rfl, q34_0⟩ := hz32
        replace q34_0 : (r35 = 1 ∧ τ s 1 = 1 ∧ 0 ≤ z31 ∧ z31 < τ s 3 ∧ z31 < 40) ∨ (r35 = 0 ∧ ¬ (τ s 1 = 1 ∧ 0 ≤ z31 ∧ z31 < τ s 3)) := q34_0
        refine j_st (st' := [vI r35]) rfl ?_
        refine j_ifR_eq (pc := 117) (tgt := 132) ⟨by omega, by omega⟩ dX11_read_117 rfl (fun h36 => ?_) (fun h36 => ?_)
        · refine j_iconst (pc := 132) dX11_read_132 ?_
          refine j_istore (pc := 133) (i := 6) (ls' := [(0, vR 0), (3, vI f), (4, vI n), (5, vR s), (6, vI 2), (7, vI c), (8, vI i)]) [1, 2, 3, 4, 0, 5, 6] dX11_read_133 (Nat.le_of_ble_eq_true rfl) rfl rfl ?_
          refine j_goto (pc := 135) (tgt := 190) dX11_read_135 rfl ?_
          refine j_iinc (pc := 190) (i := 8) (n := 1) (ls' := [(0, vR 0), (3, vI f), (4, vI n), (5, vR s), (6, vI 2), (7, vI c), (8, vI (i + 1))]) [1, 2, 3, 4, 5, 6, 0] dX11_read_190 rfl (Nat.le_of_ble_eq_true rfl) rfl rfl ?_
          refine j_goto (pc := 193) (tgt := 90) dX11_read_193 rfl ?_
          refine j_ls (ls' := [(0, vR 0), (3, vI f), (4, vI n), (5, vR s), (6, vI 2), (7, vI c), (8, vI (i + 1))]) [0, 1, 2, 3, 4, 5, 6] rfl ?_
          exact ih s hs 2 (by (first | decide | exact ⟨by omega, by omega⟩)) c ⟨by omega, by omega⟩ (i + 1) ⟨by omega, by omega⟩ τ hIτ hFτ (show c ≤ (i + 1) from by omega) (show n ≤ 10 from by omega) (show 0 ≤ n from by omega) (show τ 29 0 = σ 29 0 from by omega) (show τ 30 0 = σ 30 0 from by omega) (show τ 29 1 = σ 29 1 from by omega) (show τ 30 1 = σ 30 1 from by omega) (show τ 53 0 = σ 29 0 from by omega) (show τ 54 0 = σ 30 0 from by omega) (show τ 53 1 = σ 29 1 from by omega) (show τ 54 1 = σ 30 1 from by omega) (show (s : Int) = 80 + 2 * k from by omega) (show CPY 47 23 σ τ from (CPY_F i12 (fun c j a b => (rfl)))) (show τ 0 14 = σ 0 14 from by omega) (show ((2 : Int) = 0 ∧ c = (i + 1)) ∨ ((2 : Int) = 2 ∧ c + 1 = (i + 1) ∧ ¬ (0 ≤ f + 2 * c ∧ f + 2 * c + 1 < σ s 3)) ∨ ((2 : Int) = 1 ∧ c = 0 ∧ (i + 1) = 0 ∧ 0 < n ∧ σ s 1 = 0) ∨ ((2 : Int) = 3 ∧ c = 0 ∧ (i + 1) = 0 ∧ 0 < n ∧ ¬ σ s 1 = 0 ∧ ¬ σ s 2 = l) from (by first | exact Or.inl ⟨rfl, by omega⟩ | exact Or.inr (Or.inl ⟨rfl, by omega, by omega⟩) | exact Or.inr (Or.inr (Or.inl ⟨rfl, by omega, by omega, by omega, by omega⟩)) | exact Or.inr (Or.inr (Or.inr ⟨rfl, by omega, by omega, by omega, by omega, by omega⟩)) | omega)) (show (2 : Int) = 1 ∨ (2 : Int) = 3 ∨ n = 0 ∨ (¬ σ s 1 = 0 ∧ σ s 2 = l) from (by first | exact Or.inl rfl | exact Or.inr (Or.inl rfl) | exact Or.inr (Or.inr (Or.inl (by omega))) | exact Or.inr (Or.inr (Or.inr ⟨by omega, by omega⟩)) | omega)) (show c ≤ n from by omega) (show (i + 1) ≤ n from by omega) (show 0 ≤ k ∧ k ≤ 3 ∧ 0 ≤ l ∧ l ≤ 2 from by omega) (show τ 23 4 = σ 23 4 from by omega) (show τ 23 5 = σ 23 5 from by omega) (show ∀ gg qq rk : Nat → Int, RG 24 gg qq σ → CNR rk gg 28 σ → RDX rk (CC (s + 1) σ) f gg qq c.toNat τ ∧ ∀ x : Nat, (x : Int) < c → rdF (σ s 3) f x ∧ rdO (wW 1 σ) rk (CC (s + 1) σ) f gg x = 0 from (fun gg qq rk H C => by
                                                              obtain ⟨a, b⟩ := i21 gg qq rk H C
                                                              first
                                                              | exact ⟨a, b⟩
                                                              | (have y := q34_0 _ _ a.1 (fun s1 s2 => (a.2 _ s1 s2).2.1); rw [W1] at y; rcases RDX_s a eh9 es9 w1h y with ⟨z1, z2⟩ | ⟨z1, z2, z3⟩; (exfalso; omega); exact ⟨by rw [show (c + 1).toNat = c.toNat + 1 from by omega]; exact z3, fun x hx => by by_cases q : (x : Int) = c; (rw [show x = c.toNat from by omega]; exact ⟨⟨by omega, by omega⟩, z2⟩); exact b x (by omega)⟩))) (show (10 - (i + 1)).toNat < N_ from by omega)
        · refine j_aload (pc := 120) dX11_read_120 rfl ?_
          refine j_iload (pc := 122) dX11_read_122 rfl ?_
          refine j_iconst (pc := 124) dX11_read_124 ?_
          refine j_iadd (pc := 125) dX11_read_125 ?_
          refine j_top (fun z37 ez37 hz37 => ?_)
          have gz37 : z31 + 1 < -2147483648 ∨ 2147483647 < z31 + 1 ∨ z37 = z31 + 1 := by rw [ez37]; exact w32_or _
          refine j_callV (pc := 126) (As := [vI z37]) (st := []) (c_X8_has s hs z37 ⟨by omega, by omega⟩ τ hIτ) mv_X11_412 rfl rfl rfl hs.1.1 dX11_read_126 ⟨Nat.le_of_ble_eq_true rfl, Nat.le_of_ble_eq_true rfl⟩ ⟨Nat.le_refl _, Nat.le_refl _⟩ rfl (Nat.le_of_ble_eq_true rfl) rfl (fun z38 σ39 hz38 => ?_)
          obtain ⟨r41, rfl, hr41, rfl, q40_0⟩ := hz38
          replace q40_0 : (r41 = 1 ∧ τ s 1 = 1 ∧ 0 ≤ z37 ∧ z37 < τ s 3 ∧ z37 < 40) ∨ (r41 = 0 ∧ ¬ (τ s 1 = 1 ∧ 0 ≤ z37 ∧ z37 < τ s 3)) := q40_0
          refine j_st (st' := [vI r41]) rfl ?_
          refine j_ifR_ne (pc := 129) (tgt := 138) ⟨by omega, by omega⟩ dX11_read_129 rfl (fun h42 => ?_) (fun h42 => ?_)
          · refine j_aload_n (pc := 138) dX11_read_138 rfl rfl ?_
            refine j_getR (pc := 139) (r := 23) fl_X11_26 dX11_read_139 (a_0 hX) rfl ?_
            refine j_aload_n (pc := 142) dX11_read_142 rfl rfl ?_
            refine j_getR (pc := 143) (r := 1) fl_X11_10 dX11_read_143 (a_0 hX) rfl ?_
            refine j_aload (pc := 146) dX11_read_146 rfl ?_
            refine j_getR (pc := 148) (r := s + 1) fl_X11_419 dX11_read_148 hs.1.1 rfl ?_
            refine j_iload (pc := 151) dX11_read_151 rfl ?_
            have eh9 : τ (s + 1) (z31).toNat = CC (s + 1) σ (f + 2 * ((c.toNat : Nat) : Int)) := by rw [CC_at ⟨by omega, by omega⟩, show (f + 2 * ((c.toNat : Nat) : Int)).toNat = (z31).toNat from by omega]; exact hFτ (s + 1) _ (show ¬ ((23 ≤ s + 1 ∧ s + 1 < 31) ∨ (47 ≤ s + 1 ∧ s + 1 < 55) ∨ (s + 1 = 0 ∧ ((z31).toNat = 14))) from by omega)
            refine j_iald (pc := 153) dX11_read_153 hs.1.2 (by omega) (by omega) (by decide) ?_
            have f43 : (-2147483648 : Int) ≤ τ (s + 1) (z31.toNat) ∧ τ (s + 1) (z31.toNat) ≤ 2147483647 := tw_Ig hs.2.2 hIτ (z31.toNat)
            refine j_aload (pc := 154) dX11_read_154 rfl ?_
            refine j_getR (pc := 156) (r := s + 1) fl_X11_419 dX11_read_156 hs.1.1 rfl ?_
            refine j_iload (pc := 159) dX11_read_159 rfl ?_
            refine j_iconst (pc := 161) dX11_read_161 ?_
            refine j_iadd (pc := 162) dX11_read_162 ?_
            refine j_top (fun z44 ez44 hz44 => ?_)
            have gz44 : z31 + 1 < -2147483648 ∨ 2147483647 < z31 + 1 ∨ z44 = z31 + 1 := by rw [ez44]; exact w32_or _
            have es9 : τ (s + 1) (z44).toNat = CC (s + 1) σ (f + 2 * ((c.toNat : Nat) : Int) + 1) := by rw [CC_at ⟨by omega, by omega⟩, show (f + 2 * ((c.toNat : Nat) : Int) + 1).toNat = (z44).toNat from by omega]; exact hFτ (s + 1) _ (show ¬ ((23 ≤ s + 1 ∧ s + 1 < 31) ∨ (47 ≤ s + 1 ∧ s + 1 < 55) ∨ (s + 1 = 0 ∧ ((z44).toNat = 14))) from by omega)
            refine j_iald (pc := 163) dX11_read_163 hs.1.2 (by omega) (by omega) (by decide) ?_
            have f45 : (-2147483648 : Int) ≤ τ (s + 1) (z44.toNat) ∧ τ (s + 1) (z44.toNat) ≤ 2147483647 := tw_Ig hs.2.2 hIτ (z44.toNat)
            refine j_callV (pc := 164) (As := [vR 1, vI (τ (s + 1) (z31.toNat)), vI (τ (s + 1) (z44.toNat))]) (st := []) (c_X3_place 23 (s_Hand_23 hX) 1 (s_Wall_1 hX) (τ (s + 1) (z31.toNat)) ⟨by omega, by omega⟩ (τ (s + 1) (z44.toNat)) ⟨by omega, by omega⟩ τ hIτ (by omega)) mv_X11_178 rfl rfl rfl (a_23 hX) dX11_read_164 ⟨Nat.le_of_ble_eq_true rfl, Nat.le_of_ble_eq_true rfl⟩ ⟨Nat.le_refl _, Nat.le_refl _⟩ rfl (Nat.le_of_ble_eq_true rfl) rfl (fun z46 σ47 hz46 => ?_)
            obtain ⟨r49, rfl, hr49, hIσ47, hGσ47, q48_0⟩ := hz46
            replace q48_0 : ∀ gg qq : Nat → Int, RG 24 gg qq τ → (1 ≤ (τ (s + 1) (z44.toNat)) → (τ (s + 1) (z44.toNat)) ≤ 10 → 0 ≤ τ 28 (τ (s + 1) (z44.toNat)).toNat) → (¬ whyS (wW 1 τ) (gg (τ (s + 1) (z31.toNat)).toNat) (τ 24 0) (τ 28 (τ (s + 1) (z44.toNat)).toNat) (τ (s + 1) (z31.toNat)) (τ (s + 1) (z44.toNat)) = 0 ∧ r49 = whyS (wW 1 τ) (gg (τ (s + 1) (z31.toNat)).toNat) (τ 24 0) (τ 28 (τ (s + 1) (z44.toNat)).toNat) (τ (s + 1) (z31.toNat)) (τ (s + 1) (z44.toNat)) ∧ ∀ c j, σ47 c j = τ c j) ∨ (whyS (wW 1 τ) (gg (τ (s + 1) (z31.toNat)).toNat) (τ 24 0) (τ 28 (τ (s + 1) (z44.toNat)).toNat) (τ (s + 1) (z31.toNat)) (τ (s + 1) (z44.toNat)) = 0 ∧ r49 = cnt gg (τ (s + 1) (z31.toNat)).toNat ∧ RG 24 (pg gg (τ (s + 1) (z31.toNat)).toNat (τ (s + 1) (z44.toNat))) (pg qq (τ (s + 1) (z31.toNat)).toNat 0) σ47 ∧ σ47 28 (τ (s + 1) (z44.toNat)).toNat = τ 28 (τ (s + 1) (z44.toNat)).toNat - 1 ∧ ∀ j : Nat, ¬ j = (τ (s + 1) (z44.toNat)).toNat → σ47 28 j = τ 28 j) := q48_0
            have hFσ47 : tw_F (fun c j => (23 ≤ c ∧ c < 31) ∨ (47 ≤ c ∧ c < 55) ∨ (c = 0 ∧ (j = 14))) σ σ47 := tw_F_tr hFτ hGσ47 (fun c j q => (show (23 ≤ c ∧ c < 31) ∨ (47 ≤ c ∧ c < 55) ∨ (c = 0 ∧ (j = 14)) from by replace q : (24 ≤ c ∧ c < 29) := q; exact (Or.inl ⟨Nat.le_trans (by decide) q.1, Nat.lt_of_lt_of_le q.2 (by decide)⟩)))
            refine j_st (st' := [vI r49]) rfl ?_
            refine j_ifR_ge (pc := 167) (tgt := 187) ⟨by omega, by omega⟩ dX11_read_167 rfl (fun h50 => ?_) (fun h50 => ?_)
            · refine j_iinc (pc := 187) (i := 7) (n := 1) (ls' := [(0, vR 0), (3, vI f), (4, vI n), (5, vR s), (6, vI m), (7, vI (c + 1)), (8, vI i)]) [1, 2, 3, 4, 5, 0, 6] dX11_read_187 rfl (Nat.le_of_ble_eq_true rfl) rfl rfl ?_
              refine j_iinc (pc := 190) (i := 8) (n := 1) (ls' := [(0, vR 0), (3, vI f), (4, vI n), (5, vR s), (6, vI m), (7, vI (c + 1)), (8, vI (i + 1))]) [1, 2, 3, 4, 5, 6, 0] dX11_read_190 rfl (Nat.le_of_ble_eq_true rfl) rfl rfl ?_
              refine j_goto (pc := 193) (tgt := 90) dX11_read_193 rfl ?_
              refine j_ls (ls' := [(0, vR 0), (3, vI f), (4, vI n), (5, vR s), (6, vI m), (7, vI (c + 1)), (8, vI (i + 1))]) [0, 1, 2, 3, 4, 5, 6] rfl ?_
              have y51 : σ47 29 0 = τ 29 0 := (hGσ47 29 0 (show ¬ ((24 ≤ 29 ∧ 29 < 29)) from by decide))
              have f52 : (0 : Int) ≤ τ 29 0 ∧ τ 29 0 ≤ 999 := hIτ 29 0
              have y53 : σ47 30 0 = τ 30 0 := (hGσ47 30 0 (show ¬ ((24 ≤ 30 ∧ 30 < 29)) from by decide))
              have f54 : (-2147483648 : Int) ≤ τ 30 0 ∧ τ 30 0 ≤ 2147483647 := hIτ 30 0
              have y55 : σ47 29 1 = τ 29 1 := (hGσ47 29 1 (show ¬ ((24 ≤ 29 ∧ 29 < 29)) from by decide))
              have f56 : (0 : Int) ≤ τ 29 1 ∧ τ 29 1 ≤ 999 := hIτ 29 1
              have y57 : σ47 30 1 = τ 30 1 := (hGσ47 30 1 (show ¬ ((24 ≤ 30 ∧ 30 < 29)) from by decide))
              have f58 : (-2147483648 : Int) ≤ τ 30 1 ∧ τ 30 1 ≤ 2147483647 := hIτ 30 1
              have y59 : σ47 53 0 = τ 53 0 := (hGσ47 53 0 (show ¬ ((24 ≤ 53 ∧ 53 < 29)) from by decide))
              have f60 : (0 : Int) ≤ τ 53 0 ∧ τ 53 0 ≤ 999 := hIτ 53 0
              have y61 : σ47 54 0 = τ 54 0 := (hGσ47 54 0 (show ¬ ((24 ≤ 54 ∧ 54 < 29)) from by decide))
              have f62 : (-2147483648 : Int) ≤ τ 54 0 ∧ τ 54 0 ≤ 2147483647 := hIτ 54 0
              have y63 : σ47 53 1 = τ 53 1 := (hGσ47 53 1 (show ¬ ((24 ≤ 53 ∧ 53 < 29)) from by decide))
              have f64 : (0 : Int) ≤ τ 53 1 ∧ τ 53 1 ≤ 999 := hIτ 53 1
              have y65 : σ47 54 1 = τ 54 1 := (hGσ47 54 1 (show ¬ ((24 ≤ 54 ∧ 54 < 29)) from by decide))
              have f66 : (-2147483648 : Int) ≤ τ 54 1 ∧ τ 54 1 ≤ 2147483647 := hIτ 54 1
              have y67 : σ47 0 14 = τ 0 14 := (hGσ47 0 14 (show ¬ ((24 ≤ 0 ∧ 0 < 29)) from by decide))
              have f68 : (-2147483648 : Int) ≤ τ 0 14 ∧ τ 0 14 ≤ 2147483647 := hIτ 0 14
              have y69 : σ47 23 4 = τ 23 4 := (hGσ47 23 4 (show ¬ ((24 ≤ 23 ∧ 23 < 29)) from by decide))
              have f70 : (-2147483648 : Int) ≤ τ 23 4 ∧ τ 23 4 ≤ 2147483647 := hIτ 23 4
              have y71 : σ47 23 5 = τ 23 5 := (hGσ47 23 5 (show ¬ ((24 ≤ 23 ∧ 23 < 29)) from by decide))
              have f72 : (-2147483648 : Int) ≤ τ 23 5 ∧ τ 23 5 ≤ 2147483647 := hIτ 23 5
              exact ih s hs m ⟨by omega, by omega⟩ (c + 1) ⟨by omega, by omega⟩ (i + 1) ⟨by omega, by omega⟩ σ47 hIσ47 hFσ47 (show (c + 1) ≤ (i + 1) from by omega) (show n ≤ 10 from by omega) (show 0 ≤ n from by omega) (show σ47 29 0 = σ 29 0 from by omega) (show σ47 30 0 = σ 30 0 from by omega) (show σ47 29 1 = σ 29 1 from by omega) (show σ47 30 1 = σ 30 1 from by omega) (show σ47 53 0 = σ 29 0 from by omega) (show σ47 54 0 = σ 30 0 from by omega) (show σ47 53 1 = σ 29 1 from by omega) (show σ47 54 1 = σ 30 1 from by omega) (show (s : Int) = 80 + 2 * k from by omega) (show CPY 47 23 σ σ47 from (CPY_F i12 (fun c j a b => ((hGσ47 c j (show ¬ ((24 ≤ c ∧ c < 29)) from by omega)))))) (show σ47 0 14 = σ 0 14 from by omega) (show (m = 0 ∧ (c + 1) = (i + 1)) ∨ (m = 2 ∧ (c + 1) + 1 = (i + 1) ∧ ¬ (0 ≤ f + 2 * (c + 1) ∧ f + 2 * (c + 1) + 1 < σ s 3)) ∨ (m = 1 ∧ (c + 1) = 0 ∧ (i + 1) = 0 ∧ 0 < n ∧ σ s 1 = 0) ∨ (m = 3 ∧ (c + 1) = 0 ∧ (i + 1) = 0 ∧ 0 < n ∧ ¬ σ s 1 = 0 ∧ ¬ σ s 2 = l) from (by first | exact Or.inl ⟨rfl, by omega⟩ | exact Or.inr (Or.inl ⟨rfl, by omega, by omega⟩) | exact Or.inr (Or.inr (Or.inl ⟨rfl, by omega, by omega, by omega, by omega⟩)) | exact Or.inr (Or.inr (Or.inr ⟨rfl, by omega, by omega, by omega, by omega, by omega⟩)) | omega)) (show m = 1 ∨ m = 3 ∨ n = 0 ∨ (¬ σ s 1 = 0 ∧ σ s 2 = l) from (by first | exact Or.inl rfl | exact Or.inr (Or.inl rfl) | exact Or.inr (Or.inr (Or.inl (by omega))) | exact Or.inr (Or.inr (Or.inr ⟨by omega, by omega⟩)) | omega)) (show (c + 1) ≤ n from by omega) (show (i + 1) ≤ n from by omega) (show 0 ≤ k ∧ k ≤ 3 ∧ 0 ≤ l ∧ l ≤ 2 from by omega) (show σ47 23 4 = σ 23 4 from by omega) (show σ47 23 5 = σ 23 5 from by omega) (show ∀ gg qq rk : Nat → Int, RG 24 gg qq σ → CNR rk gg 28 σ → RDX rk (CC (s + 1) σ) f gg qq (c + 1).toNat σ47 ∧ ∀ x : Nat, (x : Int) < (c + 1) → rdF (σ s 3) f x ∧ rdO (wW 1 σ) rk (CC (s + 1) σ) f gg x = 0 from (fun gg qq rk H C => by
                                                              obtain ⟨a, b⟩ := i21 gg qq rk H C
                                                              first
                                                              | exact ⟨a, b⟩
                                                              | (have y := q48_0 _ _ a.1 (fun s1 s2 => (a.2 _ s1 s2).2.1); rw [W1] at y; rcases RDX_s a eh9 es9 w1h y with ⟨z1, z2⟩ | ⟨z1, z2, z3⟩; (exfalso; omega); exact ⟨by rw [show (c + 1).toNat = c.toNat + 1 from by omega]; exact z3, fun x hx => by by_cases q : (x : Int) = c; (rw [show x = c.toNat from by omega]; exact ⟨⟨by omega, by omega⟩, z2⟩); exact b x (by omega)⟩))) (show (10 - (i + 1)).toNat < N_ from by omega)
            · have ci9 : CPY 47 23 σ σ47 := CPY_F i12 (fun c j a b => ((hGσ47 c j (show ¬ ((24 ≤ c ∧ c < 29)) from by omega))))
              refine j_aload_n (pc := 170) dX11_read_170 rfl rfl ?_
              refine j_getR (pc := 171) (r := 23) fl_X11_26 dX11_read_171 (a_0 hX) rfl ?_
              refine j_aload_n (pc := 174) dX11_read_174 rfl rfl ?_
              refine j_getR (pc := 175) (r := 47) fl_X11_36 dX11_read_175 (a_0 hX) rfl ?_
              refine j_callV (pc := 178) (As := [vR 47]) (st := []) (c_X3_copyOf 23 (s_Hand_23 hX) 47 (s_Hand_47 hX) σ47 hIσ47 (by omega)) mv_X11_398 rfl rfl rfl (a_23 hX) dX11_read_178 ⟨Nat.le_of_ble_eq_true rfl, Nat.le_of_ble_eq_true rfl⟩ ⟨Nat.le_refl _, Nat.le_refl _⟩ rfl (Nat.le_of_ble_eq_true rfl) rfl (fun z73 σ74 hz73 => ?_)
              obtain ⟨rfl, hIσ74, hGσ74, q75_0, q75_1, q75_2, q75_3, q75_4⟩ := hz73
              replace q75_0 : σ74 29 0 = σ47 53 0 := q75_0
              have y77 : σ47 53 0 = τ 53 0 := (hGσ47 53 0 (show ¬ ((24 ≤ 53 ∧ 53 < 29)) from by decide))
              have f78 : (0 : Int) ≤ τ 53 0 ∧ τ 53 0 ≤ 999 := hIτ 53 0
              replace q75_1 : σ74 30 0 = σ47 54 0 := q75_1
              have y79 : σ47 54 0 = τ 54 0 := (hGσ47 54 0 (show ¬ ((24 ≤ 54 ∧ 54 < 29)) from by decide))
              have f80 : (-2147483648 : Int) ≤ τ 54 0 ∧ τ 54 0 ≤ 2147483647 := hIτ 54 0
              replace q75_2 : σ74 29 1 = σ47 53 1 := q75_2
              have y81 : σ47 53 1 = τ 53 1 := (hGσ47 53 1 (show ¬ ((24 ≤ 53 ∧ 53 < 29)) from by decide))
              have f82 : (0 : Int) ≤ τ 53 1 ∧ τ 53 1 ≤ 999 := hIτ 53 1
              replace q75_3 : σ74 30 1 = σ47 54 1 := q75_3
              have y83 : σ47 54 1 = τ 54 1 := (hGσ47 54 1 (show ¬ ((24 ≤ 54 ∧ 54 < 29)) from by decide))
              have f84 : (-2147483648 : Int) ≤ τ 54 1 ∧ τ 54 1 ≤ 2147483647 := hIτ 54 1
              replace q75_4 : CPY 23 47 σ47 σ74 := q75_4
              have hFσ74 : tw_F (fun c j => (23 ≤ c ∧ c < 31) ∨ (47 ≤ c ∧ c < 55) ∨ (c = 0 ∧ (j = 14))) σ σ74 := tw_F_tr hFσ47 hGσ74 (fun c j q => (show (23 ≤ c ∧ c < 31) ∨ (47 ≤ c ∧ c < 55) ∨ (c = 0 ∧ (j = 14)) from by replace q : (23 ≤ c ∧ c < 31) := q; exact (Or.inl q)))
              refine j_st (st' := []) rfl ?_
              have cb9 : CPY 23 23 σ σ74 := CPY_t ci9 q75_4
              refine j_bipush (pc := 181) dX11_read_181 rfl ?_
              refine j_iload (pc := 183) dX11_read_183 rfl ?_
              refine j_isub (pc := 185) dX11_read_185 ?_
              have fin : ∀ gg qq rk : Nat → Int, RG 24 gg qq σ → CNR rk gg 28 σ → (((-20) - i) = -1 ∧ ¬ (0 ≤ k ∧ k ≤ 3 ∧ 0 ≤ l ∧ l ≤ 2 ∧ 0 ≤ n ∧ n ≤ 10) ∧ ∀ c j, σ74 c j = σ c j) ∨ ((0 ≤ k ∧ k ≤ 3 ∧ 0 ≤ l ∧ l ≤ 2 ∧ 0 ≤ n ∧ n ≤ 10) ∧ ∃ cz : Int, ((cz = 0 ∧ 0 < n ∧ ((-20) - i) = 0 ∧ σ74 0 14 = 1 ∧ σ (80 + 2 * k.toNat) 1 = 0) ∨ (cz = 0 ∧ 0 < n ∧ ((-20) - i) = 0 ∧ σ74 0 14 = 3 ∧ ¬ σ (80 + 2 * k.toNat) 1 = 0 ∧ ¬ σ (80 + 2 * k.toNat) 2 = l) ∨ ((n = 0 ∨ (¬ σ (80 + 2 * k.toNat) 1 = 0 ∧ σ (80 + 2 * k.toNat) 2 = l)) ∧ RDE (rdF (σ (80 + 2 * k.toNat) 3) f) (fun x => rdO (wW 1 σ) rk (CC (81 + 2 * k.toNat) σ) f gg x = 0) n cz ((-20) - i) (σ74 0 14))) ∧ ((0 ≤ ((-20) - i) ∧ RDX rk (CC (81 + 2 * k.toNat) σ) f gg qq cz.toNat σ74) ∨ (((-20) - i) < 0 ∧ RDX rk (CC (81 + 2 * k.toNat) σ) f gg qq 0 σ74 ∧ σ74 0 14 = σ 0 14))) := fun gg qq rk H C => by
                obtain ⟨a, b⟩ := i21 gg qq rk H C
                have y := q48_0 _ _ a.1 (fun s1 s2 => (a.2 _ s1 s2).2.1)
                rw [W1] at y
                rw [show 80 + 2 * k.toNat = s from by omega, show 81 + 2 * k.toNat = s + 1 from by omega]
                rcases RDX_s a eh9 es9 w1h y with ⟨z1, z2⟩ | ⟨z1, z2, z3⟩
                · exact Or.inr ⟨by omega, c, Or.inr (Or.inr ⟨by omega, ⟨by omega, by omega⟩, b, Or.inr (Or.inr ⟨by omega, ⟨by omega, by omega⟩, z2, by omega⟩)⟩), Or.inr ⟨by omega, RDX_0 H C cb9, ((((hGσ74 0 14 (show ¬ ((23 ≤ 0 ∧ 0 < 31)) from by decide))).trans (hGσ47 0 14 (show ¬ ((24 ≤ 0 ∧ 0 < 29)) from by decide)))).trans i13⟩⟩
                · exfalso; omega
              have y85 : σ74 0 14 = τ 0 14 := ((hGσ74 0 14 (show ¬ ((23 ≤ 0 ∧ 0 < 31)) from by decide))).trans (hGσ47 0 14 (show ¬ ((24 ≤ 0 ∧ 0 < 29)) from by decide))
              have f86 : (-2147483648 : Int) ≤ τ 0 14 ∧ τ 0 14 ≤ 2147483647 := hIτ 0 14
              exact j_iret (pc := 186) ⟨rfl, rfl⟩ dX11_read_186 rfl ⟨_, rfl, ⟨by omega, by omega⟩, hIσ74, hFσ74, by omega, by omega, by omega, by omega, fin, (by first | rfl | exact (rfl).trans i19 | exact cb9.2.2.2.1), (by first | rfl | exact (rfl).trans i20 | exact cb9.2.2.2.2)⟩
          · refine j_iconst (pc := 132) dX11_read_132 ?_
            refine j_istore (pc := 133) (i := 6) (ls' := [(0, vR 0), (3, vI f), (4, vI n), (5, vR s), (6, vI 2), (7, vI c), (8, vI i)]) [1, 2, 3, 4, 0, 5, 6] dX11_read_133 (Nat.le_of_ble_eq_true rfl) rfl rfl ?_
            refine j_goto (pc := 135) (tgt := 190) dX11_read_135 rfl ?_
            refine j_iinc (pc := 190) (i := 8) (n := 1) (ls' := [(0, vR 0), (3, vI f), (4, vI n), (5, vR s), (6, vI 2), (7, vI c), (8, vI (i + 1))]) [1, 2, 3, 4, 5, 6, 0] dX11_read_190 rfl (Nat.le_of_ble_eq_true rfl) rfl rfl ?_
            refine j_goto (pc := 193) (tgt := 90) dX11_read_193 rfl ?_
            refine j_ls (ls' := [(0, vR 0), (3, vI f), (4, vI n), (5, vR s), (6, vI 2), (7, vI c), (8, vI (i + 1))]) [0, 1, 2, 3, 4, 5, 6] rfl ?_
            exact ih s hs 2 (by (first | decide | exact ⟨by omega, by omega⟩)) c ⟨by omega, by omega⟩ (i + 1) ⟨by omega, by omega⟩ τ hIτ hFτ (show c ≤ (i + 1) from by omega) (show n ≤ 10 from by omega) (show 0 ≤ n from by omega) (show τ 29 0 = σ 29 0 from by omega) (show τ 30 0 = σ 30 0 from by omega) (show τ 29 1 = σ 29 1 from by omega) (show τ 30 1 = σ 30 1 from by omega) (show τ 53 0 = σ 29 0 from by omega) (show τ 54 0 = σ 30 0 from by omega) (show τ 53 1 = σ 29 1 from by omega) (show τ 54 1 = σ 30 1 from by omega) (show (s : Int) = 80 + 2 * k from by omega) (show CPY 47 23 σ τ from (CPY_F i12 (fun c j a b => (rfl)))) (show τ 0 14 = σ 0 14 from by omega) (show ((2 : Int) = 0 ∧ c = (i + 1)) ∨ ((2 : Int) = 2 ∧ c + 1 = (i + 1) ∧ ¬ (0 ≤ f + 2 * c ∧ f + 2 * c + 1 < σ s 3)) ∨ ((2 : Int) = 1 ∧ c = 0 ∧ (i + 1) = 0 ∧ 0 < n ∧ σ s 1 = 0) ∨ ((2 : Int) = 3 ∧ c = 0 ∧ (i + 1) = 0 ∧ 0 < n ∧ ¬ σ s 1 = 0 ∧ ¬ σ s 2 = l) from (by first | exact Or.inl ⟨rfl, by omega⟩ | exact Or.inr (Or.inl ⟨rfl, by omega, by omega⟩) | exact Or.inr (Or.inr (Or.inl ⟨rfl, by omega, by omega, by omega, by omega⟩)) | exact Or.inr (Or.inr (Or.inr ⟨rfl, by omega, by omega, by omega, by omega, by omega⟩)) | omega)) (show (2 : Int) = 1 ∨ (2 : Int) = 3 ∨ n = 0 ∨ (¬ σ s 1 = 0 ∧ σ s 2 = l) from (by first | exact Or.inl rfl | exact Or.inr (Or.inl rfl) | exact Or.inr (Or.inr (Or.inl (by omega))) | exact Or.inr (Or.inr (Or.inr ⟨by omega, by omega⟩)) | omega)) (show c ≤ n from by omega) (show (i + 1) ≤ n from by omega) (show 0 ≤ k ∧ k ≤ 3 ∧ 0 ≤ l ∧ l ≤ 2 from by omega) (show τ 23 4 = σ 23 4 from by omega) (show τ 23 5 = σ 23 5 from by omega) (show ∀ gg qq rk : Nat → Int, RG 24 gg qq σ → CNR rk gg 28 σ → RDX rk (CC (s + 1) σ) f gg qq c.toNat τ ∧ ∀ x : Nat, (x : Int) < c → rdF (σ s 3) f x ∧ rdO (wW 1 σ) rk (CC (s + 1) σ) f gg x = 0 from (fun gg qq rk H C => by
                                                              obtain ⟨a, b⟩ := i21 gg qq rk H C
                                                              first
                                                              | exact ⟨a, b⟩
                                                              | (have y := q40_0 _ _ a.1 (fun s1 s2 => (a.2 _ s1 s2).2.1); rw [W1] at y; rcases RDX_s a eh9 es9 w1h y with ⟨z1, z2⟩ | ⟨z1, z2, z3⟩; (exfalso; omega); exact ⟨by rw [show (c + 1).toNat = c.toNat + 1 from by omega]; exact z3, fun x hx => by by_cases q : (x : Int) = c; (rw [show x = c.toNat from by omega]; exact ⟨⟨by omega, by omega⟩, z2⟩); exact b x (by omega)⟩))) (show (10 - (i + 1)).toNat < N_ from by omega)
set_option maxHeartbeats 4000000 in
set_option maxRecDepth 100000 in
theorem c_X11_read {G : tw_G} (hX : tw_isX G) (k : Int) (hk : -2147483648 ≤ k ∧ k ≤ 2147483647) (l : Int) (hl : -2147483648 ≤ l ∧ l ≤ 2147483647) (f : Int) (hf : -2147483648 ≤ f ∧ f ≤ 2147483647) (n : Int) (hn : -2147483648 ≤ n ∧ n ≤ 2147483647) (σ : tw_M) (hI : tw_I σ) : tw_C G yX11_read cX11_read 10 (some .int) 2 [vR 0, vI k, vI l, vI f, vI n] σ (q_X11_read k l f n σ) := by
  refine tw_met [(0, vR 0), (1, vI k), (2, vI l), (3, vI f), (4, vI n)] (by decide +kernel) rfl (Nat.le_of_ble_eq_true rfl) ?_
  refine j_aload_n (pc := 0) dX11_read_0 rfl rfl ?_
  refine j_iload_n (pc := 1) dX11_read_1 rfl rfl ?_
  refine j_callV (pc := 2) (As := [vI k]) (st := []) (c_X11_isSheet hX k ⟨by omega, by omega⟩ σ hI) mv_X11_401 rfl rfl rfl (a_0 hX) dX11_read_2 ⟨Nat.le_of_ble_eq_true rfl, Nat.le_of_ble_eq_true rfl⟩ ⟨Nat.le_refl _, Nat.le_refl _⟩ rfl (Nat.le_of_ble_eq_true rfl) rfl (fun z87 σ88 hz87 => ?_)
  obtain ⟨r90, rfl, hr90, rfl, q89_0⟩ := hz87
  replace q89_0 : (r90 = 1 ∧ 0 ≤ k ∧ k < 4) ∨ (r90 = 0 ∧ ¬ (0 ≤ k ∧ k < 4)) := q89_0
  refine j_st (st' := [vI r90]) rfl ?_
  refine j_ifR_eq (pc := 5) (tgt := 27) ⟨by omega, by omega⟩ dX11_read_5 rfl (fun h91 => ?_) (fun h91 => ?_)
  · refine j_iconst (pc := 27) dX11_read_27 ?_
    have fin : ∀ gg qq rk : Nat → Int, RG 24 gg qq σ → CNR rk gg 28 σ → ((-1) = -1 ∧ ¬ (0 ≤ k ∧ k ≤ 3 ∧ 0 ≤ l ∧ l ≤ 2 ∧ 0 ≤ n ∧ n ≤ 10) ∧ ∀ c j, σ c j = σ c j) ∨ ((0 ≤ k ∧ k ≤ 3 ∧ 0 ≤ l ∧ l ≤ 2 ∧ 0 ≤ n ∧ n ≤ 10) ∧ ∃ cz : Int, ((cz = 0 ∧ 0 < n ∧ (-1) = 0 ∧ σ 0 14 = 1 ∧ σ (80 + 2 * k.toNat) 1 = 0) ∨ (cz = 0 ∧ 0 < n ∧ (-1) = 0 ∧ σ 0 14 = 3 ∧ ¬ σ (80 + 2 * k.toNat) 1 = 0 ∧ ¬ σ (80 + 2 * k.toNat) 2 = l) ∨ ((n = 0 ∨ (¬ σ (80 + 2 * k.toNat) 1 = 0 ∧ σ (80 + 2 * k.toNat) 2 = l)) ∧ RDE (rdF (σ (80 + 2 * k.toNat) 3) f) (fun x => rdO (wW 1 σ) rk (CC (81 + 2 * k.toNat) σ) f gg x = 0) n cz (-1) (σ 0 14))) ∧ ((0 ≤ (-1) ∧ RDX rk (CC (81 + 2 * k.toNat) σ) f gg qq cz.toNat σ) ∨ ((-1) < 0 ∧ RDX rk (CC (81 + 2 * k.toNat) σ) f gg qq 0 σ ∧ σ 0 14 = σ 0 14))) := fun gg qq rk H C => Or.inl ⟨rfl, by omega, fun c j => rfl⟩
    exact j_iret (pc := 28) ⟨rfl, rfl⟩ dX11_read_28 rfl ⟨_, rfl, ⟨by omega, by omega⟩, hI, (tw_F_rf), by omega, by omega, by omega, by omega, fin, (by first | rfl | exact (rfl).trans i19 | exact cb9.2.2.2.1), (by first | rfl | exact (rfl).trans i20 | exact cb9.2.2.2.2)⟩
  · refine j_iload_n (pc := 8) dX11_read_8 rfl rfl ?_
    refine j_callS (pc := 9) (As := [vI l]) (st := []) (c_X11_isLane l ⟨by omega, by omega⟩ σ hI) ms_X11_404 rfl dX11_read_9 ⟨Nat.le_of_ble_eq_true rfl, Nat.le_of_ble_eq_true rfl⟩ ⟨Nat.le_refl _, Nat.le_refl _⟩ rfl (Nat.le_of_ble_eq_true rfl) rfl (fun z92 σ93 hz92 => ?_)
    obtain ⟨r95, rfl, hr95, rfl, q94_0⟩ := hz92
    replace q94_0 : (r95 = 1 ∧ 0 ≤ l ∧ l ≤ 2) ∨ (r95 = 0 ∧ ¬ (0 ≤ l ∧ l ≤ 2)) := q94_0
    refine j_st (st' := [vI r95]) rfl ?_
    refine j_ifR_eq (pc := 12) (tgt := 27) ⟨by omega, by omega⟩ dX11_read_12 rfl (fun h96 => ?_) (fun h96 => ?_)
    · refine j_iconst (pc := 27) dX11_read_27 ?_
      have fin : ∀ gg qq rk : Nat → Int, RG 24 gg qq σ → CNR rk gg 28 σ → ((-1) = -1 ∧ ¬ (0 ≤ k ∧ k ≤ 3 ∧ 0 ≤ l ∧ l ≤ 2 ∧ 0 ≤ n ∧ n ≤ 10) ∧ ∀ c j, σ c j = σ c j) ∨ ((0 ≤ k ∧ k ≤ 3 ∧ 0 ≤ l ∧ l ≤ 2 ∧ 0 ≤ n ∧ n ≤ 10) ∧ ∃ cz : Int, ((cz = 0 ∧ 0 < n ∧ (-1) = 0 ∧ σ 0 14 = 1 ∧ σ (80 + 2 * k.toNat) 1 = 0) ∨ (cz = 0 ∧ 0 < n ∧ (-1) = 0 ∧ σ 0 14 = 3 ∧ ¬ σ (80 + 2 * k.toNat) 1 = 0 ∧ ¬ σ (80 + 2 * k.toNat) 2 = l) ∨ ((n = 0 ∨ (¬ σ (80 + 2 * k.toNat) 1 = 0 ∧ σ (80 + 2 * k.toNat) 2 = l)) ∧ RDE (rdF (σ (80 + 2 * k.toNat) 3) f) (fun x => rdO (wW 1 σ) rk (CC (81 + 2 * k.toNat) σ) f gg x = 0) n cz (-1) (σ 0 14))) ∧ ((0 ≤ (-1) ∧ RDX rk (CC (81 + 2 * k.toNat) σ) f gg qq cz.toNat σ) ∨ ((-1) < 0 ∧ RDX rk (CC (81 + 2 * k.toNat) σ) f gg qq 0 σ ∧ σ 0 14 = σ 0 14))) := fun gg qq rk H C => Or.inl ⟨rfl, by omega, fun c j => rfl⟩
      exact j_iret (pc := 28) ⟨rfl, rfl⟩ dX11_read_28 rfl ⟨_, rfl, ⟨by omega, by omega⟩, hI, (tw_F_rf), by omega, by omega, by omega, by omega, fin, (by first | rfl | exact (rfl).trans i19 | exact cb9.2.2.2.1), (by first | rfl | exact (rfl).trans i20 | exact cb9.2.2.2.2)⟩
    · refine j_iload (pc := 15) dX11_read_15 rfl ?_
      refine j_ifR_lt (pc := 17) (tgt := 27) ⟨by omega, by omega⟩ dX11_read_17 rfl (fun h97 => ?_) (fun h97 => ?_)
      · refine j_iconst (pc := 27) dX11_read_27 ?_
        have fin : ∀ gg qq rk : Nat → Int, RG 24 gg qq σ → CNR rk gg 28 σ → ((-1) = -1 ∧ ¬ (0 ≤ k ∧ k ≤ 3 ∧ 0 ≤ l ∧ l ≤ 2 ∧ 0 ≤ n ∧ n ≤ 10) ∧ ∀ c j, σ c j = σ c j) ∨ ((0 ≤ k ∧ k ≤ 3 ∧ 0 ≤ l ∧ l ≤ 2 ∧ 0 ≤ n ∧ n ≤ 10) ∧ ∃ cz : Int, ((cz = 0 ∧ 0 < n ∧ (-1) = 0 ∧ σ 0 14 = 1 ∧ σ (80 + 2 * k.toNat) 1 = 0) ∨ (cz = 0 ∧ 0 < n ∧ (-1) = 0 ∧ σ 0 14 = 3 ∧ ¬ σ (80 + 2 * k.toNat) 1 = 0 ∧ ¬ σ (80 + 2 * k.toNat) 2 = l) ∨ ((n = 0 ∨ (¬ σ (80 + 2 * k.toNat) 1 = 0 ∧ σ (80 + 2 * k.toNat) 2 = l)) ∧ RDE (rdF (σ (80 + 2 * k.toNat) 3) f) (fun x => rdO (wW 1 σ) rk (CC (81 + 2 * k.toNat) σ) f gg x = 0) n cz (-1) (σ 0 14))) ∧ ((0 ≤ (-1) ∧ RDX rk (CC (81 + 2 * k.toNat) σ) f gg qq cz.toNat σ) ∨ ((-1) < 0 ∧ RDX rk (CC (81 + 2 * k.toNat) σ) f gg qq 0 σ ∧ σ 0 14 = σ 0 14))) := fun gg qq rk H C => Or.inl ⟨rfl, by omega, fun c j => rfl⟩
        exact j_iret (pc := 28) ⟨rfl, rfl⟩ dX11_read_28 rfl ⟨_, rfl, ⟨by omega, by omega⟩, hI, (tw_F_rf), by omega, by omega, by omega, by omega, fin, (by first | rfl | exact (rfl).trans i19 | exact cb9.2.2.2.1), (by first | rfl | exact (rfl).trans i20 | exact cb9.2.2.2.2)⟩
      · refine j_iload (pc := 20) dX11_read_20 rfl ?_
        refine j_bipush (pc := 22) dX11_read_22 rfl ?_
        refine j_icmpR_le (pc := 24) (tgt := 29) ⟨by omega, by omega⟩ ⟨by omega, by omega⟩ dX11_read_24 rfl (fun h98 => ?_) (fun h98 => ?_)
        · refine j_aload_n (pc := 29) dX11_read_29 rfl rfl ?_
          refine j_getR (pc := 30) (r := 79) fl_X11_87 dX11_read_30 (a_0 hX) rfl ?_
          refine j_iload_n (pc := 33) dX11_read_33 rfl rfl ?_
          rcases (show k = 0 ∨ k = 1 ∨ k = 2 ∨ k = 3 from by omega) with h99 | h99 | h99 | h99
          · refine j_aald (pc := 34) (r := 80) dX11_read_34 (a_79 hX) (by omega) (by rw [h99]; decide) (by rw [h99]; rfl) (by decide) ?_
            refine j_astore (pc := 35) (i := 5) (ls' := [(0, vR 0), (2, vI l), (3, vI f), (4, vI n), (5, vR 80)]) [1, 3, 4, 5, 0] dX11_read_35 (Nat.le_of_ble_eq_true rfl) rfl rfl ?_
            refine j_iconst (pc := 37) dX11_read_37 ?_
            refine j_istore (pc := 38) (i := 6) (ls' := [(0, vR 0), (2, vI l), (3, vI f), (4, vI n), (5, vR 80), (6, vI 0)]) [1, 2, 3, 4, 5, 0] dX11_read_38 (Nat.le_of_ble_eq_true rfl) rfl rfl ?_
            refine j_iconst (pc := 40) dX11_read_40 ?_
            refine j_istore (pc := 41) (i := 7) (ls' := [(0, vR 0), (2, vI l), (3, vI f), (4, vI n), (5, vR 80), (6, vI 0), (7, vI 0)]) [1, 2, 3, 4, 5, 6, 0] dX11_read_41 (Nat.le_of_ble_eq_true rfl) rfl rfl ?_
            refine j_iload (pc := 43) dX11_read_43 rfl ?_
            refine j_ifR_le (pc := 45) (tgt := 76) ⟨by omega, by omega⟩ dX11_read_45 rfl (fun h100 => ?_) (fun h100 => ?_)
            · refine j_aload_n (pc := 76) dX11_read_76 rfl rfl ?_
              refine j_getR (pc := 77) (r := 47) fl_X11_36 dX11_read_77 (a_0 hX) rfl ?_
              refine j_aload_n (pc := 80) dX11_read_80 rfl rfl ?_
              refine j_getR (pc := 81) (r := 23) fl_X11_26 dX11_read_81 (a_0 hX) rfl ?_
              refine j_callV (pc := 84) (As := [vR 23]) (st := []) (c_X3_copyOf 47 (s_Hand_47 hX) 23 (s_Hand_23 hX) σ hI (by omega)) mv_X11_398 rfl rfl rfl (a_47 hX) dX11_read_84 ⟨Nat.le_of_ble_eq_true rfl, Nat.le_of_ble_eq_true rfl⟩ ⟨Nat.le_refl _, Nat.le_refl _⟩ rfl (Nat.le_of_ble_eq_true rfl) rfl (fun z101 σ102 hz101 => ?_)
              obtain ⟨rfl, hIσ102, hGσ102, q103_0, q103_1, q103_2, q103_3, q103_4⟩ := hz101
              replace q103_0 : σ102 53 0 = σ 29 0 := q103_0
              replace q103_1 : σ102 54 0 = σ 30 0 := q103_1
              replace q103_2 : σ102 53 1 = σ 29 1 := q103_2
              replace q103_3 : σ102 54 1 = σ 30 1 := q103_3
              replace q103_4 : CPY 47 23 σ σ102 := q103_4
              have hFσ102 : tw_F (fun c j => (23 ≤ c ∧ c < 31) ∨ (47 ≤ c ∧ c < 55) ∨ (c = 0 ∧ (j = 14))) σ σ102 := tw_F_tr (tw_F_rf) hGσ102 (fun c j q => (show (23 ≤ c ∧ c < 31) ∨ (47 ≤ c ∧ c < 55) ∨ (c = 0 ∧ (j = 14)) from by replace q : (47 ≤ c ∧ c < 55) := q; exact (Or.inr (Or.inl q))))
              refine j_st (st' := []) rfl ?_
              have cp9 := q103_4
              refine j_iconst (pc := 87) dX11_read_87 ?_
              refine j_istore (pc := 88) (i := 8) (ls' := [(0, vR 0), (3, vI f), (4, vI n), (5, vR 80), (6, vI 0), (7, vI 0), (8, vI 0)]) [1, 3, 4, 5, 6, 7, 0] dX11_read_88 (Nat.le_of_ble_eq_true rfl) rfl rfl ?_
              refine j_ls (ls' := [(0, vR 0), (3, vI f), (4, vI n), (5, vR 80), (6, vI 0), (7, vI 0), (8, vI 0)]) [0, 1, 2, 3, 4, 5, 6] rfl ?_
              have y105 : σ102 29 0 = σ 29 0 := (hGσ102 29 0 (show ¬ ((47 ≤ 29 ∧ 29 < 55)) from by decide))
              have f106 : (0 : Int) ≤ σ 29 0 ∧ σ 29 0 ≤ 999 := hI 29 0
              have y107 : σ102 30 0 = σ 30 0 := (hGσ102 30 0 (show ¬ ((47 ≤ 30 ∧ 30 < 55)) from by decide))
              have f108 : (-2147483648 : Int) ≤ σ 30 0 ∧ σ 30 0 ≤ 2147483647 := hI 30 0
              have y109 : σ102 29 1 = σ 29 1 := (hGσ102 29 1 (show ¬ ((47 ≤ 29 ∧ 29 < 55)) from by decide))
              have f110 : (0 : Int) ≤ σ 29 1 ∧ σ 29 1 ≤ 999 := hI 29 1
              have y111 : σ102 30 1 = σ 30 1 := (hGσ102 30 1 (show ¬ ((47 ≤ 30 ∧ 30 < 55)) from by decide))
              have f112 : (-2147483648 : Int) ≤ σ 30 1 ∧ σ 30 1 ≤ 2147483647 := hI 30 1
              have y113 : σ102 0 14 = σ 0 14 := (hGσ102 0 14 (show ¬ ((47 ≤ 0 ∧ 0 < 55)) from by decide))
              have f114 : (-2147483648 : Int) ≤ σ 0 14 ∧ σ 0 14 ≤ 2147483647 := hI 0 14
              have y115 : σ102 23 4 = σ 23 4 := (hGσ102 23 4 (show ¬ ((47 ≤ 23 ∧ 23 < 55)) from by decide))
              have f116 : (-2147483648 : Int) ≤ σ 23 4 ∧ σ 23 4 ≤ 2147483647 := hI 23 4
              have y117 : σ102 23 5 = σ 23 5 := (hGσ102 23 5 (show ¬ ((47 ≤ 23 ∧ 23 < 55)) from by decide))
              have f118 : (-2147483648 : Int) ≤ σ 23 5 ∧ σ 23 5 ≤ 2147483647 := hI 23 5
              exact (l_X11_read hX k hk l hl f hf n hn σ hI (((10 - (0 : Int)).toNat) + 1)) 80 (s_Sheet_80 hX) 0 (by (first | decide | exact ⟨by omega, by omega⟩)) 0 (by (first | decide | exact ⟨by omega, by omega⟩)) 0 (by (first | decide | exact ⟨by omega, by omega⟩)) σ102 hIσ102 hFσ102 (show (0 : Int) ≤ (0 : Int) from by omega) (show n ≤ 10 from by omega) (show 0 ≤ n from by omega) (show σ102 29 0 = σ 29 0 from by omega) (show σ102 30 0 = σ 30 0 from by omega) (show σ102 29 1 = σ 29 1 from by omega) (show σ102 30 1 = σ 30 1 from by omega) (show σ102 53 0 = σ 29 0 from by omega) (show σ102 54 0 = σ 30 0 from by omega) (show σ102 53 1 = σ 29 1 from by omega) (show σ102 54 1 = σ 30 1 from by omega) (show (80 : Int) = 80 + 2 * k from by omega) (show CPY 47 23 σ σ102 from cp9) (show σ102 0 14 = σ 0 14 from by omega) (show ((0 : Int) = 0 ∧ (0 : Int) = (0 : Int)) ∨ ((0 : Int) = 2 ∧ (0 : Int) + 1 = (0 : Int) ∧ ¬ (0 ≤ f + 2 * (0 : Int) ∧ f + 2 * (0 : Int) + 1 < σ 80 3)) ∨ ((0 : Int) = 1 ∧ (0 : Int) = 0 ∧ (0 : Int) = 0 ∧ 0 < n ∧ σ 80 1 = 0) ∨ ((0 : Int) = 3 ∧ (0 : Int) = 0 ∧ (0 : Int) = 0 ∧ 0 < n ∧ ¬ σ 80 1 = 0 ∧ ¬ σ 80 2 = l) from (by first | exact Or.inl ⟨rfl, by omega⟩ | exact Or.inr (Or.inl ⟨rfl, by omega, by omega⟩) | exact Or.inr (Or.inr (Or.inl ⟨rfl, by omega, by omega, by omega, by omega⟩)) | exact Or.inr (Or.inr (Or.inr ⟨rfl, by omega, by omega, by omega, by omega, by omega⟩)) | omega)) (show (0 : Int) = 1 ∨ (0 : Int) = 3 ∨ n = 0 ∨ (¬ σ 80 1 = 0 ∧ σ 80 2 = l) from (by first | exact Or.inl rfl | exact Or.inr (Or.inl rfl) | exact Or.inr (Or.inr (Or.inl (by omega))) | exact Or.inr (Or.inr (Or.inr ⟨by omega, by omega⟩)) | omega)) (show (0 : Int) ≤ n from by omega) (show (0 : Int) ≤ n from by omega) (show 0 ≤ k ∧ k ≤ 3 ∧ 0 ≤ l ∧ l ≤ 2 from by omega) (show σ102 23 4 = σ 23 4 from by omega) (show σ102 23 5 = σ 23 5 from by omega) (show ∀ gg qq rk : Nat → Int, RG 24 gg qq σ → CNR rk gg 28 σ → RDX rk (CC (80 + 1) σ) f gg qq (0 : Int).toNat σ102 ∧ ∀ x : Nat, (x : Int) < (0 : Int) → rdF (σ 80 3) f x ∧ rdO (wW 1 σ) rk (CC (80 + 1) σ) f gg x = 0 from (fun gg qq rk H C => ⟨RDX_F (i := 0) ⟨H, C⟩ (fun c j a b => ((hGσ102 c j (show ¬ ((47 ≤ c ∧ c < 55)) from by omega)))), fun x hx => by exfalso; omega⟩)) (Nat.lt_succ_self _)
            · refine j_aload (pc := 48) dX11_read_48 rfl ?_
              refine j_getI (pc := 50) fl_X11_409 dX11_read_50 (a_80 hX) rfl ?_
              have f119 : (0 : Int) ≤ σ 80 1 ∧ σ 80 1 ≤ 1 := hI 80 1
              refine j_ifR_ne (pc := 53) (tgt := 60) ⟨by omega, by omega⟩ dX11_read_53 rfl (fun h120 => ?_) (fun h120 => ?_)
              · refine j_aload (pc := 60) dX11_read_60 rfl ?_
                refine j_getI (pc := 62) fl_X11_416 dX11_read_62 (a_80 hX) rfl ?_
                have f121 : (-2147483648 : Int) ≤ σ 80 2 ∧ σ 80 2 ≤ 2147483647 := hI 80 2
                refine j_iload_n (pc := 65) dX11_read_65 rfl rfl ?_
                refine j_icmpR_eq (pc := 66) (tgt := 73) ⟨by omega, by omega⟩ ⟨by omega, by omega⟩ dX11_read_66 rfl (fun h122 => ?_) (fun h122 => ?_)
                · refine j_iconst (pc := 73) dX11_read_73 ?_
                  refine j_istore (pc := 74) (i := 6) (ls' := [(0, vR 0), (3, vI f), (4, vI n), (5, vR 80), (6, vI 0), (7, vI 0)]) [1, 3, 4, 5, 0, 6] dX11_read_74 (Nat.le_of_ble_eq_true rfl) rfl rfl ?_
                  refine j_aload_n (pc := 76) dX11_read_76 rfl rfl ?_
                  refine j_getR (pc := 77) (r := 47) fl_X11_36 dX11_read_77 (a_0 hX) rfl ?_
                  refine j_aload_n (pc := 80) dX11_read_80 rfl rfl ?_
                  refine j_getR (pc := 81) (r := 23) fl_X11_26 dX11_read_81 (a_0 hX) rfl ?_
                  refine j_callV (pc := 84) (As := [vR 23]) (st := []) (c_X3_copyOf 47 (s_Hand_47 hX) 23 (s_Hand_23 hX) σ hI (by omega)) mv_X11_398 rfl rfl rfl (a_47 hX) dX11_read_84 ⟨Nat.le_of_ble_eq_true rfl, Nat.le_of_ble_eq_true rfl⟩ ⟨Nat.le_refl _, Nat.le_refl _⟩ rfl (Nat.le_of_ble_eq_true rfl) rfl (fun z123 σ124 hz123 => ?_)
                  obtain ⟨rfl, hIσ124, hGσ124, q125_0, q125_1, q125_2, q125_3, q125_4⟩ := hz123
                  replace q125_0 : σ124 53 0 = σ 29 0 := q125_0
                  replace q125_1 : σ124 54 0 = σ 30 0 := q125_1
                  replace q125_2 : σ124 53 1 = σ 29 1 := q125_2
                  replace q125_3 : σ124 54 1 = σ 30 1 := q125_3
                  replace q125_4 : CPY 47 23 σ σ124 := q125_4
                  have hFσ124 : tw_F (fun c j => (23 ≤ c ∧ c < 31) ∨ (47 ≤ c ∧ c < 55) ∨ (c = 0 ∧ (j = 14))) σ σ124 := tw_F_tr (tw_F_rf) hGσ124 (fun c j q => (show (23 ≤ c ∧ c < 31) ∨ (47 ≤ c ∧ c < 55) ∨ (c = 0 ∧ (j = 14)) from by replace q : (47 ≤ c ∧ c < 55) := q; exact (Or.inr (Or.inl q))))
                  refine j_st (st' := []) rfl ?_
                  have cp9 := q125_4
                  refine j_iconst (pc := 87) dX11_read_87 ?_
                  refine j_istore (pc := 88) (i := 8) (ls' := [(0, vR 0), (3, vI f), (4, vI n), (5, vR 80), (6, vI 0), (7, vI 0), (8, vI 0)]) [1, 2, 3, 4, 5, 6, 0] dX11_read_88 (Nat.le_of_ble_eq_true rfl) rfl rfl ?_
                  refine j_ls (ls' := [(0, vR 0), (3, vI f), (4, vI n), (5, vR 80), (6, vI 0), (7, vI 0), (8, vI 0)]) [0, 1, 2, 3, 4, 5, 6] rfl ?_
                  have y127 : σ124 29 0 = σ 29 0 := (hGσ124 29 0 (show ¬ ((47 ≤ 29 ∧ 29 < 55)) from by decide))
                  have f128 : (0 : Int) ≤ σ 29 0 ∧ σ 29 0 ≤ 999 := hI 29 0
                  have y129 : σ124 30 0 = σ 30 0 := (hGσ124 30 0 (show ¬ ((47 ≤ 30 ∧ 30 < 55)) from by decide))
                  have f130 : (-2147483648 : Int) ≤ σ 30 0 ∧ σ 30 0 ≤ 2147483647 := hI 30 0
                  have y131 : σ124 29 1 = σ 29 1 := (hGσ124 29 1 (show ¬ ((47 ≤ 29 ∧ 29 < 55)) from by decide))
                  have f132 : (0 : Int) ≤ σ 29 1 ∧ σ 29 1 ≤ 999 := hI 29 1
                  have y133 : σ124 30 1 = σ 30 1 := (hGσ124 30 1 (show ¬ ((47 ≤ 30 ∧ 30 < 55)) from by decide))
                  have f134 : (-2147483648 : Int) ≤ σ 30 1 ∧ σ 30 1 ≤ 2147483647 := hI 30 1
                  have y135 : σ124 0 14 = σ 0 14 := (hGσ124 0 14 (show ¬ ((47 ≤ 0 ∧ 0 < 55)) from by decide))
                  have f136 : (-2147483648 : Int) ≤ σ 0 14 ∧ σ 0 14 ≤ 2147483647 := hI 0 14
                  have y137 : σ124 23 4 = σ 23 4 := (hGσ124 23 4 (show ¬ ((47 ≤ 23 ∧ 23 < 55)) from by decide))
                  have f138 : (-2147483648 : Int) ≤ σ 23 4 ∧ σ 23 4 ≤ 2147483647 := hI 23 4
                  have y139 : σ124 23 5 = σ 23 5 := (hGσ124 23 5 (show ¬ ((47 ≤ 23 ∧ 23 < 55)) from by decide))
                  have f140 : (-2147483648 : Int) ≤ σ 23 5 ∧ σ 23 5 ≤ 2147483647 := hI 23 5
                  exact (l_X11_read hX k hk l hl f hf n hn σ hI (((10 - (0 : Int)).toNat) + 1)) 80 (s_Sheet_80 hX) 0 (by (first | decide | exact ⟨by omega, by omega⟩)) 0 (by (first | decide | exact ⟨by omega, by omega⟩)) 0 (by (first | decide | exact ⟨by omega, by omega⟩)) σ124 hIσ124 hFσ124 (show (0 : Int) ≤ (0 : Int) from by omega) (show n ≤ 10 from by omega) (show 0 ≤ n from by omega) (show σ124 29 0 = σ 29 0 from by omega) (show σ124 30 0 = σ 30 0 from by omega) (show σ124 29 1 = σ 29 1 from by omega) (show σ124 30 1 = σ 30 1 from by omega) (show σ124 53 0 = σ 29 0 from by omega) (show σ124 54 0 = σ 30 0 from by omega) (show σ124 53 1 = σ 29 1 from by omega) (show σ124 54 1 = σ 30 1 from by omega) (show (80 : Int) = 80 + 2 * k from by omega) (show CPY 47 23 σ σ124 from cp9) (show σ124 0 14 = σ 0 14 from by omega) (show ((0 : Int) = 0 ∧ (0 : Int) = (0 : Int)) ∨ ((0 : Int) = 2 ∧ (0 : Int) + 1 = (0 : Int) ∧ ¬ (0 ≤ f + 2 * (0 : Int) ∧ f + 2 * (0 : Int) + 1 < σ 80 3)) ∨ ((0 : Int) = 1 ∧ (0 : Int) = 0 ∧ (0 : Int) = 0 ∧ 0 < n ∧ σ 80 1 = 0) ∨ ((0 : Int) = 3 ∧ (0 : Int) = 0 ∧ (0 : Int) = 0 ∧ 0 < n ∧ ¬ σ 80 1 = 0 ∧ ¬ σ 80 2 = l) from (by first | exact Or.inl ⟨rfl, by omega⟩ | exact Or.inr (Or.inl ⟨rfl, by omega, by omega⟩) | exact Or.inr (Or.inr (Or.inl ⟨rfl, by omega, by omega, by omega, by omega⟩)) | exact Or.inr (Or.inr (Or.inr ⟨rfl, by omega, by omega, by omega, by omega, by omega⟩)) | omega)) (show (0 : Int) = 1 ∨ (0 : Int) = 3 ∨ n = 0 ∨ (¬ σ 80 1 = 0 ∧ σ 80 2 = l) from (by first | exact Or.inl rfl | exact Or.inr (Or.inl rfl) | exact Or.inr (Or.inr (Or.inl (by omega))) | exact Or.inr (Or.inr (Or.inr ⟨by omega, by omega⟩)) | omega)) (show (0 : Int) ≤ n from by omega) (show (0 : Int) ≤ n from by omega) (show 0 ≤ k ∧ k ≤ 3 ∧ 0 ≤ l ∧ l ≤ 2 from by omega) (show σ124 23 4 = σ 23 4 from by omega) (show σ124 23 5 = σ 23 5 from by omega) (show ∀ gg qq rk : Nat → Int, RG 24 gg qq σ → CNR rk gg 28 σ → RDX rk (CC (80 + 1) σ) f gg qq (0 : Int).toNat σ124 ∧ ∀ x : Nat, (x : Int) < (0 : Int) → rdF (σ 80 3) f x ∧ rdO (wW 1 σ) rk (CC (80 + 1) σ) f gg x = 0 from (fun gg qq rk H C => ⟨RDX_F (i := 0) ⟨H, C⟩ (fun c j a b => ((hGσ124 c j (show ¬ ((47 ≤ c ∧ c < 55)) from by omega)))), fun x hx => by exfalso; omega⟩)) (Nat.lt_succ_self _)
                · refine j_iconst (pc := 69) dX11_read_69 ?_
                  refine j_goto (pc := 70) (tgt := 74) dX11_read_70 rfl ?_
                  refine j_istore (pc := 74) (i := 6) (ls' := [(0, vR 0), (3, vI f), (4, vI n), (5, vR 80), (6, vI 3), (7, vI 0)]) [1, 3, 4, 5, 0, 6] dX11_read_74 (Nat.le_of_ble_eq_true rfl) rfl rfl ?_
                  refine j_aload_n (pc := 76) dX11_read_76 rfl rfl ?_
                  refine j_getR (pc := 77) (r := 47) fl_X11_36 dX11_read_77 (a_0 hX) rfl ?_
                  refine j_aload_n (pc := 80) dX11_read_80 rfl rfl ?_
                  refine j_getR (pc := 81) (r := 23) fl_X11_26 dX11_read_81 (a_0 hX) rfl ?_
                  refine j_callV (pc := 84) (As := [vR 23]) (st := []) (c_X3_copyOf 47 (s_Hand_47 hX) 23 (s_Hand_23 hX) σ hI (by omega)) mv_X11_398 rfl rfl rfl (a_47 hX) dX11_read_84 ⟨Nat.le_of_ble_eq_true rfl, Nat.le_of_ble_eq_true rfl⟩ ⟨Nat.le_refl _, Nat.le_refl _⟩ rfl (Nat.le_of_ble_eq_true rfl) rfl (fun z141 σ142 hz141 => ?_)
                  obtain ⟨rfl, hIσ142, hGσ142, q143_0, q143_1, q143_2, q143_3, q143_4⟩ := hz141
                  replace q143_0 : σ142 53 0 = σ 29 0 := q143_0
                  replace q143_1 : σ142 54 0 = σ 30 0 := q143_1
                  replace q143_2 : σ142 53 1 = σ 29 1 := q143_2
                  replace q143_3 : σ142 54 1 = σ 30 1 := q143_3
                  replace q143_4 : CPY 47 23 σ σ142 := q143_4
                  have hFσ142 : tw_F (fun c j => (23 ≤ c ∧ c < 31) ∨ (47 ≤ c ∧ c < 55) ∨ (c = 0 ∧ (j = 14))) σ σ142 := tw_F_tr (tw_F_rf) hGσ142 (fun c j q => (show (23 ≤ c ∧ c < 31) ∨ (47 ≤ c ∧ c < 55) ∨ (c = 0 ∧ (j = 14)) from by replace q : (47 ≤ c ∧ c < 55) := q; exact (Or.inr (Or.inl q))))
                  refine j_st (st' := []) rfl ?_
                  have cp9 := q143_4
                  refine j_iconst (pc := 87) dX11_read_87 ?_
                  refine j_istore (pc := 88) (i := 8) (ls' := [(0, vR 0), (3, vI f), (4, vI n), (5, vR 80), (6, vI 3), (7, vI 0), (8, vI 0)]) [1, 2, 3, 4, 5, 6, 0] dX11_read_88 (Nat.le_of_ble_eq_true rfl) rfl rfl ?_
                  refine j_ls (ls' := [(0, vR 0), (3, vI f), (4, vI n), (5, vR 80), (6, vI 3), (7, vI 0), (8, vI 0)]) [0, 1, 2, 3, 4, 5, 6] rfl ?_
                  have y145 : σ142 29 0 = σ 29 0 := (hGσ142 29 0 (show ¬ ((47 ≤ 29 ∧ 29 < 55)) from by decide))
                  have f146 : (0 : Int) ≤ σ 29 0 ∧ σ 29 0 ≤ 999 := hI 29 0
                  have y147 : σ142 30 0 = σ 30 0 := (hGσ142 30 0 (show ¬ ((47 ≤ 30 ∧ 30 < 55)) from by decide))
                  have f148 : (-2147483648 : Int) ≤ σ 30 0 ∧ σ 30 0 ≤ 2147483647 := hI 30 0
                  have y149 : σ142 29 1 = σ 29 1 := (hGσ142 29 1 (show ¬ ((47 ≤ 29 ∧ 29 < 55)) from by decide))
                  have f150 : (0 : Int) ≤ σ 29 1 ∧ σ 29 1 ≤ 999 := hI 29 1
                  have y151 : σ142 30 1 = σ 30 1 := (hGσ142 30 1 (show ¬ ((47 ≤ 30 ∧ 30 < 55)) from by decide))
                  have f152 : (-2147483648 : Int) ≤ σ 30 1 ∧ σ 30 1 ≤ 2147483647 := hI 30 1
                  have y153 : σ142 0 14 = σ 0 14 := (hGσ142 0 14 (show ¬ ((47 ≤ 0 ∧ 0 < 55)) from by decide))
                  have f154 : (-2147483648 : Int) ≤ σ 0 14 ∧ σ 0 14 ≤ 2147483647 := hI 0 14
                  have y155 : σ142 23 4 = σ 23 4 := (hGσ142 23 4 (show ¬ ((47 ≤ 23 ∧ 23 < 55)) from by decide))
                  have f156 : (-2147483648 : Int) ≤ σ 23 4 ∧ σ 23 4 ≤ 2147483647 := hI 23 4
                  have y157 : σ142 23 5 = σ 23 5 := (hGσ142 23 5 (show ¬ ((47 ≤ 23 ∧ 23 < 55)) from by decide))
                  have f158 : (-2147483648 : Int) ≤ σ 23 5 ∧ σ 23 5 ≤ 2147483647 := hI 23 5
                  exact (l_X11_read hX k hk l hl f hf n hn σ hI (((10 - (0 : Int)).toNat) + 1)) 80 (s_Sheet_80 hX) 3 (by (first | decide | exact ⟨by omega, by omega⟩)) 0 (by (first | decide | exact ⟨by omega, by omega⟩)) 0 (by (first | decide | exact ⟨by omega, by omega⟩)) σ142 hIσ142 hFσ142 (show (0 : Int) ≤ (0 : Int) from by omega) (show n ≤ 10 from by omega) (show 0 ≤ n from by omega) (show σ142 29 0 = σ 29 0 from by omega) (show σ142 30 0 = σ 30 0 from by omega) (show σ142 29 1 = σ 29 1 from by omega) (show σ142 30 1 = σ 30 1 from by omega) (show σ142 53 0 = σ 29 0 from by omega) (show σ142 54 0 = σ 30 0 from by omega) (show σ142 53 1 = σ 29 1 from by omega) (show σ142 54 1 = σ 30 1 from by omega) (show (80 : Int) = 80 + 2 * k from by omega) (show CPY 47 23 σ σ142 from cp9) (show σ142 0 14 = σ 0 14 from by omega) (show ((3 : Int) = 0 ∧ (0 : Int) = (0 : Int)) ∨ ((3 : Int) = 2 ∧ (0 : Int) + 1 = (0 : Int) ∧ ¬ (0 ≤ f + 2 * (0 : Int) ∧ f + 2 * (0 : Int) + 1 < σ 80 3)) ∨ ((3 : Int) = 1 ∧ (0 : Int) = 0 ∧ (0 : Int) = 0 ∧ 0 < n ∧ σ 80 1 = 0) ∨ ((3 : Int) = 3 ∧ (0 : Int) = 0 ∧ (0 : Int) = 0 ∧ 0 < n ∧ ¬ σ 80 1 = 0 ∧ ¬ σ 80 2 = l) from (by first | exact Or.inl ⟨rfl, by omega⟩ | exact Or.inr (Or.inl ⟨rfl, by omega, by omega⟩) | exact Or.inr (Or.inr (Or.inl ⟨rfl, by omega, by omega, by omega, by omega⟩)) | exact Or.inr (Or.inr (Or.inr ⟨rfl, by omega, by omega, by omega, by omega, by omega⟩)) | omega)) (show (3 : Int) = 1 ∨ (3 : Int) = 3 ∨ n = 0 ∨ (¬ σ 80 1 = 0 ∧ σ 80 2 = l) from (by first | exact Or.inl rfl | exact Or.inr (Or.inl rfl) | exact Or.inr (Or.inr (Or.inl (by omega))) | exact Or.inr (Or.inr (Or.inr ⟨by omega, by omega⟩)) | omega)) (show (0 : Int) ≤ n from by omega) (show (0 : Int) ≤ n from by omega) (show 0 ≤ k ∧ k ≤ 3 ∧ 0 ≤ l ∧ l ≤ 2 from by omega) (show σ142 23 4 = σ 23 4 from by omega) (show σ142 23 5 = σ 23 5 from by omega) (show ∀ gg qq rk : Nat → Int, RG 24 gg qq σ → CNR rk gg 28 σ → RDX rk (CC (80 + 1) σ) f gg qq (0 : Int).toNat σ142 ∧ ∀ x : Nat, (x : Int) < (0 : Int) → rdF (σ 80 3) f x ∧ rdO (wW 1 σ) rk (CC (80 + 1) σ) f gg x = 0 from (fun gg qq rk H C => ⟨RDX_F (i := 0) ⟨H, C⟩ (fun c j a b => ((hGσ142 c j (show ¬ ((47 ≤ c ∧ c < 55)) from by omega)))), fun x hx => by exfalso; omega⟩)) (Nat.lt_succ_self _)
              · refine j_iconst (pc := 56) dX11_read_56 ?_
                refine j_goto (pc := 57) (tgt := 74) dX11_read_57 rfl ?_
                refine j_istore (pc := 74) (i := 6) (ls' := [(0, vR 0), (3, vI f), (4, vI n), (5, vR 80), (6, vI 1), (7, vI 0)]) [1, 3, 4, 5, 0, 6] dX11_read_74 (Nat.le_of_ble_eq_true rfl) rfl rfl ?_
                refine j_aload_n (pc := 76) dX11_read_76 rfl rfl ?_
                refine j_getR (pc := 77) (r := 47) fl_X11_36 dX11_read_77 (a_0 hX) rfl ?_
                refine j_aload_n (pc := 80) dX11_read_80 rfl rfl ?_
                refine j_getR (pc := 81) (r := 23) fl_X11_26 dX11_read_81 (a_0 hX) rfl ?_
                refine j_callV (pc := 84) (As := [vR 23]) (st := []) (c_X3_copyOf 47 (s_Hand_47 hX) 23 (s_Hand_23 hX) σ hI (by omega)) mv_X11_398 rfl rfl rfl (a_47 hX) dX11_read_84 ⟨Nat.le_of_ble_eq_true rfl, Nat.le_of_ble_eq_true rfl⟩ ⟨Nat.le_refl _, Nat.le_refl _⟩ rfl (Nat.le_of_ble_eq_true rfl) rfl (fun z159 σ160 hz159 => ?_)
                obtain ⟨rfl, hIσ160, hGσ160, q161_0, q161_1, q161_2, q161_3, q161_4⟩ := hz159
                replace q161_0 : σ160 53 0 = σ 29 0 := q161_0
                replace q161_1 : σ160 54 0 = σ 30 0 := q161_1
                replace q161_2 : σ160 53 1 = σ 29 1 := q161_2
                replace q161_3 : σ160 54 1 = σ 30 1 := q161_3
                replace q161_4 : CPY 47 23 σ σ160 := q161_4
                have hFσ160 : tw_F (fun c j => (23 ≤ c ∧ c < 31) ∨ (47 ≤ c ∧ c < 55) ∨ (c = 0 ∧ (j = 14))) σ σ160 := tw_F_tr (tw_F_rf) hGσ160 (fun c j q => (show (23 ≤ c ∧ c < 31) ∨ (47 ≤ c ∧ c < 55) ∨ (c = 0 ∧ (j = 14)) from by replace q : (47 ≤ c ∧ c < 55) := q; exact (Or.inr (Or.inl q))))
                refine j_st (st' := []) rfl ?_
                have cp9 := q161_4
                refine j_iconst (pc := 87) dX11_read_87 ?_
                refine j_istore (pc := 88) (i := 8) (ls' := [(0, vR 0), (3, vI f), (4, vI n), (5, vR 80), (6, vI 1), (7, vI 0), (8, vI 0)]) [1, 2, 3, 4, 5, 6, 0] dX11_read_88 (Nat.le_of_ble_eq_true rfl) rfl rfl ?_
                refine j_ls (ls' := [(0, vR 0), (3, vI f), (4, vI n), (5, vR 80), (6, vI 1), (7, vI 0), (8, vI 0)]) [0, 1, 2, 3, 4, 5, 6] rfl ?_
                have y163 : σ160 29 0 = σ 29 0 := (hGσ160 29 0 (show ¬ ((47 ≤ 29 ∧ 29 < 55)) from by decide))
                have f164 : (0 : Int) ≤ σ 29 0 ∧ σ 29 0 ≤ 999 := hI 29 0
                have y165 : σ160 30 0 = σ 30 0 := (hGσ160 30 0 (show ¬ ((47 ≤ 30 ∧ 30 < 55)) from by decide))
                have f166 : (-2147483648 : Int) ≤ σ 30 0 ∧ σ 30 0 ≤ 2147483647 := hI 30 0
                have y167 : σ160 29 1 = σ 29 1 := (hGσ160 29 1 (show ¬ ((47 ≤ 29 ∧ 29 < 55)) from by decide))
                have f168 : (0 : Int) ≤ σ 29 1 ∧ σ 29 1 ≤ 999 := hI 29 1
                have y169 : σ160 30 1 = σ 30 1 := (hGσ160 30 1 (show ¬ ((47 ≤ 30 ∧ 30 < 55)) from by decide))
                have f170 : (-2147483648 : Int) ≤ σ 30 1 ∧ σ 30 1 ≤ 2147483647 := hI 30 1
                have y171 : σ160 0 14 = σ 0 14 := (hGσ160 0 14 (show ¬ ((47 ≤ 0 ∧ 0 < 55)) from by decide))
                have f172 : (-2147483648 : Int) ≤ σ 0 14 ∧ σ 0 14 ≤ 2147483647 := hI 0 14
                have y173 : σ160 23 4 = σ 23 4 := (hGσ160 23 4 (show ¬ ((47 ≤ 23 ∧ 23 < 55)) from by decide))
                have f174 : (-2147483648 : Int) ≤ σ 23 4 ∧ σ 23 4 ≤ 2147483647 := hI 23 4
                have y175 : σ160 23 5 = σ 23 5 := (hGσ160 23 5 (show ¬ ((47 ≤ 23 ∧ 23 < 55)) from by decide))
                have f176 : (-2147483648 : Int) ≤ σ 23 5 ∧ σ 23 5 ≤ 2147483647 := hI 23 5
                exact (l_X11_read hX k hk l hl f hf n hn σ hI (((10 - (0 : Int)).toNat) + 1)) 80 (s_Sheet_80 hX) 1 (by (first | decide | exact ⟨by omega, by omega⟩)) 0 (by (first | decide | exact ⟨by omega, by omega⟩)) 0 (by (first | decide | exact ⟨by omega, by omega⟩)) σ160 hIσ160 hFσ160 (show (0 : Int) ≤ (0 : Int) from by omega) (show n ≤ 10 from by omega) (show 0 ≤ n from by omega) (show σ160 29 0 = σ 29 0 from by omega) (show σ160 30 0 = σ 30 0 from by omega) (show σ160 29 1 = σ 29 1 from by omega) (show σ160 30 1 = σ 30 1 from by omega) (show σ160 53 0 = σ 29 0 from by omega) (show σ160 54 0 = σ 30 0 from by omega) (show σ160 53 1 = σ 29 1 from by omega) (show σ160 54 1 = σ 30 1 from by omega) (show (80 : Int) = 80 + 2 * k from by omega) (show CPY 47 23 σ σ160 from cp9) (show σ160 0 14 = σ 0 14 from by omega) (show ((1 : Int) = 0 ∧ (0 : Int) = (0 : Int)) ∨ ((1 : Int) = 2 ∧ (0 : Int) + 1 = (0 : Int) ∧ ¬ (0 ≤ f + 2 * (0 : Int) ∧ f + 2 * (0 : Int) + 1 < σ 80 3)) ∨ ((1 : Int) = 1 ∧ (0 : Int) = 0 ∧ (0 : Int) = 0 ∧ 0 < n ∧ σ 80 1 = 0) ∨ ((1 : Int) = 3 ∧ (0 : Int) = 0 ∧ (0 : Int) = 0 ∧ 0 < n ∧ ¬ σ 80 1 = 0 ∧ ¬ σ 80 2 = l) from (by first | exact Or.inl ⟨rfl, by omega⟩ | exact Or.inr (Or.inl ⟨rfl, by omega, by omega⟩) | exact Or.inr (Or.inr (Or.inl ⟨rfl, by omega, by omega, by omega, by omega⟩)) | exact Or.inr (Or.inr (Or.inr ⟨rfl, by omega, by omega, by omega, by omega, by omega⟩)) | omega)) (show (1 : Int) = 1 ∨ (1 : Int) = 3 ∨ n = 0 ∨ (¬ σ 80 1 = 0 ∧ σ 80 2 = l) from (by first | exact Or.inl rfl | exact Or.inr (Or.inl rfl) | exact Or.inr (Or.inr (Or.inl (by omega))) | exact Or.inr (Or.inr (Or.inr ⟨by omega, by omega⟩)) | omega)) (show (0 : Int) ≤ n from by omega) (show (0 : Int) ≤ n from by omega) (show 0 ≤ k ∧ k ≤ 3 ∧ 0 ≤ l ∧ l ≤ 2 from by omega) (show σ160 23 4 = σ 23 4 from by omega) (show σ160 23 5 = σ 23 5 from by omega) (show ∀ gg qq rk : Nat → Int, RG 24 gg qq σ → CNR rk gg 28 σ → RDX rk (CC (80 + 1) σ) f gg qq (0 : Int).toNat σ160 ∧ ∀ x : Nat, (x : Int) < (0 : Int) → rdF (σ 80 3) f x ∧ rdO (wW 1 σ) rk (CC (80 + 1) σ) f gg x = 0 from (fun gg qq rk H C => ⟨RDX_F (i := 0) ⟨H, C⟩ (fun c j a b => ((hGσ160 c j (show ¬ ((47 ≤ c ∧ c < 55)) from by omega)))), fun x hx => by exfalso; omega⟩)) (Nat.lt_succ_self _)
          · refine j_aald (pc := 34) (r := 82) dX11_read_34 (a_79 hX) (by omega) (by rw [h99]; decide) (by rw [h99]; rfl) (by decide) ?_
            refine j_astore (pc := 35) (i := 5) (ls' := [(0, vR 0), (2, vI l), (3, vI f), (4, vI n), (5, vR 82)]) [1, 3, 4, 5, 0] dX11_read_35 (Nat.le_of_ble_eq_true rfl) rfl rfl ?_
            refine j_iconst (pc := 37) dX11_read_37 ?_
            refine j_istore (pc := 38) (i := 6) (ls' := [(0, vR 0), (2, vI l), (3, vI f), (4, vI n), (5, vR 82), (6, vI 0)]) [1, 2, 3, 4, 5, 0] dX11_read_38 (Nat.le_of_ble_eq_true rfl) rfl rfl ?_
            refine j_iconst (pc := 40) dX11_read_40 ?_
            refine j_istore (pc := 41) (i := 7) (ls' := [(0, vR 0), (2, vI l), (3, vI f), (4, vI n), (5, vR 82), (6, vI 0), (7, vI 0)]) [1, 2, 3, 4, 5, 6, 0] dX11_read_41 (Nat.le_of_ble_eq_true rfl) rfl rfl ?_
            refine j_iload (pc := 43) dX11_read_43 rfl ?_
            refine j_ifR_le (pc := 45) (tgt := 76) ⟨by omega, by omega⟩ dX11_read_45 rfl (fun h177 => ?_) (fun h177 => ?_)
            · refine j_aload_n (pc := 76) dX11_read_76 rfl rfl ?_
              refine j_getR (pc := 77) (r := 47) fl_X11_36 dX11_read_77 (a_0 hX) rfl ?_
              refine j_aload_n (pc := 80) dX11_read_80 rfl rfl ?_
              refine j_getR (pc := 81) (r := 23) fl_X11_26 dX11_read_81 (a_0 hX) rfl ?_
              refine j_callV (pc := 84) (As := [vR 23]) (st := []) (c_X3_copyOf 47 (s_Hand_47 hX) 23 (s_Hand_23 hX) σ hI (by omega)) mv_X11_398 rfl rfl rfl (a_47 hX) dX11_read_84 ⟨Nat.le_of_ble_eq_true rfl, Nat.le_of_ble_eq_true rfl⟩ ⟨Nat.le_refl _, Nat.le_refl _⟩ rfl (Nat.le_of_ble_eq_true rfl) rfl (fun z178 σ179 hz178 => ?_)
              obtain ⟨rfl, hIσ179, hGσ179, q180_0, q180_1, q180_2, q180_3, q180_4⟩ := hz178
              replace q180_0 : σ179 53 0 = σ 29 0 := q180_0
              replace q180_1 : σ179 54 0 = σ 30 0 := q180_1
              replace q180_2 : σ179 53 1 = σ 29 1 := q180_2
              replace q180_3 : σ179 54 1 = σ 30 1 := q180_3
              replace q180_4 : CPY 47 23 σ σ179 := q180_4
              have hFσ179 : tw_F (fun c j => (23 ≤ c ∧ c < 31) ∨ (47 ≤ c ∧ c < 55) ∨ (c = 0 ∧ (j = 14))) σ σ179 := tw_F_tr (tw_F_rf) hGσ179 (fun c j q => (show (23 ≤ c ∧ c < 31) ∨ (47 ≤ c ∧ c < 55) ∨ (c = 0 ∧ (j = 14)) from by replace q : (47 ≤ c ∧ c < 55) := q; exact (Or.inr (Or.inl q))))
              refine j_st (st' := []) rfl ?_
              have cp9 := q180_4
              refine j_iconst (pc := 87) dX11_read_87 ?_
              refine j_istore (pc := 88) (i := 8) (ls' := [(0, vR 0), (3, vI f), (4, vI n), (5, vR 82), (6, vI 0), (7, vI 0), (8, vI 0)]) [1, 3, 4, 5, 6, 7, 0] dX11_read_88 (Nat.le_of_ble_eq_true rfl) rfl rfl ?_
              refine j_ls (ls' := [(0, vR 0), (3, vI f), (4, vI n), (5, vR 82), (6, vI 0), (7, vI 0), (8, vI 0)]) [0, 1, 2, 3, 4, 5, 6] rfl ?_
              have y182 : σ179 29 0 = σ 29 0 := (hGσ179 29 0 (show ¬ ((47 ≤ 29 ∧ 29 < 55)) from by decide))
              have f183 : (0 : Int) ≤ σ 29 0 ∧ σ 29 0 ≤ 999 := hI 29 0
              have y184 : σ179 30 0 = σ 30 0 := (hGσ179 30 0 (show ¬ ((47 ≤ 30 ∧ 30 < 55)) from by decide))
              have f185 : (-2147483648 : Int) ≤ σ 30 0 ∧ σ 30 0 ≤ 2147483647 := hI 30 0
              have y186 : σ179 29 1 = σ 29 1 := (hGσ179 29 1 (show ¬ ((47 ≤ 29 ∧ 29 < 55)) from by decide))
              have f187 : (0 : Int) ≤ σ 29 1 ∧ σ 29 1 ≤ 999 := hI 29 1
              have y188 : σ179 30 1 = σ 30 1 := (hGσ179 30 1 (show ¬ ((47 ≤ 30 ∧ 30 < 55)) from by decide))
              have f189 : (-2147483648 : Int) ≤ σ 30 1 ∧ σ 30 1 ≤ 2147483647 := hI 30 1
              have y190 : σ179 0 14 = σ 0 14 := (hGσ179 0 14 (show ¬ ((47 ≤ 0 ∧ 0 < 55)) from by decide))
              have f191 : (-2147483648 : Int) ≤ σ 0 14 ∧ σ 0 14 ≤ 2147483647 := hI 0 14
              have y192 : σ179 23 4 = σ 23 4 := (hGσ179 23 4 (show ¬ ((47 ≤ 23 ∧ 23 < 55)) from by decide))
              have f193 : (-2147483648 : Int) ≤ σ 23 4 ∧ σ 23 4 ≤ 2147483647 := hI 23 4
              have y194 : σ179 23 5 = σ 23 5 := (hGσ179 23 5 (show ¬ ((47 ≤ 23 ∧ 23 < 55)) from by decide))
              have f195 : (-2147483648 : Int) ≤ σ 23 5 ∧ σ 23 5 ≤ 2147483647 := hI 23 5
              exact (l_X11_read hX k hk l hl f hf n hn σ hI (((10 - (0 : Int)).toNat) + 1)) 82 (s_Sheet_82 hX) 0 (by (first | decide | exact ⟨by omega, by omega⟩)) 0 (by (first | decide | exact ⟨by omega, by omega⟩)) 0 (by (first | decide | exact ⟨by omega, by omega⟩)) σ179 hIσ179 hFσ179 (show (0 : Int) ≤ (0 : Int) from by omega) (show n ≤ 10 from by omega) (show 0 ≤ n from by omega) (show σ179 29 0 = σ 29 0 from by omega) (show σ179 30 0 = σ 30 0 from by omega) (show σ179 29 1 = σ 29 1 from by omega) (show σ179 30 1 = σ 30 1 from by omega) (show σ179 53 0 = σ 29 0 from by omega) (show σ179 54 0 = σ 30 0 from by omega) (show σ179 53 1 = σ 29 1 from by omega) (show σ179 54 1 = σ 30 1 from by omega) (show (82 : Int) = 80 + 2 * k from by omega) (show CPY 47 23 σ σ179 from cp9) (show σ179 0 14 = σ 0 14 from by omega) (show ((0 : Int) = 0 ∧ (0 : Int) = (0 : Int)) ∨ ((0 : Int) = 2 ∧ (0 : Int) + 1 = (0 : Int) ∧ ¬ (0 ≤ f + 2 * (0 : Int) ∧ f + 2 * (0 : Int) + 1 < σ 82 3)) ∨ ((0 : Int) = 1 ∧ (0 : Int) = 0 ∧ (0 : Int) = 0 ∧ 0 < n ∧ σ 82 1 = 0) ∨ ((0 : Int) = 3 ∧ (0 : Int) = 0 ∧ (0 : Int) = 0 ∧ 0 < n ∧ ¬ σ 82 1 = 0 ∧ ¬ σ 82 2 = l) from (by first | exact Or.inl ⟨rfl, by omega⟩ | exact Or.inr (Or.inl ⟨rfl, by omega, by omega⟩) | exact Or.inr (Or.inr (Or.inl ⟨rfl, by omega, by omega, by omega, by omega⟩)) | exact Or.inr (Or.inr (Or.inr ⟨rfl, by omega, by omega, by omega, by omega, by omega⟩)) | omega)) (show (0 : Int) = 1 ∨ (0 : Int) = 3 ∨ n = 0 ∨ (¬ σ 82 1 = 0 ∧ σ 82 2 = l) from (by first | exact Or.inl rfl | exact Or.inr (Or.inl rfl) | exact Or.inr (Or.inr (Or.inl (by omega))) | exact Or.inr (Or.inr (Or.inr ⟨by omega, by omega⟩)) | omega)) (show (0 : Int) ≤ n from by omega) (show (0 : Int) ≤ n from by omega) (show 0 ≤ k ∧ k ≤ 3 ∧ 0 ≤ l ∧ l ≤ 2 from by omega) (show σ179 23 4 = σ 23 4 from by omega) (show σ179 23 5 = σ 23 5 from by omega) (show ∀ gg qq rk : Nat → Int, RG 24 gg qq σ → CNR rk gg 28 σ → RDX rk (CC (82 + 1) σ) f gg qq (0 : Int).toNat σ179 ∧ ∀ x : Nat, (x : Int) < (0 : Int) → rdF (σ 82 3) f x ∧ rdO (wW 1 σ) rk (CC (82 + 1) σ) f gg x = 0 from (fun gg qq rk H C => ⟨RDX_F (i := 0) ⟨H, C⟩ (fun c j a b => ((hGσ179 c j (show ¬ ((47 ≤ c ∧ c < 55)) from by omega)))), fun x hx => by exfalso; omega⟩)) (Nat.lt_succ_self _)
            · refine j_aload (pc := 48) dX11_read_48 rfl ?_
              refine j_getI (pc := 50) fl_X11_409 dX11_read_50 (a_82 hX) rfl ?_
              have f196 : (0 : Int) ≤ σ 82 1 ∧ σ 82 1 ≤ 1 := hI 82 1
              refine j_ifR_ne (pc := 53) (tgt := 60) ⟨by omega, by omega⟩ dX11_read_53 rfl (fun h197 => ?_) (fun h197 => ?_)
              · refine j_aload (pc := 60) dX11_read_60 rfl ?_
                refine j_getI (pc := 62) fl_X11_416 dX11_read_62 (a_82 hX) rfl ?_
                have f198 : (-2147483648 : Int) ≤ σ 82 2 ∧ σ 82 2 ≤ 2147483647 := hI 82 2
                refine j_iload_n (pc := 65) dX11_read_65 rfl rfl ?_
                refine j_icmpR_eq (pc := 66) (tgt := 73) ⟨by omega, by omega⟩ ⟨by omega, by omega⟩ dX11_read_66 rfl (fun h199 => ?_) (fun h199 => ?_)
                · refine j_iconst (pc := 73) dX11_read_73 ?_
                  refine j_istore (pc := 74) (i := 6) (ls' := [(0, vR 0), (3, vI f), (4, vI n), (5, vR 82), (6, vI 0), (7, vI 0)]) [1, 3, 4, 5, 0, 6] dX11_read_74 (Nat.le_of_ble_eq_true rfl) rfl rfl ?_
                  refine j_aload_n (pc := 76) dX11_read_76 rfl rfl ?_
                  refine j_getR (pc := 77) (r := 47) fl_X11_36 dX11_read_77 (a_0 hX) rfl ?_
                  refine j_aload_n (pc := 80) dX11_read_80 rfl rfl ?_
                  refine j_getR (pc := 81) (r := 23) fl_X11_26 dX11_read_81 (a_0 hX) rfl ?_
                  refine j_callV (pc := 84) (As := [vR 23]) (st := []) (c_X3_copyOf 47 (s_Hand_47 hX) 23 (s_Hand_23 hX) σ hI (by omega)) mv_X11_398 rfl rfl rfl (a_47 hX) dX11_read_84 ⟨Nat.le_of_ble_eq_true rfl, Nat.le_of_ble_eq_true rfl⟩ ⟨Nat.le_refl _, Nat.le_refl _⟩ rfl (Nat.le_of_ble_eq_true rfl) rfl (fun z200 σ201 hz200 => ?_)
                  obtain ⟨rfl, hIσ201, hGσ201, q202_0, q202_1, q202_2, q202_3, q202_4⟩ := hz200
                  replace q202_0 : σ201 53 0 = σ 29 0 := q202_0
                  replace q202_1 : σ201 54 0 = σ 30 0 := q202_1
                  replace q202_2 : σ201 53 1 = σ 29 1 := q202_2
                  replace q202_3 : σ201 54 1 = σ 30 1 := q202_3
                  replace q202_4 : CPY 47 23 σ σ201 := q202_4
                  have hFσ201 : tw_F (fun c j => (23 ≤ c ∧ c < 31) ∨ (47 ≤ c ∧ c < 55) ∨ (c = 0 ∧ (j = 14))) σ σ201 := tw_F_tr (tw_F_rf) hGσ201 (fun c j q => (show (23 ≤ c ∧ c < 31) ∨ (47 ≤ c ∧ c < 55) ∨ (c = 0 ∧ (j = 14)) from by replace q : (47 ≤ c ∧ c < 55) := q; exact (Or.inr (Or.inl q))))
                  refine j_st (st' := []) rfl ?_
                  have cp9 := q202_4
                  refine j_iconst (pc := 87) dX11_read_87 ?_
                  refine j_istore (pc := 88) (i := 8) (ls' := [(0, vR 0), (3, vI f), (4, vI n), (5, vR 82), (6, vI 0), (7, vI 0), (8, vI 0)]) [1, 2, 3, 4, 5, 6, 0] dX11_read_88 (Nat.le_of_ble_eq_true rfl) rfl rfl ?_
                  refine j_ls (ls' := [(0, vR 0), (3, vI f), (4, vI n), (5, vR 82), (6, vI 0), (7, vI 0), (8, vI 0)]) [0, 1, 2, 3, 4, 5, 6] rfl ?_
                  have y204 : σ201 29 0 = σ 29 0 := (hGσ201 29 0 (show ¬ ((47 ≤ 29 ∧ 29 < 55)) from by decide))
                  have f205 : (0 : Int) ≤ σ 29 0 ∧ σ 29 0 ≤ 999 := hI 29 0
                  have y206 : σ201 30 0 = σ 30 0 := (hGσ201 30 0 (show ¬ ((47 ≤ 30 ∧ 30 < 55)) from by decide))
                  have f207 : (-2147483648 : Int) ≤ σ 30 0 ∧ σ 30 0 ≤ 2147483647 := hI 30 0
                  have y208 : σ201 29 1 = σ 29 1 := (hGσ201 29 1 (show ¬ ((47 ≤ 29 ∧ 29 < 55)) from by decide))
                  have f209 : (0 : Int) ≤ σ 29 1 ∧ σ 29 1 ≤ 999 := hI 29 1
                  have y210 : σ201 30 1 = σ 30 1 := (hGσ201 30 1 (show ¬ ((47 ≤ 30 ∧ 30 < 55)) from by decide))
                  have f211 : (-2147483648 : Int) ≤ σ 30 1 ∧ σ 30 1 ≤ 2147483647 := hI 30 1
                  have y212 : σ201 0 14 = σ 0 14 := (hGσ201 0 14 (show ¬ ((47 ≤ 0 ∧ 0 < 55)) from by decide))
                  have f213 : (-2147483648 : Int) ≤ σ 0 14 ∧ σ 0 14 ≤ 2147483647 := hI 0 14
                  have y214 : σ201 23 4 = σ 23 4 := (hGσ201 23 4 (show ¬ ((47 ≤ 23 ∧ 23 < 55)) from by decide))
                  have f215 : (-2147483648 : Int) ≤ σ 23 4 ∧ σ 23 4 ≤ 2147483647 := hI 23 4
                  have y216 : σ201 23 5 = σ 23 5 := (hGσ201 23 5 (show ¬ ((47 ≤ 23 ∧ 23 < 55)) from by decide))
                  have f217 : (-2147483648 : Int) ≤ σ 23 5 ∧ σ 23 5 ≤ 2147483647 := hI 23 5
                  exact (l_X11_read hX k hk l hl f hf n hn σ hI (((10 - (0 : Int)).toNat) + 1)) 82 (s_Sheet_82 hX) 0 (by (first | decide | exact ⟨by omega, by omega⟩)) 0 (by (first | decide | exact ⟨by omega, by omega⟩)) 0 (by (first | decide | exact ⟨by omega, by omega⟩)) σ201 hIσ201 hFσ201 (show (0 : Int) ≤ (0 : Int) from by omega) (show n ≤ 10 from by omega) (show 0 ≤ n from by omega) (show σ201 29 0 = σ 29 0 from by omega) (show σ201 30 0 = σ 30 0 from by omega) (show σ201 29 1 = σ 29 1 from by omega) (show σ201 30 1 = σ 30 1 from by omega) (show σ201 53 0 = σ 29 0 from by omega) (show σ201 54 0 = σ 30 0 from by omega) (show σ201 53 1 = σ 29 1 from by omega) (show σ201 54 1 = σ 30 1 from by omega) (show (82 : Int) = 80 + 2 * k from by omega) (show CPY 47 23 σ σ201 from cp9) (show σ201 0 14 = σ 0 14 from by omega) (show ((0 : Int) = 0 ∧ (0 : Int) = (0 : Int)) ∨ ((0 : Int) = 2 ∧ (0 : Int) + 1 = (0 : Int) ∧ ¬ (0 ≤ f + 2 * (0 : Int) ∧ f + 2 * (0 : Int) + 1 < σ 82 3)) ∨ ((0 : Int) = 1 ∧ (0 : Int) = 0 ∧ (0 : Int) = 0 ∧ 0 < n ∧ σ 82 1 = 0) ∨ ((0 : Int) = 3 ∧ (0 : Int) = 0 ∧ (0 : Int) = 0 ∧ 0 < n ∧ ¬ σ 82 1 = 0 ∧ ¬ σ 82 2 = l) from (by first | exact Or.inl ⟨rfl, by omega⟩ | exact Or.inr (Or.inl ⟨rfl, by omega, by omega⟩) | exact Or.inr (Or.inr (Or.inl ⟨rfl, by omega, by omega, by omega, by omega⟩)) | exact Or.inr (Or.inr (Or.inr ⟨rfl, by omega, by omega, by omega, by omega, by omega⟩)) | omega)) (show (0 : Int) = 1 ∨ (0 : Int) = 3 ∨ n = 0 ∨ (¬ σ 82 1 = 0 ∧ σ 82 2 = l) from (by first | exact Or.inl rfl | exact Or.inr (Or.inl rfl) | exact Or.inr (Or.inr (Or.inl (by omega))) | exact Or.inr (Or.inr (Or.inr ⟨by omega, by omega⟩)) | omega)) (show (0 : Int) ≤ n from by omega) (show (0 : Int) ≤ n from by omega) (show 0 ≤ k ∧ k ≤ 3 ∧ 0 ≤ l ∧ l ≤ 2 from by omega) (show σ201 23 4 = σ 23 4 from by omega) (show σ201 23 5 = σ 23 5 from by omega) (show ∀ gg qq rk : Nat → Int, RG 24 gg qq σ → CNR rk gg 28 σ → RDX rk (CC (82 + 1) σ) f gg qq (0 : Int).toNat σ201 ∧ ∀ x : Nat, (x : Int) < (0 : Int) → rdF (σ 82 3) f x ∧ rdO (wW 1 σ) rk (CC (82 + 1) σ) f gg x = 0 from (fun gg qq rk H C => ⟨RDX_F (i := 0) ⟨H, C⟩ (fun c j a b => ((hGσ201 c j (show ¬ ((47 ≤ c ∧ c < 55)) from by omega)))), fun x hx => by exfalso; omega⟩)) (Nat.lt_succ_self _)
                · refine j_iconst (pc := 69) dX11_read_69 ?_
                  refine j_goto (pc := 70) (tgt := 74) dX11_read_70 rfl ?_
                  refine j_istore (pc := 74) (i := 6) (ls' := [(0, vR 0), (3, vI f), (4, vI n), (5, vR 82), (6, vI 3), (7, vI 0)]) [1, 3, 4, 5, 0, 6] dX11_read_74 (Nat.le_of_ble_eq_true rfl) rfl rfl ?_
                  refine j_aload_n (pc := 76) dX11_read_76 rfl rfl ?_
                  refine j_getR (pc := 77) (r := 47) fl_X11_36 dX11_read_77 (a_0 hX) rfl ?_
                  refine j_aload_n (pc := 80) dX11_read_80 rfl rfl ?_
                  refine j_getR (pc := 81) (r := 23) fl_X11_26 dX11_read_81 (a_0 hX) rfl ?_
                  refine j_callV (pc := 84) (As := [vR 23]) (st := []) (c_X3_copyOf 47 (s_Hand_47 hX) 23 (s_Hand_23 hX) σ hI (by omega)) mv_X11_398 rfl rfl rfl (a_47 hX) dX11_read_84 ⟨Nat.le_of_ble_eq_true rfl, Nat.le_of_ble_eq_true rfl⟩ ⟨Nat.le_refl _, Nat.le_refl _⟩ rfl (Nat.le_of_ble_eq_true rfl) rfl (fun z218 σ219 hz218 => ?_)
                  obtain ⟨rfl, hIσ219, hGσ219, q220_0, q220_1, q220_2, q220_3, q220_4⟩ := hz218
                  replace q220_0 : σ219 53 0 = σ 29 0 := q220_0
                  replace q220_1 : σ219 54 0 = σ 30 0 := q220_1
                  replace q220_2 : σ219 53 1 = σ 29 1 := q220_2
                  replace q220_3 : σ219 54 1 = σ 30 1 := q220_3
                  replace q220_4 : CPY 47 23 σ σ219 := q220_4
                  have hFσ219 : tw_F (fun c j => (23 ≤ c ∧ c < 31) ∨ (47 ≤ c ∧ c < 55) ∨ (c = 0 ∧ (j = 14))) σ σ219 := tw_F_tr (tw_F_rf) hGσ219 (fun c j q => (show (23 ≤ c ∧ c < 31) ∨ (47 ≤ c ∧ c < 55) ∨ (c = 0 ∧ (j = 14)) from by replace q : (47 ≤ c ∧ c < 55) := q; exact (Or.inr (Or.inl q))))
                  refine j_st (st' := []) rfl ?_
                  have cp9 := q220_4
                  refine j_iconst (pc := 87) dX11_read_87 ?_
                  refine j_istore (pc := 88) (i := 8) (ls' := [(0, vR 0), (3, vI f), (4, vI n), (5, vR 82), (6, vI 3), (7, vI 0), (8, vI 0)]) [1, 2, 3, 4, 5, 6, 0] dX11_read_88 (Nat.le_of_ble_eq_true rfl) rfl rfl ?_
                  refine j_ls (ls' := [(0, vR 0), (3, vI f), (4, vI n), (5, vR 82), (6, vI 3), (7, vI 0), (8, vI 0)]) [0, 1, 2, 3, 4, 5, 6] rfl ?_
                  have y222 : σ219 29 0 = σ 29 0 := (hGσ219 29 0 (show ¬ ((47 ≤ 29 ∧ 29 < 55)) from by decide))
                  have f223 : (0 : Int) ≤ σ 29 0 ∧ σ 29 0 ≤ 999 := hI 29 0
                  have y224 : σ219 30 0 = σ 30 0 := (hGσ219 30 0 (show ¬ ((47 ≤ 30 ∧ 30 < 55)) from by decide))
                  have f225 : (-2147483648 : Int) ≤ σ 30 0 ∧ σ 30 0 ≤ 2147483647 := hI 30 0
                  have y226 : σ219 29 1 = σ 29 1 := (hGσ219 29 1 (show ¬ ((47 ≤ 29 ∧ 29 < 55)) from by decide))
                  have f227 : (0 : Int) ≤ σ 29 1 ∧ σ 29 1 ≤ 999 := hI 29 1
                  have y228 : σ219 30 1 = σ 30 1 := (hGσ219 30 1 (show ¬ ((47 ≤ 30 ∧ 30 < 55)) from by decide))
                  have f229 : (-2147483648 : Int) ≤ σ 30 1 ∧ σ 30 1 ≤ 2147483647 := hI 30 1
                  have y230 : σ219 0 14 = σ 0 14 := (hGσ219 0 14 (show ¬ ((47 ≤ 0 ∧ 0 < 55)) from by decide))
                  have f231 : (-2147483648 : Int) ≤ σ 0 14 ∧ σ 0 14 ≤ 2147483647 := hI 0 14
                  have y232 : σ219 23 4 = σ 23 4 := (hGσ219 23 4 (show ¬ ((47 ≤ 23 ∧ 23 < 55)) from by decide))
                  have f233 : (-2147483648 : Int) ≤ σ 23 4 ∧ σ 23 4 ≤ 2147483647 := hI 23 4
                  have y234 : σ219 23 5 = σ 23 5 := (hGσ219 23 5 (show ¬ ((47 ≤ 23 ∧ 23 < 55)) from by decide))
                  have f235 : (-2147483648 : Int) ≤ σ 23 5 ∧ σ 23 5 ≤ 2147483647 := hI 23 5
                  exact (l_X11_read hX k hk l hl f hf n hn σ hI (((10 - (0 : Int)).toNat) + 1)) 82 (s_Sheet_82 hX) 3 (by (first | decide | exact ⟨by omega, by omega⟩)) 0 (by (first | decide | exact ⟨by omega, by omega⟩)) 0 (by (first | decide | exact ⟨by omega, by omega⟩)) σ219 hIσ219 hFσ219 (show (0 : Int) ≤ (0 : Int) from by omega) (show n ≤ 10 from by omega) (show 0 ≤ n from by omega) (show σ219 29 0 = σ 29 0 from by omega) (show σ219 30 0 = σ 30 0 from by omega) (show σ219 29 1 = σ 29 1 from by omega) (show σ219 30 1 = σ 30 1 from by omega) (show σ219 53 0 = σ 29 0 from by omega) (show σ219 54 0 = σ 30 0 from by omega) (show σ219 53 1 = σ 29 1 from by omega) (show σ219 54 1 = σ 30 1 from by omega) (show (82 : Int) = 80 + 2 * k from by omega) (show CPY 47 23 σ σ219 from cp9) (show σ219 0 14 = σ 0 14 from by omega) (show ((3 : Int) = 0 ∧ (0 : Int) = (0 : Int)) ∨ ((3 : Int) = 2 ∧ (0 : Int) + 1 = (0 : Int) ∧ ¬ (0 ≤ f + 2 * (0 : Int) ∧ f + 2 * (0 : Int) + 1 < σ 82 3)) ∨ ((3 : Int) = 1 ∧ (0 : Int) = 0 ∧ (0 : Int) = 0 ∧ 0 < n ∧ σ 82 1 = 0) ∨ ((3 : Int) = 3 ∧ (0 : Int) = 0 ∧ (0 : Int) = 0 ∧ 0 < n ∧ ¬ σ 82 1 = 0 ∧ ¬ σ 82 2 = l) from (by first | exact Or.inl ⟨rfl, by omega⟩ | exact Or.inr (Or.inl ⟨rfl, by omega, by omega⟩) | exact Or.inr (Or.inr (Or.inl ⟨rfl, by omega, by omega, by omega, by omega⟩)) | exact Or.inr (Or.inr (Or.inr ⟨rfl, by omega, by omega, by omega, by omega, by omega⟩)) | omega)) (show (3 : Int) = 1 ∨ (3 : Int) = 3 ∨ n = 0 ∨ (¬ σ 82 1 = 0 ∧ σ 82 2 = l) from (by first | exact Or.inl rfl | exact Or.inr (Or.inl rfl) | exact Or.inr (Or.inr (Or.inl (by omega))) | exact Or.inr (Or.inr (Or.inr ⟨by omega, by omega⟩)) | omega)) (show (0 : Int) ≤ n from by omega) (show (0 : Int) ≤ n from by omega) (show 0 ≤ k ∧ k ≤ 3 ∧ 0 ≤ l ∧ l ≤ 2 from by omega) (show σ219 23 4 = σ 23 4 from by omega) (show σ219 23 5 = σ 23 5 from by omega) (show ∀ gg qq rk : Nat → Int, RG 24 gg qq σ → CNR rk gg 28 σ → RDX rk (CC (82 + 1) σ) f gg qq (0 : Int).toNat σ219 ∧ ∀ x : Nat, (x : Int) < (0 : Int) → rdF (σ 82 3) f x ∧ rdO (wW 1 σ) rk (CC (82 + 1) σ) f gg x = 0 from (fun gg qq rk H C => ⟨RDX_F (i := 0) ⟨H, C⟩ (fun c j a b => ((hGσ219 c j (show ¬ ((47 ≤ c ∧ c < 55)) from by omega)))), fun x hx => by exfalso; omega⟩)) (Nat.lt_succ_self _)
              · refine j_iconst (pc := 56) dX11_read_56 ?_
                refine j_goto (pc := 57) (tgt := 74) dX11_read_57 rfl ?_
                refine j_istore (pc := 74) (i := 6) (ls' := [(0, vR 0), (3, vI f), (4, vI n), (5, vR 82), (6, vI 1), (7, vI 0)]) [1, 3, 4, 5, 0, 6] dX11_read_74 (Nat.le_of_ble_eq_true rfl) rfl rfl ?_
                refine j_aload_n (pc := 76) dX11_read_76 rfl rfl ?_
                refine j_getR (pc := 77) (r := 47) fl_X11_36 dX11_read_77 (a_0 hX) rfl ?_
                refine j_aload_n (pc := 80) dX11_read_80 rfl rfl ?_
                refine j_getR (pc := 81) (r := 23) fl_X11_26 dX11_read_81 (a_0 hX) rfl ?_
                refine j_callV (pc := 84) (As := [vR 23]) (st := []) (c_X3_copyOf 47 (s_Hand_47 hX) 23 (s_Hand_23 hX) σ hI (by omega)) mv_X11_398 rfl rfl rfl (a_47 hX) dX11_read_84 ⟨Nat.le_of_ble_eq_true rfl, Nat.le_of_ble_eq_true rfl⟩ ⟨Nat.le_refl _, Nat.le_refl _⟩ rfl (Nat.le_of_ble_eq_true rfl) rfl (fun z236 σ237 hz236 => ?_)
                obtain ⟨rfl, hIσ237, hGσ237, q238_0, q238_1, q238_2, q238_3, q238_4⟩ := hz236
                replace q238_0 : σ237 53 0 = σ 29 0 := q238_0
                replace q238_1 : σ237 54 0 = σ 30 0 := q238_1
                replace q238_2 : σ237 53 1 = σ 29 1 := q238_2
                replace q238_3 : σ237 54 1 = σ 30 1 := q238_3
                replace q238_4 : CPY 47 23 σ σ237 := q238_4
                have hFσ237 : tw_F (fun c j => (23 ≤ c ∧ c < 31) ∨ (47 ≤ c ∧ c < 55) ∨ (c = 0 ∧ (j = 14))) σ σ237 := tw_F_tr (tw_F_rf) hGσ237 (fun c j q => (show (23 ≤ c ∧ c < 31) ∨ (47 ≤ c ∧ c < 55) ∨ (c = 0 ∧ (j = 14)) from by replace q : (47 ≤ c ∧ c < 55) := q; exact (Or.inr (Or.inl q))))
                refine j_st (st' := []) rfl ?_
                have cp9 := q238_4
                refine j_iconst (pc := 87) dX11_read_87 ?_
                refine j_istore (pc := 88) (i := 8) (ls' := [(0, vR 0), (3, vI f), (4, vI n), (5, vR 82), (6, vI 1), (7, vI 0), (8, vI 0)]) [1, 2, 3, 4, 5, 6, 0] dX11_read_88 (Nat.le_of_ble_eq_true rfl) rfl rfl ?_
                refine j_ls (ls' := [(0, vR 0), (3, vI f), (4, vI n), (5, vR 82), (6, vI 1), (7, vI 0), (8, vI 0)]) [0, 1, 2, 3, 4, 5, 6] rfl ?_
                have y240 : σ237 29 0 = σ 29 0 := (hGσ237 29 0 (show ¬ ((47 ≤ 29 ∧ 29 < 55)) from by decide))
                have f241 : (0 : Int) ≤ σ 29 0 ∧ σ 29 0 ≤ 999 := hI 29 0
                have y242 : σ237 30 0 = σ 30 0 := (hGσ237 30 0 (show ¬ ((47 ≤ 30 ∧ 30 < 55)) from by decide))
                have f243 : (-2147483648 : Int) ≤ σ 30 0 ∧ σ 30 0 ≤ 2147483647 := hI 30 0
                have y244 : σ237 29 1 = σ 29 1 := (hGσ237 29 1 (show ¬ ((47 ≤ 29 ∧ 29 < 55)) from by decide))
                have f245 : (0 : Int) ≤ σ 29 1 ∧ σ 29 1 ≤ 999 := hI 29 1
                have y246 : σ237 30 1 = σ 30 1 := (hGσ237 30 1 (show ¬ ((47 ≤ 30 ∧ 30 < 55)) from by decide))
                have f247 : (-2147483648 : Int) ≤ σ 30 1 ∧ σ 30 1 ≤ 2147483647 := hI 30 1
                have y248 : σ237 0 14 = σ 0 14 := (hGσ237 0 14 (show ¬ ((47 ≤ 0 ∧ 0 < 55)) from by decide))
                have f249 : (-2147483648 : Int) ≤ σ 0 14 ∧ σ 0 14 ≤ 2147483647 := hI 0 14
                have y250 : σ237 23 4 = σ 23 4 := (hGσ237 23 4 (show ¬ ((47 ≤ 23 ∧ 23 < 55)) from by decide))
                have f251 : (-2147483648 : Int) ≤ σ 23 4 ∧ σ 23 4 ≤ 2147483647 := hI 23 4
                have y252 : σ237 23 5 = σ 23 5 := (hGσ237 23 5 (show ¬ ((47 ≤ 23 ∧ 23 < 55)) from by decide))
                have f253 : (-2147483648 : Int) ≤ σ 23 5 ∧ σ 23 5 ≤ 2147483647 := hI 23 5
                exact (l_X11_read hX k hk l hl f hf n hn σ hI (((10 - (0 : Int)).toNat) + 1)) 82 (s_Sheet_82 hX) 1 (by (first | decide | exact ⟨by omega, by omega⟩)) 0 (by (first | decide | exact ⟨by omega, by omega⟩)) 0 (by (first | decide | exact ⟨by omega, by omega⟩)) σ237 hIσ237 hFσ237 (show (0 : Int) ≤ (0 : Int) from by omega) (show n ≤ 10 from by omega) (show 0 ≤ n from by omega) (show σ237 29 0 = σ 29 0 from by omega) (show σ237 30 0 = σ 30 0 from by omega) (show σ237 29 1 = σ 29 1 from by omega) (show σ237 30 1 = σ 30 1 from by omega) (show σ237 53 0 = σ 29 0 from by omega) (show σ237 54 0 = σ 30 0 from by omega) (show σ237 53 1 = σ 29 1 from by omega) (show σ237 54 1 = σ 30 1 from by omega) (show (82 : Int) = 80 + 2 * k from by omega) (show CPY 47 23 σ σ237 from cp9) (show σ237 0 14 = σ 0 14 from by omega) (show ((1 : Int) = 0 ∧ (0 : Int) = (0 : Int)) ∨ ((1 : Int) = 2 ∧ (0 : Int) + 1 = (0 : Int) ∧ ¬ (0 ≤ f + 2 * (0 : Int) ∧ f + 2 * (0 : Int) + 1 < σ 82 3)) ∨ ((1 : Int) = 1 ∧ (0 : Int) = 0 ∧ (0 : Int) = 0 ∧ 0 < n ∧ σ 82 1 = 0) ∨ ((1 : Int) = 3 ∧ (0 : Int) = 0 ∧ (0 : Int) = 0 ∧ 0 < n ∧ ¬ σ 82 1 = 0 ∧ ¬ σ 82 2 = l) from (by first | exact Or.inl ⟨rfl, by omega⟩ | exact Or.inr (Or.inl ⟨rfl, by omega, by omega⟩) | exact Or.inr (Or.inr (Or.inl ⟨rfl, by omega, by omega, by omega, by omega⟩)) | exact Or.inr (Or.inr (Or.inr ⟨rfl, by omega, by omega, by omega, by omega, by omega⟩)) | omega)) (show (1 : Int) = 1 ∨ (1 : Int) = 3 ∨ n = 0 ∨ (¬ σ 82 1 = 0 ∧ σ 82 2 = l) from (by first | exact Or.inl rfl | exact Or.inr (Or.inl rfl) | exact Or.inr (Or.inr (Or.inl (by omega))) | exact Or.inr (Or.inr (Or.inr ⟨by omega, by omega⟩)) | omega)) (show (0 : Int) ≤ n from by omega) (show (0 : Int) ≤ n from by omega) (show 0 ≤ k ∧ k ≤ 3 ∧ 0 ≤ l ∧ l ≤ 2 from by omega) (show σ237 23 4 = σ 23 4 from by omega) (show σ237 23 5 = σ 23 5 from by omega) (show ∀ gg qq rk : Nat → Int, RG 24 gg qq σ → CNR rk gg 28 σ → RDX rk (CC (82 + 1) σ) f gg qq (0 : Int).toNat σ237 ∧ ∀ x : Nat, (x : Int) < (0 : Int) → rdF (σ 82 3) f x ∧ rdO (wW 1 σ) rk (CC (82 + 1) σ) f gg x = 0 from (fun gg qq rk H C => ⟨RDX_F (i := 0) ⟨H, C⟩ (fun c j a b => ((hGσ237 c j (show ¬ ((47 ≤ c ∧ c < 55)) from by omega)))), fun x hx => by exfalso; omega⟩)) (Nat.lt_succ_self _)
          · refine j_aald (pc := 34) (r := 84) dX11_read_34 (a_79 hX) (by omega) (by rw [h99]; decide) (by rw [h99]; rfl) (by decide) ?_
            refine j_astore (pc := 35) (i := 5) (ls' := [(0, vR 0), (2, vI l), (3, vI f), (4, vI n), (5, vR 84)]) [1, 3, 4, 5, 0] dX11_read_35 (Nat.le_of_ble_eq_true rfl) rfl rfl ?_
            refine j_iconst (pc := 37) dX11_read_37 ?_
            refine j_istore (pc := 38) (i := 6) (ls' := [(0, vR 0), (2, vI l), (3, vI f), (4, vI n), (5, vR 84), (6, vI 0)]) [1, 2, 3, 4, 5, 0] dX11_read_38 (Nat.le_of_ble_eq_true rfl) rfl rfl ?_
            refine j_iconst (pc := 40) dX11_read_40 ?_
            refine j_istore (pc := 41) (i := 7) (ls' := [(0, vR 0), (2, vI l), (3, vI f), (4, vI n), (5, vR 84), (6, vI 0), (7, vI 0)]) [1, 2, 3, 4, 5, 6, 0] dX11_read_41 (Nat.le_of_ble_eq_true rfl) rfl rfl ?_
            refine j_iload (pc := 43) dX11_read_43 rfl ?_
            refine j_ifR_le (pc := 45) (tgt := 76) ⟨by omega, by omega⟩ dX11_read_45 rfl (fun h254 => ?_) (fun h254 => ?_)
            · refine j_aload_n (pc := 76) dX11_read_76 rfl rfl ?_
              refine j_getR (pc := 77) (r := 47) fl_X11_36 dX11_read_77 (a_0 hX) rfl ?_
              refine j_aload_n (pc := 80) dX11_read_80 rfl rfl ?_
              refine j_getR (pc := 81) (r := 23) fl_X11_26 dX11_read_81 (a_0 hX) rfl ?_
              refine j_callV (pc := 84) (As := [vR 23]) (st := []) (c_X3_copyOf 47 (s_Hand_47 hX) 23 (s_Hand_23 hX) σ hI (by omega)) mv_X11_398 rfl rfl rfl (a_47 hX) dX11_read_84 ⟨Nat.le_of_ble_eq_true rfl, Nat.le_of_ble_eq_true rfl⟩ ⟨Nat.le_refl _, Nat.le_refl _⟩ rfl (Nat.le_of_ble_eq_true rfl) rfl (fun z255 σ256 hz255 => ?_)
              obtain ⟨rfl, hIσ256, hGσ256, q257_0, q257_1, q257_2, q257_3, q257_4⟩ := hz255
              replace q257_0 : σ256 53 0 = σ 29 0 := q257_0
              replace q257_1 : σ256 54 0 = σ 30 0 := q257_1
              replace q257_2 : σ256 53 1 = σ 29 1 := q257_2
              replace q257_3 : σ256 54 1 = σ 30 1 := q257_3
              replace q257_4 : CPY 47 23 σ σ256 := q257_4
              have hFσ256 : tw_F (fun c j => (23 ≤ c ∧ c < 31) ∨ (47 ≤ c ∧ c < 55) ∨ (c = 0 ∧ (j = 14))) σ σ256 := tw_F_tr (tw_F_rf) hGσ256 (fun c j q => (show (23 ≤ c ∧ c < 31) ∨ (47 ≤ c ∧ c < 55) ∨ (c = 0 ∧ (j = 14)) from by replace q : (47 ≤ c ∧ c < 55) := q; exact (Or.inr (Or.inl q))))
              refine j_st (st' := []) rfl ?_
              have cp9 := q257_4
              refine j_iconst (pc := 87) dX11_read_87 ?_
              refine j_istore (pc := 88) (i := 8) (ls' := [(0, vR 0), (3, vI f), (4, vI n), (5, vR 84), (6, vI 0), (7, vI 0), (8, vI 0)]) [1, 3, 4, 5, 6, 7, 0] dX11_read_88 (Nat.le_of_ble_eq_true rfl) rfl rfl ?_
              refine j_ls (ls' := [(0, vR 0), (3, vI f), (4, vI n), (5, vR 84), (6, vI 0), (7, vI 0), (8, vI 0)]) [0, 1, 2, 3, 4, 5, 6] rfl ?_
              have y259 : σ256 29 0 = σ 29 0 := (hGσ256 29 0 (show ¬ ((47 ≤ 29 ∧ 29 < 55)) from by decide))
              have f260 : (0 : Int) ≤ σ 29 0 ∧ σ 29 0 ≤ 999 := hI 29 0
              have y261 : σ256 30 0 = σ 30 0 := (hGσ256 30 0 (show ¬ ((47 ≤ 30 ∧ 30 < 55)) from by decide))
              have f262 : (-2147483648 : Int) ≤ σ 30 0 ∧ σ 30 0 ≤ 2147483647 := hI 30 0
              have y263 : σ256 29 1 = σ 29 1 := (hGσ256 29 1 (show ¬ ((47 ≤ 29 ∧ 29 < 55)) from by decide))
              have f264 : (0 : Int) ≤ σ 29 1 ∧ σ 29 1 ≤ 999 := hI 29 1
              have y265 : σ256 30 1 = σ 30 1 := (hGσ256 30 1 (show ¬ ((47 ≤ 30 ∧ 30 < 55)) from by decide))
              have f266 : (-2147483648 : Int) ≤ σ 30 1 ∧ σ 30 1 ≤ 2147483647 := hI 30 1
              have y267 : σ256 0 14 = σ 0 14 := (hGσ256 0 14 (show ¬ ((47 ≤ 0 ∧ 0 < 55)) from by decide))
              have f268 : (-2147483648 : Int) ≤ σ 0 14 ∧ σ 0 14 ≤ 2147483647 := hI 0 14
              have y269 : σ256 23 4 = σ 23 4 := (hGσ256 23 4 (show ¬ ((47 ≤ 23 ∧ 23 < 55)) from by decide))
              have f270 : (-2147483648 : Int) ≤ σ 23 4 ∧ σ 23 4 ≤ 2147483647 := hI 23 4
              have y271 : σ256 23 5 = σ 23 5 := (hGσ256 23 5 (show ¬ ((47 ≤ 23 ∧ 23 < 55)) from by decide))
              have f272 : (-2147483648 : Int) ≤ σ 23 5 ∧ σ 23 5 ≤ 2147483647 := hI 23 5
              exact (l_X11_read hX k hk l hl f hf n hn σ hI (((10 - (0 : Int)).toNat) + 1)) 84 (s_Sheet_84 hX) 0 (by (first | decide | exact ⟨by omega, by omega⟩)) 0 (by (first | decide | exact ⟨by omega, by omega⟩)) 0 (by (first | decide | exact ⟨by omega, by omega⟩)) σ256 hIσ256 hFσ256 (show (0 : Int) ≤ (0 : Int) from by omega) (show n ≤ 10 from by omega) (show 0 ≤ n from by omega) (show σ256 29 0 = σ 29 0 from by omega) (show σ256 30 0 = σ 30 0 from by omega) (show σ256 29 1 = σ 29 1 from by omega) (show σ256 30 1 = σ 30 1 from by omega) (show σ256 53 0 = σ 29 0 from by omega) (show σ256 54 0 = σ 30 0 from by omega) (show σ256 53 1 = σ 29 1 from by omega) (show σ256 54 1 = σ 30 1 from by omega) (show (84 : Int) = 80 + 2 * k from by omega) (show CPY 47 23 σ σ256 from cp9) (show σ256 0 14 = σ 0 14 from by omega) (show ((0 : Int) = 0 ∧ (0 : Int) = (0 : Int)) ∨ ((0 : Int) = 2 ∧ (0 : Int) + 1 = (0 : Int) ∧ ¬ (0 ≤ f + 2 * (0 : Int) ∧ f + 2 * (0 : Int) + 1 < σ 84 3)) ∨ ((0 : Int) = 1 ∧ (0 : Int) = 0 ∧ (0 : Int) = 0 ∧ 0 < n ∧ σ 84 1 = 0) ∨ ((0 : Int) = 3 ∧ (0 : Int) = 0 ∧ (0 : Int) = 0 ∧ 0 < n ∧ ¬ σ 84 1 = 0 ∧ ¬ σ 84 2 = l) from (by first | exact Or.inl ⟨rfl, by omega⟩ | exact Or.inr (Or.inl ⟨rfl, by omega, by omega⟩) | exact Or.inr (Or.inr (Or.inl ⟨rfl, by omega, by omega, by omega, by omega⟩)) | exact Or.inr (Or.inr (Or.inr ⟨rfl, by omega, by omega, by omega, by omega, by omega⟩)) | omega)) (show (0 : Int) = 1 ∨ (0 : Int) = 3 ∨ n = 0 ∨ (¬ σ 84 1 = 0 ∧ σ 84 2 = l) from (by first | exact Or.inl rfl | exact Or.inr (Or.inl rfl) | exact Or.inr (Or.inr (Or.inl (by omega))) | exact Or.inr (Or.inr (Or.inr ⟨by omega, by omega⟩)) | omega)) (show (0 : Int) ≤ n from by omega) (show (0 : Int) ≤ n from by omega) (show 0 ≤ k ∧ k ≤ 3 ∧ 0 ≤ l ∧ l ≤ 2 from by omega) (show σ256 23 4 = σ 23 4 from by omega) (show σ256 23 5 = σ 23 5 from by omega) (show ∀ gg qq rk : Nat → Int, RG 24 gg qq σ → CNR rk gg 28 σ → RDX rk (CC (84 + 1) σ) f gg qq (0 : Int).toNat σ256 ∧ ∀ x : Nat, (x : Int) < (0 : Int) → rdF (σ 84 3) f x ∧ rdO (wW 1 σ) rk (CC (84 + 1) σ) f gg x = 0 from (fun gg qq rk H C => ⟨RDX_F (i := 0) ⟨H, C⟩ (fun c j a b => ((hGσ256 c j (show ¬ ((47 ≤ c ∧ c < 55)) from by omega)))), fun x hx => by exfalso; omega⟩)) (Nat.lt_succ_self _)
            · refine j_aload (pc := 48) dX11_read_48 rfl ?_
              refine j_getI (pc := 50) fl_X11_409 dX11_read_50 (a_84 hX) rfl ?_
              have f273 : (0 : Int) ≤ σ 84 1 ∧ σ 84 1 ≤ 1 := hI 84 1
              refine j_ifR_ne (pc := 53) (tgt := 60) ⟨by omega, by omega⟩ dX11_read_53 rfl (fun h274 => ?_) (fun h274 => ?_)
              · refine j_aload (pc := 60) dX11_read_60 rfl ?_
                refine j_getI (pc := 62) fl_X11_416 dX11_read_62 (a_84 hX) rfl ?_
                have f275 : (-2147483648 : Int) ≤ σ 84 2 ∧ σ 84 2 ≤ 2147483647 := hI 84 2
                refine j_iload_n (pc := 65) dX11_read_65 rfl rfl ?_
                refine j_icmpR_eq (pc := 66) (tgt := 73) ⟨by omega, by omega⟩ ⟨by omega, by omega⟩ dX11_read_66 rfl (fun h276 => ?_) (fun h276 => ?_)
                · refine j_iconst (pc := 73) dX11_read_73 ?_
                  refine j_istore (pc := 74) (i := 6) (ls' := [(0, vR 0), (3, vI f), (4, vI n), (5, vR 84), (6, vI 0), (7, vI 0)]) [1, 3, 4, 5, 0, 6] dX11_read_74 (Nat.le_of_ble_eq_true rfl) rfl rfl ?_
                  refine j_aload_n (pc := 76) dX11_read_76 rfl rfl ?_
                  refine j_getR (pc := 77) (r := 47) fl_X11_36 dX11_read_77 (a_0 hX) rfl ?_
                  refine j_aload_n (pc := 80) dX11_read_80 rfl rfl ?_
                  refine j_getR (pc := 81) (r := 23) fl_X11_26 dX11_read_81 (a_0 hX) rfl ?_
                  refine j_callV (pc := 84) (As := [vR 23]) (st := []) (c_X3_copyOf 47 (s_Hand_47 hX) 23 (s_Hand_23 hX) σ hI (by omega)) mv_X11_398 rfl rfl rfl (a_47 hX) dX11_read_84 ⟨Nat.le_of_ble_eq_true rfl, Nat.le_of_ble_eq_true rfl⟩ ⟨Nat.le_refl _, Nat.le_refl _⟩ rfl (Nat.le_of_ble_eq_true rfl) rfl (fun z277 σ278 hz277 => ?_)
                  obtain ⟨rfl, hIσ278, hGσ278, q279_0, q279_1, q279_2, q279_3, q279_4⟩ := hz277
                  replace q279_0 : σ278 53 0 = σ 29 0 := q279_0
                  replace q279_1 : σ278 54 0 = σ 30 0 := q279_1
                  replace q279_2 : σ278 53 1 = σ 29 1 := q279_2
                  replace q279_3 : σ278 54 1 = σ 30 1 := q279_3
                  replace q279_4 : CPY 47 23 σ σ278 := q279_4
                  have hFσ278 : tw_F (fun c j => (23 ≤ c ∧ c < 31) ∨ (47 ≤ c ∧ c < 55) ∨ (c = 0 ∧ (j = 14))) σ σ278 := tw_F_tr (tw_F_rf) hGσ278 (fun c j q => (show (23 ≤ c ∧ c < 31) ∨ (47 ≤ c ∧ c < 55) ∨ (c = 0 ∧ (j = 14)) from by replace q : (47 ≤ c ∧ c < 55) := q; exact (Or.inr (Or.inl q))))
                  refine j_st (st' := []) rfl ?_
                  have cp9 := q279_4
                  refine j_iconst (pc := 87) dX11_read_87 ?_
                  refine j_istore (pc := 88) (i := 8) (ls' := [(0, vR 0), (3, vI f), (4, vI n), (5, vR 84), (6, vI 0), (7, vI 0), (8, vI 0)]) [1, 2, 3, 4, 5, 6, 0] dX11_read_88 (Nat.le_of_ble_eq_true rfl) rfl rfl ?_
                  refine j_ls (ls' := [(0, vR 0), (3, vI f), (4, vI n), (5, vR 84), (6, vI 0), (7, vI 0), (8, vI 0)]) [0, 1, 2, 3, 4, 5, 6] rfl ?_
                  have y281 : σ278 29 0 = σ 29 0 := (hGσ278 29 0 (show ¬ ((47 ≤ 29 ∧ 29 < 55)) from by decide))
                  have f282 : (0 : Int) ≤ σ 29 0 ∧ σ 29 0 ≤ 999 := hI 29 0
                  have y283 : σ278 30 0 = σ 30 0 := (hGσ278 30 0 (show ¬ ((47 ≤ 30 ∧ 30 < 55)) from by decide))
                  have f284 : (-2147483648 : Int) ≤ σ 30 0 ∧ σ 30 0 ≤ 2147483647 := hI 30 0
                  have y285 : σ278 29 1 = σ 29 1 := (hGσ278 29 1 (show ¬ ((47 ≤ 29 ∧ 29 < 55)) from by decide))
                  have f286 : (0 : Int) ≤ σ 29 1 ∧ σ 29 1 ≤ 999 := hI 29 1
                  have y287 : σ278 30 1 = σ 30 1 := (hGσ278 30 1 (show ¬ ((47 ≤ 30 ∧ 30 < 55)) from by decide))
                  have f288 : (-2147483648 : Int) ≤ σ 30 1 ∧ σ 30 1 ≤ 2147483647 := hI 30 1
                  have y289 : σ278 0 14 = σ 0 14 := (hGσ278 0 14 (show ¬ ((47 ≤ 0 ∧ 0 < 55)) from by decide))
                  have f290 : (-2147483648 : Int) ≤ σ 0 14 ∧ σ 0 14 ≤ 2147483647 := hI 0 14
                  have y291 : σ278 23 4 = σ 23 4 := (hGσ278 23 4 (show ¬ ((47 ≤ 23 ∧ 23 < 55)) from by decide))
                  have f292 : (-2147483648 : Int) ≤ σ 23 4 ∧ σ 23 4 ≤ 2147483647 := hI 23 4
                  have y293 : σ278 23 5 = σ 23 5 := (hGσ278 23 5 (show ¬ ((47 ≤ 23 ∧ 23 < 55)) from by decide))
                  have f294 : (-2147483648 : Int) ≤ σ 23 5 ∧ σ 23 5 ≤ 2147483647 := hI 23 5
                  exact (l_X11_read hX k hk l hl f hf n hn σ hI (((10 - (0 : Int)).toNat) + 1)) 84 (s_Sheet_84 hX) 0 (by (first | decide | exact ⟨by omega, by omega⟩)) 0 (by (first | decide | exact ⟨by omega, by omega⟩)) 0 (by (first | decide | exact ⟨by omega, by omega⟩)) σ278 hIσ278 hFσ278 (show (0 : Int) ≤ (0 : Int) from by omega) (show n ≤ 10 from by omega) (show 0 ≤ n from by omega) (show σ278 29 0 = σ 29 0 from by omega) (show σ278 30 0 = σ 30 0 from by omega) (show σ278 29 1 = σ 29 1 from by omega) (show σ278 30 1 = σ 30 1 from by omega) (show σ278 53 0 = σ 29 0 from by omega) (show σ278 54 0 = σ 30 0 from by omega) (show σ278 53 1 = σ 29 1 from by omega) (show σ278 54 1 = σ 30 1 from by omega) (show (84 : Int) = 80 + 2 * k from by omega) (show CPY 47 23 σ σ278 from cp9) (show σ278 0 14 = σ 0 14 from by omega) (show ((0 : Int) = 0 ∧ (0 : Int) = (0 : Int)) ∨ ((0 : Int) = 2 ∧ (0 : Int) + 1 = (0 : Int) ∧ ¬ (0 ≤ f + 2 * (0 : Int) ∧ f + 2 * (0 : Int) + 1 < σ 84 3)) ∨ ((0 : Int) = 1 ∧ (0 : Int) = 0 ∧ (0 : Int) = 0 ∧ 0 < n ∧ σ 84 1 = 0) ∨ ((0 : Int) = 3 ∧ (0 : Int) = 0 ∧ (0 : Int) = 0 ∧ 0 < n ∧ ¬ σ 84 1 = 0 ∧ ¬ σ 84 2 = l) from (by first | exact Or.inl ⟨rfl, by omega⟩ | exact Or.inr (Or.inl ⟨rfl, by omega, by omega⟩) | exact Or.inr (Or.inr (Or.inl ⟨rfl, by omega, by omega, by omega, by omega⟩)) | exact Or.inr (Or.inr (Or.inr ⟨rfl, by omega, by omega, by omega, by omega, by omega⟩)) | omega)) (show (0 : Int) = 1 ∨ (0 : Int) = 3 ∨ n = 0 ∨ (¬ σ 84 1 = 0 ∧ σ 84 2 = l) from (by first | exact Or.inl rfl | exact Or.inr (Or.inl rfl) | exact Or.inr (Or.inr (Or.inl (by omega))) | exact Or.inr (Or.inr (Or.inr ⟨by omega, by omega⟩)) | omega)) (show (0 : Int) ≤ n from by omega) (show (0 : Int) ≤ n from by omega) (show 0 ≤ k ∧ k ≤ 3 ∧ 0 ≤ l ∧ l ≤ 2 from by omega) (show σ278 23 4 = σ 23 4 from by omega) (show σ278 23 5 = σ 23 5 from by omega) (show ∀ gg qq rk : Nat → Int, RG 24 gg qq σ → CNR rk gg 28 σ → RDX rk (CC (84 + 1) σ) f gg qq (0 : Int).toNat σ278 ∧ ∀ x : Nat, (x : Int) < (0 : Int) → rdF (σ 84 3) f x ∧ rdO (wW 1 σ) rk (CC (84 + 1) σ) f gg x = 0 from (fun gg qq rk H C => ⟨RDX_F (i := 0) ⟨H, C⟩ (fun c j a b => ((hGσ278 c j (show ¬ ((47 ≤ c ∧ c < 55)) from by omega)))), fun x hx => by exfalso; omega⟩)) (Nat.lt_succ_self _)
                · refine j_iconst (pc := 69) dX11_read_69 ?_
                  refine j_goto (pc := 70) (tgt := 74) dX11_read_70 rfl ?_
                  refine j_istore (pc := 74) (i := 6) (ls' := [(0, vR 0), (3, vI f), (4, vI n), (5, vR 84), (6, vI 3), (7, vI 0)]) [1, 3, 4, 5, 0, 6] dX11_read_74 (Nat.le_of_ble_eq_true rfl) rfl rfl ?_
                  refine j_aload_n (pc := 76) dX11_read_76 rfl rfl ?_
                  refine j_getR (pc := 77) (r := 47) fl_X11_36 dX11_read_77 (a_0 hX) rfl ?_
                  refine j_aload_n (pc := 80) dX11_read_80 rfl rfl ?_
                  refine j_getR (pc := 81) (r := 23) fl_X11_26 dX11_read_81 (a_0 hX) rfl ?_
                  refine j_callV (pc := 84) (As := [vR 23]) (st := []) (c_X3_copyOf 47 (s_Hand_47 hX) 23 (s_Hand_23 hX) σ hI (by omega)) mv_X11_398 rfl rfl rfl (a_47 hX) dX11_read_84 ⟨Nat.le_of_ble_eq_true rfl, Nat.le_of_ble_eq_true rfl⟩ ⟨Nat.le_refl _, Nat.le_refl _⟩ rfl (Nat.le_of_ble_eq_true rfl) rfl (fun z295 σ296 hz295 => ?_)
                  obtain ⟨rfl, hIσ296, hGσ296, q297_0, q297_1, q297_2, q297_3, q297_4⟩ := hz295
                  replace q297_0 : σ296 53 0 = σ 29 0 := q297_0
                  replace q297_1 : σ296 54 0 = σ 30 0 := q297_1
                  replace q297_2 : σ296 53 1 = σ 29 1 := q297_2
                  replace q297_3 : σ296 54 1 = σ 30 1 := q297_3
                  replace q297_4 : CPY 47 23 σ σ296 := q297_4
                  have hFσ296 : tw_F (fun c j => (23 ≤ c ∧ c < 31) ∨ (47 ≤ c ∧ c < 55) ∨ (c = 0 ∧ (j = 14))) σ σ296 := tw_F_tr (tw_F_rf) hGσ296 (fun c j q => (show (23 ≤ c ∧ c < 31) ∨ (47 ≤ c ∧ c < 55) ∨ (c = 0 ∧ (j = 14)) from by replace q : (47 ≤ c ∧ c < 55) := q; exact (Or.inr (Or.inl q))))
                  refine j_st (st' := []) rfl ?_
                  have cp9 := q297_4
                  refine j_iconst (pc := 87) dX11_read_87 ?_
                  refine j_istore (pc := 88) (i := 8) (ls' := [(0, vR 0), (3, vI f), (4, vI n), (5, vR 84), (6, vI 3), (7, vI 0), (8, vI 0)]) [1, 2, 3, 4, 5, 6, 0] dX11_read_88 (Nat.le_of_ble_eq_true rfl) rfl rfl ?_
                  refine j_ls (ls' := [(0, vR 0), (3, vI f), (4, vI n), (5, vR 84), (6, vI 3), (7, vI 0), (8, vI 0)]) [0, 1, 2, 3, 4, 5, 6] rfl ?_
                  have y299 : σ296 29 0 = σ 29 0 := (hGσ296 29 0 (show ¬ ((47 ≤ 29 ∧ 29 < 55)) from by decide))
                  have f300 : (0 : Int) ≤ σ 29 0 ∧ σ 29 0 ≤ 999 := hI 29 0
                  have y301 : σ296 30 0 = σ 30 0 := (hGσ296 30 0 (show ¬ ((47 ≤ 30 ∧ 30 < 55)) from by decide))
                  have f302 : (-2147483648 : Int) ≤ σ 30 0 ∧ σ 30 0 ≤ 2147483647 := hI 30 0
                  have y303 : σ296 29 1 = σ 29 1 := (hGσ296 29 1 (show ¬ ((47 ≤ 29 ∧ 29 < 55)) from by decide))
                  have f304 : (0 : Int) ≤ σ 29 1 ∧ σ 29 1 ≤ 999 := hI 29 1
                  have y305 : σ296 30 1 = σ 30 1 := (hGσ296 30 1 (show ¬ ((47 ≤ 30 ∧ 30 < 55)) from by decide))
                  have f306 : (-2147483648 : Int) ≤ σ 30 1 ∧ σ 30 1 ≤ 2147483647 := hI 30 1
                  have y307 : σ296 0 14 = σ 0 14 := (hGσ296 0 14 (show ¬ ((47 ≤ 0 ∧ 0 < 55)) from by decide))
                  have f308 : (-2147483648 : Int) ≤ σ 0 14 ∧ σ 0 14 ≤ 2147483647 := hI 0 14
                  have y309 : σ296 23 4 = σ 23 4 := (hGσ296 23 4 (show ¬ ((47 ≤ 23 ∧ 23 < 55)) from by decide))
                  have f310 : (-2147483648 : Int) ≤ σ 23 4 ∧ σ 23 4 ≤ 2147483647 := hI 23 4
                  have y311 : σ296 23 5 = σ 23 5 := (hGσ296 23 5 (show ¬ ((47 ≤ 23 ∧ 23 < 55)) from by decide))
                  have f312 : (-2147483648 : Int) ≤ σ 23 5 ∧ σ 23 5 ≤ 2147483647 := hI 23 5
                  exact (l_X11_read hX k hk l hl f hf n hn σ hI (((10 - (0 : Int)).toNat) + 1)) 84 (s_Sheet_84 hX) 3 (by (first | decide | exact ⟨by omega, by omega⟩)) 0 (by (first | decide | exact ⟨by omega, by omega⟩)) 0 (by (first | decide | exact ⟨by omega, by omega⟩)) σ296 hIσ296 hFσ296 (show (0 : Int) ≤ (0 : Int) from by omega) (show n ≤ 10 from by omega) (show 0 ≤ n from by omega) (show σ296 29 0 = σ 29 0 from by omega) (show σ296 30 0 = σ 30 0 from by omega) (show σ296 29 1 = σ 29 1 from by omega) (show σ296 30 1 = σ 30 1 from by omega) (show σ296 53 0 = σ 29 0 from by omega) (show σ296 54 0 = σ 30 0 from by omega) (show σ296 53 1 = σ 29 1 from by omega) (show σ296 54 1 = σ 30 1 from by omega) (show (84 : Int) = 80 + 2 * k from by omega) (show CPY 47 23 σ σ296 from cp9) (show σ296 0 14 = σ 0 14 from by omega) (show ((3 : Int) = 0 ∧ (0 : Int) = (0 : Int)) ∨ ((3 : Int) = 2 ∧ (0 : Int) + 1 = (0 : Int) ∧ ¬ (0 ≤ f + 2 * (0 : Int) ∧ f + 2 * (0 : Int) + 1 < σ 84 3)) ∨ ((3 : Int) = 1 ∧ (0 : Int) = 0 ∧ (0 : Int) = 0 ∧ 0 < n ∧ σ 84 1 = 0) ∨ ((3 : Int) = 3 ∧ (0 : Int) = 0 ∧ (0 : Int) = 0 ∧ 0 < n ∧ ¬ σ 84 1 = 0 ∧ ¬ σ 84 2 = l) from (by first | exact Or.inl ⟨rfl, by omega⟩ | exact Or.inr (Or.inl ⟨rfl, by omega, by omega⟩) | exact Or.inr (Or.inr (Or.inl ⟨rfl, by omega, by omega, by omega, by omega⟩)) | exact Or.inr (Or.inr (Or.inr ⟨rfl, by omega, by omega, by omega, by omega, by omega⟩)) | omega)) (show (3 : Int) = 1 ∨ (3 : Int) = 3 ∨ n = 0 ∨ (¬ σ 84 1 = 0 ∧ σ 84 2 = l) from (by first | exact Or.inl rfl | exact Or.inr (Or.inl rfl) | exact Or.inr (Or.inr (Or.inl (by omega))) | exact Or.inr (Or.inr (Or.inr ⟨by omega, by omega⟩)) | omega)) (show (0 : Int) ≤ n from by omega) (show (0 : Int) ≤ n from by omega) (show 0 ≤ k ∧ k ≤ 3 ∧ 0 ≤ l ∧ l ≤ 2 from by omega) (show σ296 23 4 = σ 23 4 from by omega) (show σ296 23 5 = σ 23 5 from by omega) (show ∀ gg qq rk : Nat → Int, RG 24 gg qq σ → CNR rk gg 28 σ → RDX rk (CC (84 + 1) σ) f gg qq (0 : Int).toNat σ296 ∧ ∀ x : Nat, (x : Int) < (0 : Int) → rdF (σ 84 3) f x ∧ rdO (wW 1 σ) rk (CC (84 + 1) σ) f gg x = 0 from (fun gg qq rk H C => ⟨RDX_F (i := 0) ⟨H, C⟩ (fun c j a b => ((hGσ296 c j (show ¬ ((47 ≤ c ∧ c < 55)) from by omega)))), fun x hx => by exfalso; omega⟩)) (Nat.lt_succ_self _)
              · refine j_iconst (pc := 56) dX11_read_56 ?_
                refine j_goto (pc := 57) (tgt := 74) dX11_read_57 rfl ?_
                refine j_istore (pc := 74) (i := 6) (ls' := [(0, vR 0), (3, vI f), (4, vI n), (5, vR 84), (6, vI 1), (7, vI 0)]) [1, 3, 4, 5, 0, 6] dX11_read_74 (Nat.le_of_ble_eq_true rfl) rfl rfl ?_
                refine j_aload_n (pc := 76) dX11_read_76 rfl rfl ?_
                refine j_getR (pc := 77) (r := 47) fl_X11_36 dX11_read_77 (a_0 hX) rfl ?_
                refine j_aload_n (pc := 80) dX11_read_80 rfl rfl ?_
                refine j_getR (pc := 81) (r := 23) fl_X11_26 dX11_read_81 (a_0 hX) rfl ?_
                refine j_callV (pc := 84) (As := [vR 23]) (st := []) (c_X3_copyOf 47 (s_Hand_47 hX) 23 (s_Hand_23 hX) σ hI (by omega)) mv_X11_398 rfl rfl rfl (a_47 hX) dX11_read_84 ⟨Nat.le_of_ble_eq_true rfl, Nat.le_of_ble_eq_true rfl⟩ ⟨Nat.le_refl _, Nat.le_refl _⟩ rfl (Nat.le_of_ble_eq_true rfl) rfl (fun z313 σ314 hz313 => ?_)
                obtain ⟨rfl, hIσ314, hGσ314, q315_0, q315_1, q315_2, q315_3, q315_4⟩ := hz313
                replace q315_0 : σ314 53 0 = σ 29 0 := q315_0
                replace q315_1 : σ314 54 0 = σ 30 0 := q315_1
                replace q315_2 : σ314 53 1 = σ 29 1 := q315_2
                replace q315_3 : σ314 54 1 = σ 30 1 := q315_3
                replace q315_4 : CPY 47 23 σ σ314 := q315_4
                have hFσ314 : tw_F (fun c j => (23 ≤ c ∧ c < 31) ∨ (47 ≤ c ∧ c < 55) ∨ (c = 0 ∧ (j = 14))) σ σ314 := tw_F_tr (tw_F_rf) hGσ314 (fun c j q => (show (23 ≤ c ∧ c < 31) ∨ (47 ≤ c ∧ c < 55) ∨ (c = 0 ∧ (j = 14)) from by replace q : (47 ≤ c ∧ c < 55) := q; exact (Or.inr (Or.inl q))))
                refine j_st (st' := []) rfl ?_
                have cp9 := q315_4
                refine j_iconst (pc := 87) dX11_read_87 ?_
                refine j_istore (pc := 88) (i := 8) (ls' := [(0, vR 0), (3, vI f), (4, vI n), (5, vR 84), (6, vI 1), (7, vI 0), (8, vI 0)]) [1, 2, 3, 4, 5, 6, 0] dX11_read_88 (Nat.le_of_ble_eq_true rfl) rfl rfl ?_
                refine j_ls (ls' := [(0, vR 0), (3, vI f), (4, vI n), (5, vR 84), (6, vI 1), (7, vI 0), (8, vI 0)]) [0, 1, 2, 3, 4, 5, 6] rfl ?_
                have y317 : σ314 29 0 = σ 29 0 := (hGσ314 29 0 (show ¬ ((47 ≤ 29 ∧ 29 < 55)) from by decide))
                have f318 : (0 : Int) ≤ σ 29 0 ∧ σ 29 0 ≤ 999 := hI 29 0
                have y319 : σ314 30 0 = σ 30 0 := (hGσ314 30 0 (show ¬ ((47 ≤ 30 ∧ 30 < 55)) from by decide))
                have f320 : (-2147483648 : Int) ≤ σ 30 0 ∧ σ 30 0 ≤ 2147483647 := hI 30 0
                have y321 : σ314 29 1 = σ 29 1 := (hGσ314 29 1 (show ¬ ((47 ≤ 29 ∧ 29 < 55)) from by decide))
                have f322 : (0 : Int) ≤ σ 29 1 ∧ σ 29 1 ≤ 999 := hI 29 1
                have y323 : σ314 30 1 = σ 30 1 := (hGσ314 30 1 (show ¬ ((47 ≤ 30 ∧ 30 < 55)) from by decide))
                have f324 : (-2147483648 : Int) ≤ σ 30 1 ∧ σ 30 1 ≤ 2147483647 := hI 30 1
                have y325 : σ314 0 14 = σ 0 14 := (hGσ314 0 14 (show ¬ ((47 ≤ 0 ∧ 0 < 55)) from by decide))
                have f326 : (-2147483648 : Int) ≤ σ 0 14 ∧ σ 0 14 ≤ 2147483647 := hI 0 14
                have y327 : σ314 23 4 = σ 23 4 := (hGσ314 23 4 (show ¬ ((47 ≤ 23 ∧ 23 < 55)) from by decide))
                have f328 : (-2147483648 : Int) ≤ σ 23 4 ∧ σ 23 4 ≤ 2147483647 := hI 23 4
                have y329 : σ314 23 5 = σ 23 5 := (hGσ314 23 5 (show ¬ ((47 ≤ 23 ∧ 23 < 55)) from by decide))
                have f330 : (-2147483648 : Int) ≤ σ 23 5 ∧ σ 23 5 ≤ 2147483647 := hI 23 5
                exact (l_X11_read hX k hk l hl f hf n hn σ hI (((10 - (0 : Int)).toNat) + 1)) 84 (s_Sheet_84 hX) 1 (by (first | decide | exact ⟨by omega, by omega⟩)) 0 (by (first | decide | exact ⟨by omega, by omega⟩)) 0 (by (first | decide | exact ⟨by omega, by omega⟩)) σ314 hIσ314 hFσ314 (show (0 : Int) ≤ (0 : Int) from by omega) (show n ≤ 10 from by omega) (show 0 ≤ n from by omega) (show σ314 29 0 = σ 29 0 from by omega) (show σ314 30 0 = σ 30 0 from by omega) (show σ314 29 1 = σ 29 1 from by omega) (show σ314 30 1 = σ 30 1 from by omega) (show σ314 53 0 = σ 29 0 from by omega) (show σ314 54 0 = σ 30 0 from by omega) (show σ314 53 1 = σ 29 1 from by omega) (show σ314 54 1 = σ 30 1 from by omega) (show (84 : Int) = 80 + 2 * k from by omega) (show CPY 47 23 σ σ314 from cp9) (show σ314 0 14 = σ 0 14 from by omega) (show ((1 : Int) = 0 ∧ (0 : Int) = (0 : Int)) ∨ ((1 : Int) = 2 ∧ (0 : Int) + 1 = (0 : Int) ∧ ¬ (0 ≤ f + 2 * (0 : Int) ∧ f + 2 * (0 : Int) + 1 < σ 84 3)) ∨ ((1 : Int) = 1 ∧ (0 : Int) = 0 ∧ (0 : Int) = 0 ∧ 0 < n ∧ σ 84 1 = 0) ∨ ((1 : Int) = 3 ∧ (0 : Int) = 0 ∧ (0 : Int) = 0 ∧ 0 < n ∧ ¬ σ 84 1 = 0 ∧ ¬ σ 84 2 = l) from (by first | exact Or.inl ⟨rfl, by omega⟩ | exact Or.inr (Or.inl ⟨rfl, by omega, by omega⟩) | exact Or.inr (Or.inr (Or.inl ⟨rfl, by omega, by omega, by omega, by omega⟩)) | exact Or.inr (Or.inr (Or.inr ⟨rfl, by omega, by omega, by omega, by omega, by omega⟩)) | omega)) (show (1 : Int) = 1 ∨ (1 : Int) = 3 ∨ n = 0 ∨ (¬ σ 84 1 = 0 ∧ σ 84 2 = l) from (by first | exact Or.inl rfl | exact Or.inr (Or.inl rfl) | exact Or.inr (Or.inr (Or.inl (by omega))) | exact Or.inr (Or.inr (Or.inr ⟨by omega, by omega⟩)) | omega)) (show (0 : Int) ≤ n from by omega) (show (0 : Int) ≤ n from by omega) (show 0 ≤ k ∧ k ≤ 3 ∧ 0 ≤ l ∧ l ≤ 2 from by omega) (show σ314 23 4 = σ 23 4 from by omega) (show σ314 23 5 = σ 23 5 from by omega) (show ∀ gg qq rk : Nat → Int, RG 24 gg qq σ → CNR rk gg 28 σ → RDX rk (CC (84 + 1) σ) f gg qq (0 : Int).toNat σ314 ∧ ∀ x : Nat, (x : Int) < (0 : Int) → rdF (σ 84 3) f x ∧ rdO (wW 1 σ) rk (CC (84 + 1) σ) f gg x = 0 from (fun gg qq rk H C => ⟨RDX_F (i := 0) ⟨H, C⟩ (fun c j a b => ((hGσ314 c j (show ¬ ((47 ≤ c ∧ c < 55)) from by omega)))), fun x hx => by exfalso; omega⟩)) (Nat.lt_succ_self _)
          · refine j_aald (pc := 34) (r := 86) dX11_read_34 (a_79 hX) (by omega) (by rw [h99]; decide) (by rw [h99]; rfl) (by decide) ?_
            refine j_astore (pc := 35) (i := 5) (ls' := [(0, vR 0), (2, vI l), (3, vI f), (4, vI n), (5, vR 86)]) [1, 3, 4, 5, 0] dX11_read_35 (Nat.le_of_ble_eq_true rfl) rfl rfl ?_
            refine j_iconst (pc := 37) dX11_read_37 ?_
            refine j_istore (pc := 38) (i := 6) (ls' := [(0, vR 0), (2, vI l), (3, vI f), (4, vI n), (5, vR 86), (6, vI 0)]) [1, 2, 3, 4, 5, 0] dX11_read_38 (Nat.le_of_ble_eq_true rfl) rfl rfl ?_
            refine j_iconst (pc := 40) dX11_read_40 ?_
            refine j_istore (pc := 41) (i := 7) (ls' := [(0, vR 0), (2, vI l), (3, vI f), (4, vI n), (5, vR 86), (6, vI 0), (7, vI 0)]) [1, 2, 3, 4, 5, 6, 0] dX11_read_41 (Nat.le_of_ble_eq_true rfl) rfl rfl ?_
            refine j_iload (pc := 43) dX11_read_43 rfl ?_
            refine j_ifR_le (pc := 45) (tgt := 76) ⟨by omega, by omega⟩ dX11_read_45 rfl (fun h331 => ?_) (fun h331 => ?_)
            · refine j_aload_n (pc := 76) dX11_read_76 rfl rfl ?_
              refine j_getR (pc := 77) (r := 47) fl_X11_36 dX11_read_77 (a_0 hX) rfl ?_
              refine j_aload_n (pc := 80) dX11_read_80 rfl rfl ?_
              refine j_getR (pc := 81) (r := 23) fl_X11_26 dX11_read_81 (a_0 hX) rfl ?_
              refine j_callV (pc := 84) (As := [vR 23]) (st := []) (c_X3_copyOf 47 (s_Hand_47 hX) 23 (s_Hand_23 hX) σ hI (by omega)) mv_X11_398 rfl rfl rfl (a_47 hX) dX11_read_84 ⟨Nat.le_of_ble_eq_true rfl, Nat.le_of_ble_eq_true rfl⟩ ⟨Nat.le_refl _, Nat.le_refl _⟩ rfl (Nat.le_of_ble_eq_true rfl) rfl (fun z332 σ333 hz332 => ?_)
              obtain ⟨rfl, hIσ333, hGσ333, q334_0, q334_1, q334_2, q334_3, q334_4⟩ := hz332
              replace q334_0 : σ333 53 0 = σ 29 0 := q334_0
              replace q334_1 : σ333 54 0 = σ 30 0 := q334_1
              replace q334_2 : σ333 53 1 = σ 29 1 := q334_2
              replace q334_3 : σ333 54 1 = σ 30 1 := q334_3
              replace q334_4 : CPY 47 23 σ σ333 := q334_4
              have hFσ333 : tw_F (fun c j => (23 ≤ c ∧ c < 31) ∨ (47 ≤ c ∧ c < 55) ∨ (c = 0 ∧ (j = 14))) σ σ333 := tw_F_tr (tw_F_rf) hGσ333 (fun c j q => (show (23 ≤ c ∧ c < 31) ∨ (47 ≤ c ∧ c < 55) ∨ (c = 0 ∧ (j = 14)) from by replace q : (47 ≤ c ∧ c < 55) := q; exact (Or.inr (Or.inl q))))
              refine j_st (st' := []) rfl ?_
              have cp9 := q334_4
              refine j_iconst (pc := 87) dX11_read_87 ?_
              refine j_istore (pc := 88) (i := 8) (ls' := [(0, vR 0), (3, vI f), (4, vI n), (5, vR 86), (6, vI 0), (7, vI 0), (8, vI 0)]) [1, 3, 4, 5, 6, 7, 0] dX11_read_88 (Nat.le_of_ble_eq_true rfl) rfl rfl ?_
              refine j_ls (ls' := [(0, vR 0), (3, vI f), (4, vI n), (5, vR 86), (6, vI 0), (7, vI 0), (8, vI 0)]) [0, 1, 2, 3, 4, 5, 6] rfl ?_
              have y336 : σ333 29 0 = σ 29 0 := (hGσ333 29 0 (show ¬ ((47 ≤ 29 ∧ 29 < 55)) from by decide))
              have f337 : (0 : Int) ≤ σ 29 0 ∧ σ 29 0 ≤ 999 := hI 29 0
              have y338 : σ333 30 0 = σ 30 0 := (hGσ333 30 0 (show ¬ ((47 ≤ 30 ∧ 30 < 55)) from by decide))
              have f339 : (-2147483648 : Int) ≤ σ 30 0 ∧ σ 30 0 ≤ 2147483647 := hI 30 0
              have y340 : σ333 29 1 = σ 29 1 := (hGσ333 29 1 (show ¬ ((47 ≤ 29 ∧ 29 < 55)) from by decide))
              have f341 : (0 : Int) ≤ σ 29 1 ∧ σ 29 1 ≤ 999 := hI 29 1
              have y342 : σ333 30 1 = σ 30 1 := (hGσ333 30 1 (show ¬ ((47 ≤ 30 ∧ 30 < 55)) from by decide))
              have f343 : (-2147483648 : Int) ≤ σ 30 1 ∧ σ 30 1 ≤ 2147483647 := hI 30 1
              have y344 : σ333 0 14 = σ 0 14 := (hGσ333 0 14 (show ¬ ((47 ≤ 0 ∧ 0 < 55)) from by decide))
              have f345 : (-2147483648 : Int) ≤ σ 0 14 ∧ σ 0 14 ≤ 2147483647 := hI 0 14
              have y346 : σ333 23 4 = σ 23 4 := (hGσ333 23 4 (show ¬ ((47 ≤ 23 ∧ 23 < 55)) from by decide))
              have f347 : (-2147483648 : Int) ≤ σ 23 4 ∧ σ 23 4 ≤ 2147483647 := hI 23 4
              have y348 : σ333 23 5 = σ 23 5 := (hGσ333 23 5 (show ¬ ((47 ≤ 23 ∧ 23 < 55)) from by decide))
              have f349 : (-2147483648 : Int) ≤ σ 23 5 ∧ σ 23 5 ≤ 2147483647 := hI 23 5
              exact (l_X11_read hX k hk l hl f hf n hn σ hI (((10 - (0 : Int)).toNat) + 1)) 86 (s_Sheet_86 hX) 0 (by (first | decide | exact ⟨by omega, by omega⟩)) 0 (by (first | decide | exact ⟨by omega, by omega⟩)) 0 (by (first | decide | exact ⟨by omega, by omega⟩)) σ333 hIσ333 hFσ333 (show (0 : Int) ≤ (0 : Int) from by omega) (show n ≤ 10 from by omega) (show 0 ≤ n from by omega) (show σ333 29 0 = σ 29 0 from by omega) (show σ333 30 0 = σ 30 0 from by omega) (show σ333 29 1 = σ 29 1 from by omega) (show σ333 30 1 = σ 30 1 from by omega) (show σ333 53 0 = σ 29 0 from by omega) (show σ333 54 0 = σ 30 0 from by omega) (show σ333 53 1 = σ 29 1 from by omega) (show σ333 54 1 = σ 30 1 from by omega) (show (86 : Int) = 80 + 2 * k from by omega) (show CPY 47 23 σ σ333 from cp9) (show σ333 0 14 = σ 0 14 from by omega) (show ((0 : Int) = 0 ∧ (0 : Int) = (0 : Int)) ∨ ((0 : Int) = 2 ∧ (0 : Int) + 1 = (0 : Int) ∧ ¬ (0 ≤ f + 2 * (0 : Int) ∧ f + 2 * (0 : Int) + 1 < σ 86 3)) ∨ ((0 : Int) = 1 ∧ (0 : Int) = 0 ∧ (0 : Int) = 0 ∧ 0 < n ∧ σ 86 1 = 0) ∨ ((0 : Int) = 3 ∧ (0 : Int) = 0 ∧ (0 : Int) = 0 ∧ 0 < n ∧ ¬ σ 86 1 = 0 ∧ ¬ σ 86 2 = l) from (by first | exact Or.inl ⟨rfl, by omega⟩ | exact Or.inr (Or.inl ⟨rfl, by omega, by omega⟩) | exact Or.inr (Or.inr (Or.inl ⟨rfl, by omega, by omega, by omega, by omega⟩)) | exact Or.inr (Or.inr (Or.inr ⟨rfl, by omega, by omega, by omega, by omega, by omega⟩)) | omega)) (show (0 : Int) = 1 ∨ (0 : Int) = 3 ∨ n = 0 ∨ (¬ σ 86 1 = 0 ∧ σ 86 2 = l) from (by first | exact Or.inl rfl | exact Or.inr (Or.inl rfl) | exact Or.inr (Or.inr (Or.inl (by omega))) | exact Or.inr (Or.inr (Or.inr ⟨by omega, by omega⟩)) | omega)) (show (0 : Int) ≤ n from by omega) (show (0 : Int) ≤ n from by omega) (show 0 ≤ k ∧ k ≤ 3 ∧ 0 ≤ l ∧ l ≤ 2 from by omega) (show σ333 23 4 = σ 23 4 from by omega) (show σ333 23 5 = σ 23 5 from by omega) (show ∀ gg qq rk : Nat → Int, RG 24 gg qq σ → CNR rk gg 28 σ → RDX rk (CC (86 + 1) σ) f gg qq (0 : Int).toNat σ333 ∧ ∀ x : Nat, (x : Int) < (0 : Int) → rdF (σ 86 3) f x ∧ rdO (wW 1 σ) rk (CC (86 + 1) σ) f gg x = 0 from (fun gg qq rk H C => ⟨RDX_F (i := 0) ⟨H, C⟩ (fun c j a b => ((hGσ333 c j (show ¬ ((47 ≤ c ∧ c < 55)) from by omega)))), fun x hx => by exfalso; omega⟩)) (Nat.lt_succ_self _)
            · refine j_aload (pc := 48) dX11_read_48 rfl ?_
              refine j_getI (pc := 50) fl_X11_409 dX11_read_50 (a_86 hX) rfl ?_
              have f350 : (0 : Int) ≤ σ 86 1 ∧ σ 86 1 ≤ 1 := hI 86 1
              refine j_ifR_ne (pc := 53) (tgt := 60) ⟨by omega, by omega⟩ dX11_read_53 rfl (fun h351 => ?_) (fun h351 => ?_)
              · refine j_aload (pc := 60) dX11_read_60 rfl ?_
                refine j_getI (pc := 62) fl_X11_416 dX11_read_62 (a_86 hX) rfl ?_
                have f352 : (-2147483648 : Int) ≤ σ 86 2 ∧ σ 86 2 ≤ 2147483647 := hI 86 2
                refine j_iload_n (pc := 65) dX11_read_65 rfl rfl ?_
                refine j_icmpR_eq (pc := 66) (tgt := 73) ⟨by omega, by omega⟩ ⟨by omega, by omega⟩ dX11_read_66 rfl (fun h353 => ?_) (fun h353 => ?_)
                · refine j_iconst (pc := 73) dX11_read_73 ?_
                  refine j_istore (pc := 74) (i := 6) (ls' := [(0, vR 0), (3, vI f), (4, vI n), (5, vR 86), (6, vI 0), (7, vI 0)]) [1, 3, 4, 5, 0, 6] dX11_read_74 (Nat.le_of_ble_eq_true rfl) rfl rfl ?_
                  refine j_aload_n (pc := 76) dX11_read_76 rfl rfl ?_
                  refine j_getR (pc := 77) (r := 47) fl_X11_36 dX11_read_77 (a_0 hX) rfl ?_
                  refine j_aload_n (pc := 80) dX11_read_80 rfl rfl ?_
                  refine j_getR (pc := 81) (r := 23) fl_X11_26 dX11_read_81 (a_0 hX) rfl ?_
                  refine j_callV (pc := 84) (As := [vR 23]) (st := []) (c_X3_copyOf 47 (s_Hand_47 hX) 23 (s_Hand_23 hX) σ hI (by omega)) mv_X11_398 rfl rfl rfl (a_47 hX) dX11_read_84 ⟨Nat.le_of_ble_eq_true rfl, Nat.le_of_ble_eq_true rfl⟩ ⟨Nat.le_refl _, Nat.le_refl _⟩ rfl (Nat.le_of_ble_eq_true rfl) rfl (fun z354 σ355 hz354 => ?_)
                  obtain ⟨rfl, hIσ355, hGσ355, q356_0, q356_1, q356_2, q356_3, q356_4⟩ := hz354
                  replace q356_0 : σ355 53 0 = σ 29 0 := q356_0
                  replace q356_1 : σ355 54 0 = σ 30 0 := q356_1
                  replace q356_2 : σ355 53 1 = σ 29 1 := q356_2
                  replace q356_3 : σ355 54 1 = σ 30 1 := q356_3
                  replace q356_4 : CPY 47 23 σ σ355 := q356_4
                  have hFσ355 : tw_F (fun c j => (23 ≤ c ∧ c < 31) ∨ (47 ≤ c ∧ c < 55) ∨ (c = 0 ∧ (j = 14))) σ σ355 := tw_F_tr (tw_F_rf) hGσ355 (fun c j q => (show (23 ≤ c ∧ c < 31) ∨ (47 ≤ c ∧ c < 55) ∨ (c = 0 ∧ (j = 14)) from by replace q : (47 ≤ c ∧ c < 55) := q; exact (Or.inr (Or.inl q))))
                  refine j_st (st' := []) rfl ?_
                  have cp9 := q356_4
                  refine j_iconst (pc := 87) dX11_read_87 ?_
                  refine j_istore (pc := 88) (i := 8) (ls' := [(0, vR 0), (3, vI f), (4, vI n), (5, vR 86), (6, vI 0), (7, vI 0), (8, vI 0)]) [1, 2, 3, 4, 5, 6, 0] dX11_read_88 (Nat.le_of_ble_eq_true rfl) rfl rfl ?_
                  refine j_ls (ls' := [(0, vR 0), (3, vI f), (4, vI n), (5, vR 86), (6, vI 0), (7, vI 0), (8, vI 0)]) [0, 1, 2, 3, 4, 5, 6] rfl ?_
                  have y358 : σ355 29 0 = σ 29 0 := (hGσ355 29 0 (show ¬ ((47 ≤ 29 ∧ 29 < 55)) from by decide))
                  have f359 : (0 : Int) ≤ σ 29 0 ∧ σ 29 0 ≤ 999 := hI 29 0
                  have y360 : σ355 30 0 = σ 30 0 := (hGσ355 30 0 (show ¬ ((47 ≤ 30 ∧ 30 < 55)) from by decide))
                  have f361 : (-2147483648 : Int) ≤ σ 30 0 ∧ σ 30 0 ≤ 2147483647 := hI 30 0
                  have y362 : σ355 29 1 = σ 29 1 := (hGσ355 29 1 (show ¬ ((47 ≤ 29 ∧ 29 < 55)) from by decide))
                  have f363 : (0 : Int) ≤ σ 29 1 ∧ σ 29 1 ≤ 999 := hI 29 1
                  have y364 : σ355 30 1 = σ 30 1 := (hGσ355 30 1 (show ¬ ((47 ≤ 30 ∧ 30 < 55)) from by decide))
                  have f365 : (-2147483648 : Int) ≤ σ 30 1 ∧ σ 30 1 ≤ 2147483647 := hI 30 1
                  have y366 : σ355 0 14 = σ 0 14 := (hGσ355 0 14 (show ¬ ((47 ≤ 0 ∧ 0 < 55)) from by decide))
                  have f367 : (-2147483648 : Int) ≤ σ 0 14 ∧ σ 0 14 ≤ 2147483647 := hI 0 14
                  have y368 : σ355 23 4 = σ 23 4 := (hGσ355 23 4 (show ¬ ((47 ≤ 23 ∧ 23 < 55)) from by decide))
                  have f369 : (-2147483648 : Int) ≤ σ 23 4 ∧ σ 23 4 ≤ 2147483647 := hI 23 4
                  have y370 : σ355 23 5 = σ 23 5 := (hGσ355 23 5 (show ¬ ((47 ≤ 23 ∧ 23 < 55)) from by decide))
                  have f371 : (-2147483648 : Int) ≤ σ 23 5 ∧ σ 23 5 ≤ 2147483647 := hI 23 5
                  exact (l_X11_read hX k hk l hl f hf n hn σ hI (((10 - (0 : Int)).toNat) + 1)) 86 (s_Sheet_86 hX) 0 (by (first | decide | exact ⟨by omega, by omega⟩)) 0 (by (first | decide | exact ⟨by omega, by omega⟩)) 0 (by (first | decide | exact ⟨by omega, by omega⟩)) σ355 hIσ355 hFσ355 (show (0 : Int) ≤ (0 : Int) from by omega) (show n ≤ 10 from by omega) (show 0 ≤ n from by omega) (show σ355 29 0 = σ 29 0 from by omega) (show σ355 30 0 = σ 30 0 from by omega) (show σ355 29 1 = σ 29 1 from by omega) (show σ355 30 1 = σ 30 1 from by omega) (show σ355 53 0 = σ 29 0 from by omega) (show σ355 54 0 = σ 30 0 from by omega) (show σ355 53 1 = σ 29 1 from by omega) (show σ355 54 1 = σ 30 1 from by omega) (show (86 : Int) = 80 + 2 * k from by omega) (show CPY 47 23 σ σ355 from cp9) (show σ355 0 14 = σ 0 14 from by omega) (show ((0 : Int) = 0 ∧ (0 : Int) = (0 : Int)) ∨ ((0 : Int) = 2 ∧ (0 : Int) + 1 = (0 : Int) ∧ ¬ (0 ≤ f + 2 * (0 : Int) ∧ f + 2 * (0 : Int) + 1 < σ 86 3)) ∨ ((0 : Int) = 1 ∧ (0 : Int) = 0 ∧ (0 : Int) = 0 ∧ 0 < n ∧ σ 86 1 = 0) ∨ ((0 : Int) = 3 ∧ (0 : Int) = 0 ∧ (0 : Int) = 0 ∧ 0 < n ∧ ¬ σ 86 1 = 0 ∧ ¬ σ 86 2 = l) from (by first | exact Or.inl ⟨rfl, by omega⟩ | exact Or.inr (Or.inl ⟨rfl, by omega, by omega⟩) | exact Or.inr (Or.inr (Or.inl ⟨rfl, by omega, by omega, by omega, by omega⟩)) | exact Or.inr (Or.inr (Or.inr ⟨rfl, by omega, by omega, by omega, by omega, by omega⟩)) | omega)) (show (0 : Int) = 1 ∨ (0 : Int) = 3 ∨ n = 0 ∨ (¬ σ 86 1 = 0 ∧ σ 86 2 = l) from (by first | exact Or.inl rfl | exact Or.inr (Or.inl rfl) | exact Or.inr (Or.inr (Or.inl (by omega))) | exact Or.inr (Or.inr (Or.inr ⟨by omega, by omega⟩)) | omega)) (show (0 : Int) ≤ n from by omega) (show (0 : Int) ≤ n from by omega) (show 0 ≤ k ∧ k ≤ 3 ∧ 0 ≤ l ∧ l ≤ 2 from by omega) (show σ355 23 4 = σ 23 4 from by omega) (show σ355 23 5 = σ 23 5 from by omega) (show ∀ gg qq rk : Nat → Int, RG 24 gg qq σ → CNR rk gg 28 σ → RDX rk (CC (86 + 1) σ) f gg qq (0 : Int).toNat σ355 ∧ ∀ x : Nat, (x : Int) < (0 : Int) → rdF (σ 86 3) f x ∧ rdO (wW 1 σ) rk (CC (86 + 1) σ) f gg x = 0 from (fun gg qq rk H C => ⟨RDX_F (i := 0) ⟨H, C⟩ (fun c j a b => ((hGσ355 c j (show ¬ ((47 ≤ c ∧ c < 55)) from by omega)))), fun x hx => by exfalso; omega⟩)) (Nat.lt_succ_self _)
                · refine j_iconst (pc := 69) dX11_read_69 ?_
                  refine j_goto (pc := 70) (tgt := 74) dX11_read_70 rfl ?_
                  refine j_istore (pc := 74) (i := 6) (ls' := [(0, vR 0), (3, vI f), (4, vI n), (5, vR 86), (6, vI 3), (7, vI 0)]) [1, 3, 4, 5, 0, 6] dX11_read_74 (Nat.le_of_ble_eq_true rfl) rfl rfl ?_
                  refine j_aload_n (pc := 76) dX11_read_76 rfl rfl ?_
                  refine j_getR (pc := 77) (r := 47) fl_X11_36 dX11_read_77 (a_0 hX) rfl ?_
                  refine j_aload_n (pc := 80) dX11_read_80 rfl rfl ?_
                  refine j_getR (pc := 81) (r := 23) fl_X11_26 dX11_read_81 (a_0 hX) rfl ?_
                  refine j_callV (pc := 84) (As := [vR 23]) (st := []) (c_X3_copyOf 47 (s_Hand_47 hX) 23 (s_Hand_23 hX) σ hI (by omega)) mv_X11_398 rfl rfl rfl (a_47 hX) dX11_read_84 ⟨Nat.le_of_ble_eq_true rfl, Nat.le_of_ble_eq_true rfl⟩ ⟨Nat.le_refl _, Nat.le_refl _⟩ rfl (Nat.le_of_ble_eq_true rfl) rfl (fun z372 σ373 hz372 => ?_)
                  obtain ⟨rfl, hIσ373, hGσ373, q374_0, q374_1, q374_2, q374_3, q374_4⟩ := hz372
                  replace q374_0 : σ373 53 0 = σ 29 0 := q374_0
                  replace q374_1 : σ373 54 0 = σ 30 0 := q374_1
                  replace q374_2 : σ373 53 1 = σ 29 1 := q374_2
                  replace q374_3 : σ373 54 1 = σ 30 1 := q374_3
                  replace q374_4 : CPY 47 23 σ σ373 := q374_4
                  have hFσ373 : tw_F (fun c j => (23 ≤ c ∧ c < 31) ∨ (47 ≤ c ∧ c < 55) ∨ (c = 0 ∧ (j = 14))) σ σ373 := tw_F_tr (tw_F_rf) hGσ373 (fun c j q => (show (23 ≤ c ∧ c < 31) ∨ (47 ≤ c ∧ c < 55) ∨ (c = 0 ∧ (j = 14)) from by replace q : (47 ≤ c ∧ c < 55) := q; exact (Or.inr (Or.inl q))))
                  refine j_st (st' := []) rfl ?_
                  have cp9 := q374_4
                  refine j_iconst (pc := 87) dX11_read_87 ?_
                  refine j_istore (pc := 88) (i := 8) (ls' := [(0, vR 0), (3, vI f), (4, vI n), (5, vR 86), (6, vI 3), (7, vI 0), (8, vI 0)]) [1, 2, 3, 4, 5, 6, 0] dX11_read_88 (Nat.le_of_ble_eq_true rfl) rfl rfl ?_
                  refine j_ls (ls' := [(0, vR 0), (3, vI f), (4, vI n), (5, vR 86), (6, vI 3), (7, vI 0), (8, vI 0)]) [0, 1, 2, 3, 4, 5, 6] rfl ?_
                  have y376 : σ373 29 0 = σ 29 0 := (hGσ373 29 0 (show ¬ ((47 ≤ 29 ∧ 29 < 55)) from by decide))
                  have f377 : (0 : Int) ≤ σ 29 0 ∧ σ 29 0 ≤ 999 := hI 29 0
                  have y378 : σ373 30 0 = σ 30 0 := (hGσ373 30 0 (show ¬ ((47 ≤ 30 ∧ 30 < 55)) from by decide))
                  have f379 : (-2147483648 : Int) ≤ σ 30 0 ∧ σ 30 0 ≤ 2147483647 := hI 30 0
                  have y380 : σ373 29 1 = σ 29 1 := (hGσ373 29 1 (show ¬ ((47 ≤ 29 ∧ 29 < 55)) from by decide))
                  have f381 : (0 : Int) ≤ σ 29 1 ∧ σ 29 1 ≤ 999 := hI 29 1
                  have y382 : σ373 30 1 = σ 30 1 := (hGσ373 30 1 (show ¬ ((47 ≤ 30 ∧ 30 < 55)) from by decide))
                  have f383 : (-2147483648 : Int) ≤ σ 30 1 ∧ σ 30 1 ≤ 2147483647 := hI 30 1
                  have y384 : σ373 0 14 = σ 0 14 := (hGσ373 0 14 (show ¬ ((47 ≤ 0 ∧ 0 < 55)) from by decide))
                  have f385 : (-2147483648 : Int) ≤ σ 0 14 ∧ σ 0 14 ≤ 2147483647 := hI 0 14
                  have y386 : σ373 23 4 = σ 23 4 := (hGσ373 23 4 (show ¬ ((47 ≤ 23 ∧ 23 < 55)) from by decide))
                  have f387 : (-2147483648 : Int) ≤ σ 23 4 ∧ σ 23 4 ≤ 2147483647 := hI 23 4
                  have y388 : σ373 23 5 = σ 23 5 := (hGσ373 23 5 (show ¬ ((47 ≤ 23 ∧ 23 < 55)) from by decide))
                  have f389 : (-2147483648 : Int) ≤ σ 23 5 ∧ σ 23 5 ≤ 2147483647 := hI 23 5
                  exact (l_X11_read hX k hk l hl f hf n hn σ hI (((10 - (0 : Int)).toNat) + 1)) 86 (s_Sheet_86 hX) 3 (by (first | decide | exact ⟨by omega, by omega⟩)) 0 (by (first | decide | exact ⟨by omega, by omega⟩)) 0 (by (first | decide | exact ⟨by omega, by omega⟩)) σ373 hIσ373 hFσ373 (show (0 : Int) ≤ (0 : Int) from by omega) (show n ≤ 10 from by omega) (show 0 ≤ n from by omega) (show σ373 29 0 = σ 29 0 from by omega) (show σ373 30 0 = σ 30 0 from by omega) (show σ373 29 1 = σ 29 1 from by omega) (show σ373 30 1 = σ 30 1 from by omega) (show σ373 53 0 = σ 29 0 from by omega) (show σ373 54 0 = σ 30 0 from by omega) (show σ373 53 1 = σ 29 1 from by omega) (show σ373 54 1 = σ 30 1 from by omega) (show (86 : Int) = 80 + 2 * k from by omega) (show CPY 47 23 σ σ373 from cp9) (show σ373 0 14 = σ 0 14 from by omega) (show ((3 : Int) = 0 ∧ (0 : Int) = (0 : Int)) ∨ ((3 : Int) = 2 ∧ (0 : Int) + 1 = (0 : Int) ∧ ¬ (0 ≤ f + 2 * (0 : Int) ∧ f + 2 * (0 : Int) + 1 < σ 86 3)) ∨ ((3 : Int) = 1 ∧ (0 : Int) = 0 ∧ (0 : Int) = 0 ∧ 0 < n ∧ σ 86 1 = 0) ∨ ((3 : Int) = 3 ∧ (0 : Int) = 0 ∧ (0 : Int) = 0 ∧ 0 < n ∧ ¬ σ 86 1 = 0 ∧ ¬ σ 86 2 = l) from (by first | exact Or.inl ⟨rfl, by omega⟩ | exact Or.inr (Or.inl ⟨rfl, by omega, by omega⟩) | exact Or.inr (Or.inr (Or.inl ⟨rfl, by omega, by omega, by omega, by omega⟩)) | exact Or.inr (Or.inr (Or.inr ⟨rfl, by omega, by omega, by omega, by omega, by omega⟩)) | omega)) (show (3 : Int) = 1 ∨ (3 : Int) = 3 ∨ n = 0 ∨ (¬ σ 86 1 = 0 ∧ σ 86 2 = l) from (by first | exact Or.inl rfl | exact Or.inr (Or.inl rfl) | exact Or.inr (Or.inr (Or.inl (by omega))) | exact Or.inr (Or.inr (Or.inr ⟨by omega, by omega⟩)) | omega)) (show (0 : Int) ≤ n from by omega) (show (0 : Int) ≤ n from by omega) (show 0 ≤ k ∧ k ≤ 3 ∧ 0 ≤ l ∧ l ≤ 2 from by omega) (show σ373 23 4 = σ 23 4 from by omega) (show σ373 23 5 = σ 23 5 from by omega) (show ∀ gg qq rk : Nat → Int, RG 24 gg qq σ → CNR rk gg 28 σ → RDX rk (CC (86 + 1) σ) f gg qq (0 : Int).toNat σ373 ∧ ∀ x : Nat, (x : Int) < (0 : Int) → rdF (σ 86 3) f x ∧ rdO (wW 1 σ) rk (CC (86 + 1) σ) f gg x = 0 from (fun gg qq rk H C => ⟨RDX_F (i := 0) ⟨H, C⟩ (fun c j a b => ((hGσ373 c j (show ¬ ((47 ≤ c ∧ c < 55)) from by omega)))), fun x hx => by exfalso; omega⟩)) (Nat.lt_succ_self _)
              · refine j_iconst (pc := 56) dX11_read_56 ?_
                refine j_goto (pc := 57) (tgt := 74) dX11_read_57 rfl ?_
                refine j_istore (pc := 74) (i := 6) (ls' := [(0, vR 0), (3, vI f), (4, vI n), (5, vR 86), (6, vI 1), (7, vI 0)]) [1, 3, 4, 5, 0, 6] dX11_read_74 (Nat.le_of_ble_eq_true rfl) rfl rfl ?_
                refine j_aload_n (pc := 76) dX11_read_76 rfl rfl ?_
                refine j_getR (pc := 77) (r := 47) fl_X11_36 dX11_read_77 (a_0 hX) rfl ?_
                refine j_aload_n (pc := 80) dX11_read_80 rfl rfl ?_
                refine j_getR (pc := 81) (r := 23) fl_X11_26 dX11_read_81 (a_0 hX) rfl ?_
                refine j_callV (pc := 84) (As := [vR 23]) (st := []) (c_X3_copyOf 47 (s_Hand_47 hX) 23 (s_Hand_23 hX) σ hI (by omega)) mv_X11_398 rfl rfl rfl (a_47 hX) dX11_read_84 ⟨Nat.le_of_ble_eq_true rfl, Nat.le_of_ble_eq_true rfl⟩ ⟨Nat.le_refl _, Nat.le_refl _⟩ rfl (Nat.le_of_ble_eq_true rfl) rfl (fun z390 σ391 hz390 => ?_)
                obtain ⟨rfl, hIσ391, hGσ391, q392_0, q392_1, q392_2, q392_3, q392_4⟩ := hz390
                replace q392_0 : σ391 53 0 = σ 29 0 := q392_0
                replace q392_1 : σ391 54 0 = σ 30 0 := q392_1
                replace q392_2 : σ391 53 1 = σ 29 1 := q392_2
                replace q392_3 : σ391 54 1 = σ 30 1 := q392_3
                replace q392_4 : CPY 47 23 σ σ391 := q392_4
                have hFσ391 : tw_F (fun c j => (23 ≤ c ∧ c < 31) ∨ (47 ≤ c ∧ c < 55) ∨ (c = 0 ∧ (j = 14))) σ σ391 := tw_F_tr (tw_F_rf) hGσ391 (fun c j q => (show (23 ≤ c ∧ c < 31) ∨ (47 ≤ c ∧ c < 55) ∨ (c = 0 ∧ (j = 14)) from by replace q : (47 ≤ c ∧ c < 55) := q; exact (Or.inr (Or.inl q))))
                refine j_st (st' := []) rfl ?_
                have cp9 := q392_4
                refine j_iconst (pc := 87) dX11_read_87 ?_
                refine j_istore (pc := 88) (i := 8) (ls' := [(0, vR 0), (3, vI f), (4, vI n), (5, vR 86), (6, vI 1), (7, vI 0), (8, vI 0)]) [1, 2, 3, 4, 5, 6, 0] dX11_read_88 (Nat.le_of_ble_eq_true rfl) rfl rfl ?_
                refine j_ls (ls' := [(0, vR 0), (3, vI f), (4, vI n), (5, vR 86), (6, vI 1), (7, vI 0), (8, vI 0)]) [0, 1, 2, 3, 4, 5, 6] rfl ?_
                have y394 : σ391 29 0 = σ 29 0 := (hGσ391 29 0 (show ¬ ((47 ≤ 29 ∧ 29 < 55)) from by decide))
                have f395 : (0 : Int) ≤ σ 29 0 ∧ σ 29 0 ≤ 999 := hI 29 0
                have y396 : σ391 30 0 = σ 30 0 := (hGσ391 30 0 (show ¬ ((47 ≤ 30 ∧ 30 < 55)) from by decide))
                have f397 : (-2147483648 : Int) ≤ σ 30 0 ∧ σ 30 0 ≤ 2147483647 := hI 30 0
                have y398 : σ391 29 1 = σ 29 1 := (hGσ391 29 1 (show ¬ ((47 ≤ 29 ∧ 29 < 55)) from by decide))
                have f399 : (0 : Int) ≤ σ 29 1 ∧ σ 29 1 ≤ 999 := hI 29 1
                have y400 : σ391 30 1 = σ 30 1 := (hGσ391 30 1 (show ¬ ((47 ≤ 30 ∧ 30 < 55)) from by decide))
                have f401 : (-2147483648 : Int) ≤ σ 30 1 ∧ σ 30 1 ≤ 2147483647 := hI 30 1
                have y402 : σ391 0 14 = σ 0 14 := (hGσ391 0 14 (show ¬ ((47 ≤ 0 ∧ 0 < 55)) from by decide))
                have f403 : (-2147483648 : Int) ≤ σ 0 14 ∧ σ 0 14 ≤ 2147483647 := hI 0 14
                have y404 : σ391 23 4 = σ 23 4 := (hGσ391 23 4 (show ¬ ((47 ≤ 23 ∧ 23 < 55)) from by decide))
                have f405 : (-2147483648 : Int) ≤ σ 23 4 ∧ σ 23 4 ≤ 2147483647 := hI 23 4
                have y406 : σ391 23 5 = σ 23 5 := (hGσ391 23 5 (show ¬ ((47 ≤ 23 ∧ 23 < 55)) from by decide))
                have f407 : (-2147483648 : Int) ≤ σ 23 5 ∧ σ 23 5 ≤ 2147483647 := hI 23 5
                exact (l_X11_read hX k hk l hl f hf n hn σ hI (((10 - (0 : Int)).toNat) + 1)) 86 (s_Sheet_86 hX) 1 (by (first | decide | exact ⟨by omega, by omega⟩)) 0 (by (first | decide | exact ⟨by omega, by omega⟩)) 0 (by (first | decide | exact ⟨by omega, by omega⟩)) σ391 hIσ391 hFσ391 (show (0 : Int) ≤ (0 : Int) from by omega) (show n ≤ 10 from by omega) (show 0 ≤ n from by omega) (show σ391 29 0 = σ 29 0 from by omega) (show σ391 30 0 = σ 30 0 from by omega) (show σ391 29 1 = σ 29 1 from by omega) (show σ391 30 1 = σ 30 1 from by omega) (show σ391 53 0 = σ 29 0 from by omega) (show σ391 54 0 = σ 30 0 from by omega) (show σ391 53 1 = σ 29 1 from by omega) (show σ391 54 1 = σ 30 1 from by omega) (show (86 : Int) = 80 + 2 * k from by omega) (show CPY 47 23 σ σ391 from cp9) (show σ391 0 14 = σ 0 14 from by omega) (show ((1 : Int) = 0 ∧ (0 : Int) = (0 : Int)) ∨ ((1 : Int) = 2 ∧ (0 : Int) + 1 = (0 : Int) ∧ ¬ (0 ≤ f + 2 * (0 : Int) ∧ f + 2 * (0 : Int) + 1 < σ 86 3)) ∨ ((1 : Int) = 1 ∧ (0 : Int) = 0 ∧ (0 : Int) = 0 ∧ 0 < n ∧ σ 86 1 = 0) ∨ ((1 : Int) = 3 ∧ (0 : Int) = 0 ∧ (0 : Int) = 0 ∧ 0 < n ∧ ¬ σ 86 1 = 0 ∧ ¬ σ 86 2 = l) from (by first | exact Or.inl ⟨rfl, by omega⟩ | exact Or.inr (Or.inl ⟨rfl, by omega, by omega⟩) | exact Or.inr (Or.inr (Or.inl ⟨rfl, by omega, by omega, by omega, by omega⟩)) | exact Or.inr (Or.inr (Or.inr ⟨rfl, by omega, by omega, by omega, by omega, by omega⟩)) | omega)) (show (1 : Int) = 1 ∨ (1 : Int) = 3 ∨ n = 0 ∨ (¬ σ 86 1 = 0 ∧ σ 86 2 = l) from (by first | exact Or.inl rfl | exact Or.inr (Or.inl rfl) | exact Or.inr (Or.inr (Or.inl (by omega))) | exact Or.inr (Or.inr (Or.inr ⟨by omega, by omega⟩)) | omega)) (show (0 : Int) ≤ n from by omega) (show (0 : Int) ≤ n from by omega) (show 0 ≤ k ∧ k ≤ 3 ∧ 0 ≤ l ∧ l ≤ 2 from by omega) (show σ391 23 4 = σ 23 4 from by omega) (show σ391 23 5 = σ 23 5 from by omega) (show ∀ gg qq rk : Nat → Int, RG 24 gg qq σ → CNR rk gg 28 σ → RDX rk (CC (86 + 1) σ) f gg qq (0 : Int).toNat σ391 ∧ ∀ x : Nat, (x : Int) < (0 : Int) → rdF (σ 86 3) f x ∧ rdO (wW 1 σ) rk (CC (86 + 1) σ) f gg x = 0 from (fun gg qq rk H C => ⟨RDX_F (i := 0) ⟨H, C⟩ (fun c j a b => ((hGσ391 c j (show ¬ ((47 ≤ c ∧ c < 55)) from by omega)))), fun x hx => by exfalso; omega⟩)) (Nat.lt_succ_self _)
        · refine j_iconst (pc := 27) dX11_read_27 ?_
          have fin : ∀ gg qq rk : Nat → Int, RG 24 gg qq σ → CNR rk gg 28 σ → ((-1) = -1 ∧ ¬ (0 ≤ k ∧ k ≤ 3 ∧ 0 ≤ l ∧ l ≤ 2 ∧ 0 ≤ n ∧ n ≤ 10) ∧ ∀ c j, σ c j = σ c j) ∨ ((0 ≤ k ∧ k ≤ 3 ∧ 0 ≤ l ∧ l ≤ 2 ∧ 0 ≤ n ∧ n ≤ 10) ∧ ∃ cz : Int, ((cz = 0 ∧ 0 < n ∧ (-1) = 0 ∧ σ 0 14 = 1 ∧ σ (80 + 2 * k.toNat) 1 = 0) ∨ (cz = 0 ∧ 0 < n ∧ (-1) = 0 ∧ σ 0 14 = 3 ∧ ¬ σ (80 + 2 * k.toNat) 1 = 0 ∧ ¬ σ (80 + 2 * k.toNat) 2 = l) ∨ ((n = 0 ∨ (¬ σ (80 + 2 * k.toNat) 1 = 0 ∧ σ (80 + 2 * k.toNat) 2 = l)) ∧ RDE (rdF (σ (80 + 2 * k.toNat) 3) f) (fun x => rdO (wW 1 σ) rk (CC (81 + 2 * k.toNat) σ) f gg x = 0) n cz (-1) (σ 0 14))) ∧ ((0 ≤ (-1) ∧ RDX rk (CC (81 + 2 * k.toNat) σ) f gg qq cz.toNat σ) ∨ ((-1) < 0 ∧ RDX rk (CC (81 + 2 * k.toNat) σ) f gg qq 0 σ ∧ σ 0 14 = σ 0 14))) := fun gg qq rk H C => Or.inl ⟨rfl, by omega, fun c j => rfl⟩
          exact j_iret (pc := 28) ⟨rfl, rfl⟩ dX11_read_28 rfl ⟨_, rfl, ⟨by omega, by omega⟩, hI, (tw_F_rf), by omega, by omega, by omega, by omega, fin, (by first | rfl | exact (rfl).trans i19 | exact cb9.2.2.2.1), (by first | rfl | exact (rfl).trans i20 | exact cb9.2.2.2.2)⟩
