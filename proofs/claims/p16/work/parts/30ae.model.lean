/-! 30ae.model -/
theorem dX12_down_0 : decode cX12_down 0 = .ok (.iload_n 1, 1) := by decide +kernel
theorem dX12_down_1 : decode cX12_down 1 = .ok (.i2l, 1) := by decide +kernel
theorem dX12_down_2 : decode cX12_down 2 = .ok (.lconst 0, 1) := by decide +kernel
theorem dX12_down_3 : decode cX12_down 3 = .ok (.aload_n 0, 1) := by decide +kernel
theorem dX12_down_4 : decode cX12_down 4 = .ok (.getfield 17, 3) := by decide +kernel
theorem dX12_down_7 : decode cX12_down 7 = .ok (.iconst 0, 1) := by decide +kernel
theorem dX12_down_8 : decode cX12_down 8 = .ok (.iaload, 1) := by decide +kernel
theorem dX12_down_9 : decode cX12_down 9 = .ok (.i2l, 1) := by decide +kernel
theorem dX12_down_10 : decode cX12_down 10 = .ok (.invokestatic 82, 3) := by decide +kernel
theorem dX12_down_13 : decode cX12_down 13 = .ok (.ifCond .ne 5, 3) := by decide +kernel
theorem dX12_down_16 : decode cX12_down 16 = .ok (.iconst (-1), 1) := by decide +kernel
theorem dX12_down_17 : decode cX12_down 17 = .ok (.ireturn, 1) := by decide +kernel
theorem dX12_down_18 : decode cX12_down 18 = .ok (.iconst 0, 1) := by decide +kernel
theorem dX12_down_19 : decode cX12_down 19 = .ok (.istore_n 2, 1) := by decide +kernel
theorem dX12_down_20 : decode cX12_down 20 = .ok (.iload_n 2, 1) := by decide +kernel
theorem dX12_down_21 : decode cX12_down 21 = .ok (.iload_n 1, 1) := by decide +kernel
theorem dX12_down_22 : decode cX12_down 22 = .ok (.if_icmp .gt 157, 3) := by decide +kernel
theorem dX12_down_25 : decode cX12_down 25 = .ok (.aload_n 0, 1) := by decide +kernel
theorem dX12_down_26 : decode cX12_down 26 = .ok (.getfield 47, 3) := by decide +kernel
theorem dX12_down_29 : decode cX12_down 29 = .ok (.iload_n 2, 1) := by decide +kernel
theorem dX12_down_30 : decode cX12_down 30 = .ok (.iload_n 2, 1) := by decide +kernel
theorem dX12_down_31 : decode cX12_down 31 = .ok (.ifCond .ne 7, 3) := by decide +kernel
theorem dX12_down_34 : decode cX12_down 34 = .ok (.iconst 0, 1) := by decide +kernel
theorem dX12_down_35 : decode cX12_down 35 = .ok (.goto 5, 3) := by decide +kernel
theorem dX12_down_38 : decode cX12_down 38 = .ok (.bipush (-4), 2) := by decide +kernel
theorem dX12_down_40 : decode cX12_down 40 = .ok (.iastore, 1) := by decide +kernel
theorem dX12_down_41 : decode cX12_down 41 = .ok (.iconst 0, 1) := by decide +kernel
theorem dX12_down_42 : decode cX12_down 42 = .ok (.istore_n 3, 1) := by decide +kernel
theorem dX12_down_43 : decode cX12_down 43 = .ok (.iload_n 3, 1) := by decide +kernel
theorem dX12_down_44 : decode cX12_down 44 = .ok (.iload_n 2, 1) := by decide +kernel
theorem dX12_down_45 : decode cX12_down 45 = .ok (.if_icmp .ge 128, 3) := by decide +kernel
theorem dX12_down_48 : decode cX12_down 48 = .ok (.iload_n 3, 1) := by decide +kernel
theorem dX12_down_49 : decode cX12_down 49 = .ok (.ifCond .eq 11, 3) := by decide +kernel
theorem dX12_down_52 : decode cX12_down 52 = .ok (.aload_n 0, 1) := by decide +kernel
theorem dX12_down_53 : decode cX12_down 53 = .ok (.iload_n 3, 1) := by decide +kernel
theorem dX12_down_54 : decode cX12_down 54 = .ok (.invokevirtual 323, 3) := by decide +kernel
theorem dX12_down_57 : decode cX12_down 57 = .ok (.ifCond .eq 32, 3) := by decide +kernel
theorem dX12_down_60 : decode cX12_down 60 = .ok (.aload_n 0, 1) := by decide +kernel
theorem dX12_down_61 : decode cX12_down 61 = .ok (.getfield 47, 3) := by decide +kernel
theorem dX12_down_64 : decode cX12_down 64 = .ok (.iload_n 3, 1) := by decide +kernel
theorem dX12_down_65 : decode cX12_down 65 = .ok (.iaload, 1) := by decide +kernel
theorem dX12_down_66 : decode cX12_down 66 = .ok (.bipush (-4), 2) := by decide +kernel
theorem dX12_down_68 : decode cX12_down 68 = .ok (.if_icmp .eq 21, 3) := by decide +kernel
theorem dX12_down_71 : decode cX12_down 71 = .ok (.iload_n 2, 1) := by decide +kernel
theorem dX12_down_72 : decode cX12_down 72 = .ok (.iload_n 3, 1) := by decide +kernel
theorem dX12_down_73 : decode cX12_down 73 = .ok (.isub, 1) := by decide +kernel
theorem dX12_down_74 : decode cX12_down 74 = .ok (.aload_n 0, 1) := by decide +kernel
theorem dX12_down_75 : decode cX12_down 75 = .ok (.getfield 17, 3) := by decide +kernel
theorem dX12_down_78 : decode cX12_down 78 = .ok (.iconst 3, 1) := by decide +kernel
theorem dX12_down_79 : decode cX12_down 79 = .ok (.iaload, 1) := by decide +kernel
theorem dX12_down_80 : decode cX12_down 80 = .ok (.iconst 2, 1) := by decide +kernel
theorem dX12_down_81 : decode cX12_down 81 = .ok (.idiv, 1) := by decide +kernel
theorem dX12_down_82 : decode cX12_down 82 = .ok (.if_icmp .gt 7, 3) := by decide +kernel
theorem dX12_down_85 : decode cX12_down 85 = .ok (.iconst 1, 1) := by decide +kernel
theorem dX12_down_86 : decode cX12_down 86 = .ok (.goto 4, 3) := by decide +kernel
theorem dX12_down_89 : decode cX12_down 89 = .ok (.iconst 0, 1) := by decide +kernel
theorem dX12_down_90 : decode cX12_down 90 = .ok (.istore 4, 2) := by decide +kernel
theorem dX12_down_92 : decode cX12_down 92 = .ok (.iload 4, 2) := by decide +kernel
theorem dX12_down_94 : decode cX12_down 94 = .ok (.ifCond .eq 26, 3) := by decide +kernel
theorem dX12_down_97 : decode cX12_down 97 = .ok (.aload_n 0, 1) := by decide +kernel
theorem dX12_down_98 : decode cX12_down 98 = .ok (.getfield 47, 3) := by decide +kernel
theorem dX12_down_101 : decode cX12_down 101 = .ok (.iload_n 3, 1) := by decide +kernel
theorem dX12_down_102 : decode cX12_down 102 = .ok (.iaload, 1) := by decide +kernel
theorem dX12_down_103 : decode cX12_down 103 = .ok (.aload_n 0, 1) := by decide +kernel
theorem dX12_down_104 : decode cX12_down 104 = .ok (.iload_n 2, 1) := by decide +kernel
theorem dX12_down_105 : decode cX12_down 105 = .ok (.invokevirtual 323, 3) := by decide +kernel
theorem dX12_down_108 : decode cX12_down 108 = .ok (.ifCond .eq 7, 3) := by decide +kernel
theorem dX12_down_111 : decode cX12_down 111 = .ok (.iconst 1, 1) := by decide +kernel
theorem dX12_down_112 : decode cX12_down 112 = .ok (.goto 4, 3) := by decide +kernel
theorem dX12_down_115 : decode cX12_down 115 = .ok (.iconst 2, 1) := by decide +kernel
theorem dX12_down_116 : decode cX12_down 116 = .ok (.iadd, 1) := by decide +kernel
theorem dX12_down_117 : decode cX12_down 117 = .ok (.goto 4, 3) := by decide +kernel
theorem dX12_down_120 : decode cX12_down 120 = .ok (.iconst 0, 1) := by decide +kernel
theorem dX12_down_121 : decode cX12_down 121 = .ok (.istore 5, 2) := by decide +kernel
theorem dX12_down_123 : decode cX12_down 123 = .ok (.aload_n 0, 1) := by decide +kernel
theorem dX12_down_124 : decode cX12_down 124 = .ok (.getfield 47, 3) := by decide +kernel
theorem dX12_down_127 : decode cX12_down 127 = .ok (.iload_n 2, 1) := by decide +kernel
theorem dX12_down_128 : decode cX12_down 128 = .ok (.iload 4, 2) := by decide +kernel
theorem dX12_down_130 : decode cX12_down 130 = .ok (.ifCond .eq 30, 3) := by decide +kernel
theorem dX12_down_133 : decode cX12_down 133 = .ok (.aload_n 0, 1) := by decide +kernel
theorem dX12_down_134 : decode cX12_down 134 = .ok (.getfield 47, 3) := by decide +kernel
theorem dX12_down_137 : decode cX12_down 137 = .ok (.iload_n 2, 1) := by decide +kernel
theorem dX12_down_138 : decode cX12_down 138 = .ok (.iaload, 1) := by decide +kernel
theorem dX12_down_139 : decode cX12_down 139 = .ok (.bipush (-4), 2) := by decide +kernel
theorem dX12_down_141 : decode cX12_down 141 = .ok (.if_icmp .eq 14, 3) := by decide +kernel
theorem dX12_down_144 : decode cX12_down 144 = .ok (.iload 5, 2) := by decide +kernel
theorem dX12_down_146 : decode cX12_down 146 = .ok (.aload_n 0, 1) := by decide +kernel
theorem dX12_down_147 : decode cX12_down 147 = .ok (.getfield 47, 3) := by decide +kernel
theorem dX12_down_150 : decode cX12_down 150 = .ok (.iload_n 2, 1) := by decide +kernel
theorem dX12_down_151 : decode cX12_down 151 = .ok (.iaload, 1) := by decide +kernel
theorem dX12_down_152 : decode cX12_down 152 = .ok (.if_icmp .ge 8, 3) := by decide +kernel
theorem dX12_down_155 : decode cX12_down 155 = .ok (.iload 5, 2) := by decide +kernel
theorem dX12_down_157 : decode cX12_down 157 = .ok (.goto 9, 3) := by decide +kernel
theorem dX12_down_160 : decode cX12_down 160 = .ok (.aload_n 0, 1) := by decide +kernel
theorem dX12_down_161 : decode cX12_down 161 = .ok (.getfield 47, 3) := by decide +kernel
theorem dX12_down_164 : decode cX12_down 164 = .ok (.iload_n 2, 1) := by decide +kernel
theorem dX12_down_165 : decode cX12_down 165 = .ok (.iaload, 1) := by decide +kernel
theorem dX12_down_166 : decode cX12_down 166 = .ok (.iastore, 1) := by decide +kernel
theorem dX12_down_167 : decode cX12_down 167 = .ok (.iinc 3 1, 3) := by decide +kernel
theorem dX12_down_170 : decode cX12_down 170 = .ok (.goto (-127), 3) := by decide +kernel
theorem dX12_down_173 : decode cX12_down 173 = .ok (.iinc 2 1, 3) := by decide +kernel
theorem dX12_down_176 : decode cX12_down 176 = .ok (.goto (-156), 3) := by decide +kernel
theorem dX12_down_179 : decode cX12_down 179 = .ok (.aload_n 0, 1) := by decide +kernel
theorem dX12_down_180 : decode cX12_down 180 = .ok (.getfield 47, 3) := by decide +kernel
theorem dX12_down_183 : decode cX12_down 183 = .ok (.iload_n 1, 1) := by decide +kernel
theorem dX12_down_184 : decode cX12_down 184 = .ok (.iaload, 1) := by decide +kernel
theorem dX12_down_185 : decode cX12_down 185 = .ok (.ireturn, 1) := by decide +kernel
abbrev q_X12_down (d : Int) (σ : tw_M) : Option tw_V → tw_M → Prop := fun z τ => ∃ r : Int, z = some (vI r) ∧ (-2147483648 ≤ r ∧ r ≤ 2147483647) ∧ tw_I τ ∧ tw_F (fun c j => c = 101) σ τ ∧ True
set_option maxHeartbeats 4000000 in
set_option maxRecDepth 100000 in
theorem l_X12_down {G : tw_G} (hM : tw_isM G) (d : Int) (hd : -2147483648 ≤ d ∧ d ≤ 2147483647) (σ : tw_M) (hI : tw_I σ) : ∀ N_ : Nat, (∀ (h : Int) (hh : 0 ≤ h ∧ h ≤ 41) (τ : tw_M) (hIτ : tw_I τ) (hFτ : tw_F (fun c j => c = 101) σ τ) (i0 : 0 ≤ d ∧ d ≤ 40) (hm : (100 * (41 - h) + 50).toNat < N_), tw_J G (tw_mt RX12 cX12_down 6 (some .int) 2) (tw_E G (q_X12_down d σ)) 20 [(0, vR 88), (1, vI d), (2, vI h)] [] τ) ∧ (∀ (h : Int) (hh : 0 ≤ h ∧ h ≤ 40) (f : Int) (hf : 0 ≤ f ∧ f ≤ 40) (τ : tw_M) (hIτ : tw_I τ) (hFτ : tw_F (fun c j => c = 101) σ τ) (i0 : 0 ≤ d ∧ d ≤ 40) (i1 : f ≤ h) (hm : (100 * (41 - h) + 40 - f).toNat < N_), tw_J G (tw_mt RX12 cX12_down 6 (some .int) 2) (tw_E G (q_X12_down d σ)) 43 [(0, vR 88), (1, vI d), (2, vI h), (3, vI f)] [] τ) := by
  intro N_
  induction N_ with
  | zero => exact ⟨fun h hh τ hIτ hFτ i0 hm => absurd hm (Nat.not_lt_zero _), fun h hh f hf τ hIτ hFτ i0 i1 hm => absurd hm (Nat.not_lt_zero _)⟩
  | succ N_ ih =>
    refine ⟨?_, ?_⟩
    · intro h hh τ hIτ hFτ i0 hm
      refine j_iload_n (pc := 20) dX12_down_20 rfl rfl ?_
      refine j_iload_n (pc := 21) dX12_down_21 rfl rfl ?_
      refine j_icmpR_gt (pc := 22) (tgt := 179) ⟨by omega, by omega⟩ ⟨by omega, by omega⟩ dX12_down_22 rfl (fun h1 => ?_) (fun h1 => ?_)
      · refine j_aload_n (pc := 179) dX12_down_179 rfl rfl ?_
        refine j_getR (pc := 180) (r := 101) fl_X12_47 dX12_down_180 (a_88 hM) rfl ?_
        refine j_iload_n (pc := 183) dX12_down_183 rfl rfl ?_
        refine j_iald (pc := 184) dX12_down_184 (a_101 hM) (by omega) (by omega) (by decide) ?_
        have f2 : (-2147483648 : Int) ≤ τ 101 (d.toNat) ∧ τ 101 (d.toNat) ≤ 2147483647 := hIτ 101 (d.toNat)
        exact j_iret (pc := 185) ⟨rfl, rfl⟩ dX12_down_185 rfl ⟨_, rfl, ⟨by omega, by omega⟩, hIτ, hFτ, trivial⟩
      · refine j_aload_n (pc := 25) dX12_down_25 rfl rfl ?_
        refine j_getR (pc := 26) (r := 101) fl_X12_47 dX12_down_26 (a_88 hM) rfl ?_
        refine j_iload_n (pc := 29) dX12_down_29 rfl rfl ?_
        refine j_iload_n (pc := 30) dX12_down_30 rfl rfl ?_
        refine j_ifR_ne (pc := 31) (tgt := 38) ⟨by omega, by omega⟩ dX12_down_31 rfl (fun h3 => ?_) (fun h3 => ?_)
        · refine j_bipush (pc := 38) dX12_down_38 rfl ?_
          refine j_iast (pc := 40) dX12_down_40 (a_101 hM) (by omega) (by omega) (by decide) (j_nm (fun σ4 (eσ4 : σ4 = tw_up τ 101 (h.toNat) (-4)) => ?_))
          have hIσ4 : tw_I σ4 := tw_I_up hIτ eσ4 (show (-2147483648 : Int) ≤ -4 ∧ -4 ≤ 2147483647 from by decide)
          have hFσ4 : tw_F (fun c j => c = 101) σ σ4 := tw_F_up hFτ eσ4 (show 101 = 101 from rfl)
          refine j_iconst (pc := 41) dX12_down_41 ?_
          refine j_istore_n (pc := 42) (i := 3) (ls' := [(0, vR 88), (1, vI d), (2, vI h), (3, vI 0)]) [1, 2, 3, 0] dX12_down_42 rfl (Nat.le_of_ble_eq_true rfl) rfl rfl ?_
          refine j_ls (ls' := [(0, vR 88), (1, vI d), (2, vI h), (3, vI 0)]) [0, 1, 2, 3] rfl ?_
          exact ih.2 h ⟨by omega, by omega⟩ 0 (by (first | decide | exact ⟨by omega, by omega⟩)) σ4 hIσ4 hFσ4 (show 0 ≤ d ∧ d ≤ 40 from by omega) (show (0 : Int) ≤ h from by omega) (show (100 * (41 - h) + 40 - (0 : Int)).toNat < N_ from by omega)
        · refine j_iconst (pc := 34) dX12_down_34 ?_
          refine j_goto (pc := 35) (tgt := 40) dX12_down_35 rfl ?_
          refine j_iast (pc := 40) dX12_down_40 (a_101 hM) (by omega) (by omega) (by decide) (j_nm (fun σ5 (eσ5 : σ5 = tw_up τ 101 (h.toNat) 0) => ?_))
          have hIσ5 : tw_I σ5 := tw_I_up hIτ eσ5 (show (-2147483648 : Int) ≤ 0 ∧ 0 ≤ 2147483647 from by decide)
          have hFσ5 : tw_F (fun c j => c = 101) σ σ5 := tw_F_up hFτ eσ5 (show 101 = 101 from rfl)
          refine j_iconst (pc := 41) dX12_down_41 ?_
          refine j_istore_n (pc := 42) (i := 3) (ls' := [(0, vR 88), (1, vI d), (2, vI h), (3, vI 0)]) [1, 2, 3, 0] dX12_down_42 rfl (Nat.le_of_ble_eq_true rfl) rfl rfl ?_
          refine j_ls (ls' := [(0, vR 88), (1, vI d), (2, vI h), (3, vI 0)]) [0, 1, 2, 3] rfl ?_
          exact ih.2 h ⟨by omega, by omega⟩ 0 (by (first | decide | exact ⟨by omega, by omega⟩)) σ5 hIσ5 hFσ5 (show 0 ≤ d ∧ d ≤ 40 from by omega) (show (0 : Int) ≤ h from by omega) (show (100 * (41 - h) + 40 - (0 : Int)).toNat < N_ from by omega)
    · intro h hh f hf τ hIτ hFτ i0 i1 hm
      refine j_iload_n (pc := 43) dX12_down_43 rfl rfl ?_
      refine j_iload_n (pc := 44) dX12_down_44 rfl rfl ?_
      refine j_icmpR_ge (pc := 45) (tgt := 173) ⟨by omega, by omega⟩ ⟨by omega, by omega⟩ dX12_down_45 rfl (fun h6 => ?_) (fun h6 => ?_)
      · refine j_iinc (pc := 173) (i := 2) (n := 1) (ls' := [(0, vR 88), (1, vI d), (2, vI (h + 1))]) [1, 2, 0] dX12_down_173 rfl (Nat.le_of_ble_eq_true rfl) rfl rfl ?_
        refine j_goto (pc := 176) (tgt := 20) dX12_down_176 rfl ?_
        refine j_ls (ls' := [(0, vR 88), (1, vI d), (2, vI (h + 1))]) [0, 1, 2] rfl ?_
        exact ih.1 (h + 1) ⟨by omega, by omega⟩ τ hIτ hFτ (show 0 ≤ d ∧ d ≤ 40 from by omega) (show (100 * (41 - (h + 1)) + 50).toNat < N_ from by omega)
      · refine j_iload_n (pc := 48) dX12_down_48 rfl rfl ?_
        refine j_ifR_eq (pc := 49) (tgt := 60) ⟨by omega, by omega⟩ dX12_down_49 rfl (fun h7 => ?_) (fun h7 => ?_)
        · refine j_aload_n (pc := 60) dX12_down_60 rfl rfl ?_
          refine j_getR (pc := 61) (r := 101) fl_X12_47 dX12_down_61 (a_88 hM) rfl ?_
          refine j_iload_n (pc := 64) dX12_down_64 rfl rfl ?_
          refine j_iald (pc := 65) dX12_down_65 (a_101 hM) (by omega) (by omega) (by decide) ?_
          have f8 : (-2147483648 : Int) ≤ τ 101 (f.toNat) ∧ τ 101 (f.toNat) ≤ 2147483647 := hIτ 101 (f.toNat)
          refine j_bipush (pc := 66) dX12_down_66 rfl ?_
          refine j_icmpR_eq (pc := 68) (tgt := 89) ⟨by omega, by omega⟩ ⟨by omega, by omega⟩ dX12_down_68 rfl (fun h9 => ?_) (fun h9 => ?_)
          · refine j_iconst (pc := 89) dX12_down_89 ?_
            refine j_istore (pc := 90) (i := 4) (ls' := [(0, vR 88), (1, vI d), (2, vI h), (3, vI f), (4, vI 0)]) [1, 2, 3, 4, 0] dX12_down_90 (Nat.le_of_ble_eq_true rfl) rfl rfl ?_
            refine j_iload (pc := 92) dX12_down_92 rfl ?_
            refine j_ifR_eq (pc := 94) (tgt := 120) ⟨by omega, by omega⟩ dX12_down_94 rfl (fun h10 => ?_) (fun h10 => by exfalso; omega)
            refine j_iconst (pc := 120) dX12_down_120 ?_
            refine j_istore (pc := 121) (i := 5) (ls' := [(0, vR 88), (1, vI d), (2, vI h), (3, vI f), (4, vI 0), (5, vI 0)]) [1, 2, 3, 4, 5, 0] dX12_down_121 (Nat.le_of_ble_eq_true rfl) rfl rfl ?_
            refine j_aload_n (pc := 123) dX12_down_123 rfl rfl ?_
            refine j_getR (pc := 124) (r := 101) fl_X12_47 dX12_down_124 (a_88 hM) rfl ?_
            refine j_iload_n (pc := 127) dX12_down_127 rfl rfl ?_
            refine j_iload (pc := 128) dX12_down_128 rfl ?_
            refine j_ifR_eq (pc := 130) (tgt := 160) ⟨by omega, by omega⟩ dX12_down_130 rfl (fun h11 => ?_) (fun h11 => by exfalso; omega)
            refine j_aload_n (pc := 160) dX12_down_160 rfl rfl ?_
            refine j_getR (pc := 161) (r := 101) fl_X12_47 dX12_down_161 (a_88 hM) rfl ?_
            refine j_iload_n (pc := 164) dX12_down_164 rfl rfl ?_
            refine j_iald (pc := 165) dX12_down_165 (a_101 hM) (by omega) (by omega) (by decide) ?_
            have f12 : (-2147483648 : Int) ≤ τ 101 (h.toNat) ∧ τ 101 (h.toNat) ≤ 2147483647 := hIτ 101 (h.toNat)
            refine j_iast (pc := 166) dX12_down_166 (a_101 hM) (by omega) (by omega) (by decide) (j_nm (fun σ13 (eσ13 : σ13 = tw_up τ 101 (h.toNat) (τ 101 (h.toNat))) => ?_))
            have hIσ13 : tw_I σ13 := tw_I_up hIτ eσ13 (show (-2147483648 : Int) ≤ τ 101 (h.toNat) ∧ τ 101 (h.toNat) ≤ 2147483647 from ⟨by omega, by omega⟩)
            have hFσ13 : tw_F (fun c j => c = 101) σ σ13 := tw_F_up hFτ eσ13 (show 101 = 101 from rfl)
            refine j_iinc (pc := 167) (i := 3) (n := 1) (ls' := [(0, vR 88), (1, vI d), (2, vI h), (3, vI (f + 1))]) [1, 2, 3, 0] dX12_down_167 rfl (Nat.le_of_ble_eq_true rfl) rfl rfl ?_
            refine j_goto (pc := 170) (tgt := 43) dX12_down_170 rfl ?_
            refine j_ls (ls' := [(0, vR 88), (1, vI d), (2, vI h), (3, vI (f + 1))]) [0, 1, 2, 3] rfl ?_
            exact ih.2 h ⟨by omega, by omega⟩ (f + 1) ⟨by omega, by omega⟩ σ13 hIσ13 hFσ13 (show 0 ≤ d ∧ d ≤ 40 from by omega) (show (f + 1) ≤ h from by omega) (show (100 * (41 - h) + 40 - (f + 1)).toNat < N_ from by omega)
          · refine j_iload_n (pc := 71) dX12_down_71 rfl rfl ?_
            refine j_iload_n (pc := 72) dX12_down_72 rfl rfl ?_
            refine j_isub (pc := 73) dX12_down_73 ?_
            refine j_aload_n (pc := 74) dX12_down_74 rfl rfl ?_
            refine j_getR (pc := 75) (r := 91) fl_X12_17 dX12_down_75 (a_88 hM) rfl ?_
            refine j_iconst (pc := 78) dX12_down_78 ?_
            refine j_iald (pc := 79) dX12_down_79 (a_91 hM) (by omega) (by omega) (by decide) ?_
            refine j_topV (show τ 91 (Int.toNat 3) = τ 91 3 from rfl) ?_
            have f14 : (1 : Int) ≤ τ 91 3 ∧ τ 91 3 ≤ 60 := hIτ 91 3
            refine j_iconst (pc := 80) dX12_down_80 ?_
            refine j_idiv (pc := 81) dX12_down_81 (tw_nz ⟨by omega, by omega⟩ (by omega)) (fun z15 ez15 => ?_)
            have hz15 : (-2147483648 : Int) ≤ z15 ∧ z15 ≤ 2147483647 := by rw [ez15]; exact div_in _ _
            have gz15 : z15 = (τ 91 3) / 2 := by rw [ez15]; exact div_pos_eq (by omega) (by omega) (by omega) (by omega)
            refine j_icmpR_gt (pc := 82) (tgt := 89) ⟨by omega, by omega⟩ ⟨by omega, by omega⟩ dX12_down_82 rfl (fun h16 => ?_) (fun h16 => ?_)
            · refine j_iconst (pc := 89) dX12_down_89 ?_
              refine j_istore (pc := 90) (i := 4) (ls' := [(0, vR 88), (1, vI d), (2, vI h), (3, vI f), (4, vI 0)]) [1, 2, 3, 4, 0] dX12_down_90 (Nat.le_of_ble_eq_true rfl) rfl rfl ?_
              refine j_iload (pc := 92) dX12_down_92 rfl ?_
              refine j_ifR_eq (pc := 94) (tgt := 120) ⟨by omega, by omega⟩ dX12_down_94 rfl (fun h17 => ?_) (fun h17 => by exfalso; omega)
              refine j_iconst (pc := 120) dX12_down_120 ?_
              refine j_istore (pc := 121) (i := 5) (ls' := [(0, vR 88), (1, vI d), (2, vI h), (3, vI f), (4, vI 0), (5, vI 0)]) [1, 2, 3, 4, 5, 0] dX12_down_121 (Nat.le_of_ble_eq_true rfl) rfl rfl ?_
              refine j_aload_n (pc := 123) dX12_down_123 rfl rfl ?_
              refine j_getR (pc := 124) (r := 101) fl_X12_47 dX12_down_124 (a_88 hM) rfl ?_
              refine j_iload_n (pc := 127) dX12_down_127 rfl rfl ?_
              refine j_iload (pc := 128) dX12_down_128 rfl ?_
              refine j_ifR_eq (pc := 130) (tgt := 160) ⟨by omega, by omega⟩ dX12_down_130 rfl (fun h18 => ?_) (fun h18 => by exfalso; omega)
              refine j_aload_n (pc := 160) dX12_down_160 rfl rfl ?_
              refine j_getR (pc := 161) (r := 101) fl_X12_47 dX12_down_161 (a_88 hM) rfl ?_
              refine j_iload_n (pc := 164) dX12_down_164 rfl rfl ?_
              refine j_iald (pc := 165) dX12_down_165 (a_101 hM) (by omega) (by omega) (by decide) ?_
              have f19 : (-2147483648 : Int) ≤ τ 101 (h.toNat) ∧ τ 101 (h.toNat) ≤ 2147483647 := hIτ 101 (h.toNat)
              refine j_iast (pc := 166) dX12_down_166 (a_101 hM) (by omega) (by omega) (by decide) (j_nm (fun σ20 (eσ20 : σ20 = tw_up τ 101 (h.toNat) (τ 101 (h.toNat))) => ?_))
              have hIσ20 : tw_I σ20 := tw_I_up hIτ eσ20 (show (-2147483648 : Int) ≤ τ 101 (h.toNat) ∧ τ 101 (h.toNat) ≤ 2147483647 from ⟨by omega, by omega⟩)
              have hFσ20 : tw_F (fun c j => c = 101) σ σ20 := tw_F_up hFτ eσ20 (show 101 = 101 from rfl)
              refine j_iinc (pc := 167) (i := 3) (n := 1) (ls' := [(0, vR 88), (1, vI d), (2, vI h), (3, vI (f + 1))]) [1, 2, 3, 0] dX12_down_167 rfl (Nat.le_of_ble_eq_true rfl) rfl rfl ?_
              refine j_goto (pc := 170) (tgt := 43) dX12_down_170 rfl ?_
              refine j_ls (ls' := [(0, vR 88), (1, vI d), (2, vI h), (3, vI (f + 1))]) [0, 1, 2, 3] rfl ?_
              exact ih.2 h ⟨by omega, by omega⟩ (f + 1) ⟨by omega, by omega⟩ σ20 hIσ20 hFσ20 (show 0 ≤ d ∧ d ≤ 40 from by omega) (show (f + 1) ≤ h from by omega) (show (100 * (41 - h) + 40 - (f + 1)).toNat < N_ from by omega)
            · refine j_iconst (pc := 85) dX12_down_85 ?_
              refine j_goto (pc := 86) (tgt := 90) dX12_down_86 rfl ?_
              refine j_istore (pc := 90) (i := 4) (ls' := [(0, vR 88), (1, vI d), (2, vI h), (3, vI f), (4, vI 1)]) [1, 2, 3, 4, 0] dX12_down_90 (Nat.le_of_ble_eq_true rfl) rfl rfl ?_
              refine j_iload (pc := 92) dX12_down_92 rfl ?_
              refine j_ifR_eq (pc := 94) (tgt := 120) ⟨by omega, by omega⟩ dX12_down_94 rfl (fun h21 => by exfalso; omega) (fun h21 => ?_)
              refine j_aload_n (pc := 97) dX12_down_97 rfl rfl ?_
              refine j_getR (pc := 98) (r := 101) fl_X12_47 dX12_down_98 (a_88 hM) rfl ?_
              refine j_iload_n (pc := 101) dX12_down_101 rfl rfl ?_
              refine j_iald (pc := 102) dX12_down_102 (a_101 hM) (by omega) (by omega) (by decide) ?_
              refine j_aload_n (pc := 103) dX12_down_103 rfl rfl ?_
              refine j_iload_n (pc := 104) dX12_down_104 rfl rfl ?_
              refine j_callV (pc := 105) (As := [vI h]) (st := [vI (τ 101 (f.toNat))]) (c_X12_isStance hM h ⟨by omega, by omega⟩ τ hIτ) mv_X12_323 rfl rfl rfl (a_88 hM) dX12_down_105 ⟨Nat.le_of_ble_eq_true rfl, Nat.le_of_ble_eq_true rfl⟩ ⟨Nat.le_refl _, Nat.le_refl _⟩ rfl (Nat.le_of_ble_eq_true rfl) rfl (fun z22 σ23 hz22 => ?_)
              obtain ⟨r25, rfl, hr25, rfl, q24_0⟩ := hz22
              replace q24_0 : (r25 = 1 ∧ mSt τ h) ∨ (r25 = 0 ∧ ¬ mSt τ h) := q24_0
              refine j_st (st' := [vI r25, vI (τ 101 (f.toNat))]) rfl ?_
              refine j_ifR_eq (pc := 108) (tgt := 115) ⟨by omega, by omega⟩ dX12_down_108 rfl (fun h26 => ?_) (fun h26 => ?_)
              · refine j_iconst (pc := 115) dX12_down_115 ?_
                refine j_iadd (pc := 116) dX12_down_116 ?_
                refine j_top (fun z27 ez27 hz27 => ?_)
                refine j_goto (pc := 117) (tgt := 121) dX12_down_117 rfl ?_
                refine j_istore (pc := 121) (i := 5) (ls' := [(0, vR 88), (1, vI d), (2, vI h), (3, vI f), (4, vI 1), (5, vI z27)]) [1, 2, 3, 4, 5, 0] dX12_down_121 (Nat.le_of_ble_eq_true rfl) rfl rfl ?_
                refine j_aload_n (pc := 123) dX12_down_123 rfl rfl ?_
                refine j_getR (pc := 124) (r := 101) fl_X12_47 dX12_down_124 (a_88 hM) rfl ?_
                refine j_iload_n (pc := 127) dX12_down_127 rfl rfl ?_
                refine j_iload (pc := 128) dX12_down_128 rfl ?_
                refine j_ifR_eq (pc := 130) (tgt := 160) ⟨by omega, by omega⟩ dX12_down_130 rfl (fun h28 => by exfalso; omega) (fun h28 => ?_)
                refine j_aload_n (pc := 133) dX12_down_133 rfl rfl ?_
                refine j_getR (pc := 134) (r := 101) fl_X12_47 dX12_down_134 (a_88 hM) rfl ?_
                refine j_iload_n (pc := 137) dX12_down_137 rfl rfl ?_
                refine j_iald (pc := 138) dX12_down_138 (a_101 hM) (by omega) (by omega) (by decide) ?_
                have f29 : (-2147483648 : Int) ≤ τ 101 (h.toNat) ∧ τ 101 (h.toNat) ≤ 2147483647 := hIτ 101 (h.toNat)
                refine j_bipush (pc := 139) dX12_down_139 rfl ?_
                refine j_icmpR_eq (pc := 141) (tgt := 155) ⟨by omega, by omega⟩ ⟨by omega, by omega⟩ dX12_down_141 rfl (fun h30 => ?_) (fun h30 => ?_)
                · refine j_iload (pc := 155) dX12_down_155 rfl ?_
                  refine j_goto (pc := 157) (tgt := 166) dX12_down_157 rfl ?_
                  refine j_iast (pc := 166) dX12_down_166 (a_101 hM) (by omega) (by omega) (by decide) (j_nm (fun σ31 (eσ31 : σ31 = tw_up τ 101 (h.toNat) z27) => ?_))
                  have hIσ31 : tw_I σ31 := tw_I_up hIτ eσ31 (show (-2147483648 : Int) ≤ z27 ∧ z27 ≤ 2147483647 from ⟨by omega, by omega⟩)
                  have hFσ31 : tw_F (fun c j => c = 101) σ σ31 := tw_F_up hFτ eσ31 (show 101 = 101 from rfl)
                  refine j_iinc (pc := 167) (i := 3) (n := 1) (ls' := [(0, vR 88), (1, vI d), (2, vI h), (3, vI (f + 1))]) [1, 2, 3, 0] dX12_down_167 rfl (Nat.le_of_ble_eq_true rfl) rfl rfl ?_
                  refine j_goto (pc := 170) (tgt := 43) dX12_down_170 rfl ?_
                  refine j_ls (ls' := [(0, vR 88), (1, vI d), (2, vI h), (3, vI (f + 1))]) [0, 1, 2, 3] rfl ?_
                  exact ih.2 h ⟨by omega, by omega⟩ (f + 1) ⟨by omega, by omega⟩ σ31 hIσ31 hFσ31 (show 0 ≤ d ∧ d ≤ 40 from by omega) (show (f + 1) ≤ h from by omega) (show (100 * (41 - h) + 40 - (f + 1)).toNat < N_ from by omega)
                · refine j_iload (pc := 144) dX12_down_144 rfl ?_
                  refine j_aload_n (pc := 146) dX12_down_146 rfl rfl ?_
                  refine j_getR (pc := 147) (r := 101) fl_X12_47 dX12_down_147 (a_88 hM) rfl ?_
                  refine j_iload_n (pc := 150) dX12_down_150 rfl rfl ?_
                  refine j_iald (pc := 151) dX12_down_151 (a_101 hM) (by omega) (by omega) (by decide) ?_
                  refine j_icmpR_ge (pc := 152) (tgt := 160) ⟨by omega, by omega⟩ ⟨by omega, by omega⟩ dX12_down_152 rfl (fun h32 => ?_) (fun h32 => ?_)
                  · refine j_aload_n (pc := 160) dX12_down_160 rfl rfl ?_
                    refine j_getR (pc := 161) (r := 101) fl_X12_47 dX12_down_161 (a_88 hM) rfl ?_
                    refine j_iload_n (pc := 164) dX12_down_164 rfl rfl ?_
                    refine j_iald (pc := 165) dX12_down_165 (a_101 hM) (by omega) (by omega) (by decide) ?_
                    refine j_iast (pc := 166) dX12_down_166 (a_101 hM) (by omega) (by omega) (by decide) (j_nm (fun σ33 (eσ33 : σ33 = tw_up τ 101 (h.toNat) (τ 101 (h.toNat))) => ?_))
                    have hIσ33 : tw_I σ33 := tw_I_up hIτ eσ33 (show (-2147483648 : Int) ≤ τ 101 (h.toNat) ∧ τ 101 (h.toNat) ≤ 2147483647 from ⟨by omega, by omega⟩)
                    have hFσ33 : tw_F (fun c j => c = 101) σ σ33 := tw_F_up hFτ eσ33 (show 101 = 101 from rfl)
                    refine j_iinc (pc := 167) (i := 3) (n := 1) (ls' := [(0, vR 88), (1, vI d), (2, vI h), (3, vI (f + 1))]) [1, 2, 3, 0] dX12_down_167 rfl (Nat.le_of_ble_eq_true rfl) rfl rfl ?_
                    refine j_goto (pc := 170) (tgt := 43) dX12_down_170 rfl ?_
                    refine j_ls (ls' := [(0, vR 88), (1, vI d), (2, vI h), (3, vI (f + 1))]) [0, 1, 2, 3] rfl ?_
                    exact ih.2 h ⟨by omega, by omega⟩ (f + 1) ⟨by omega, by omega⟩ σ33 hIσ33 hFσ33 (show 0 ≤ d ∧ d ≤ 40 from by omega) (show (f + 1) ≤ h from by omega) (show (100 * (41 - h) + 40 - (f + 1)).toNat < N_ from by omega)
                  · refine j_iload (pc := 155) dX12_down_155 rfl ?_
                    refine j_goto (pc := 157) (tgt := 166) dX12_down_157 rfl ?_
                    refine j_iast (pc := 166) dX12_down_166 (a_101 hM) (by omega) (by omega) (by decide) (j_nm (fun σ34 (eσ34 : σ34 = tw_up τ 101 (h.toNat) z27) => ?_))
                    have hIσ34 : tw_I σ34 := tw_I_up hIτ eσ34 (show (-2147483648 : Int) ≤ z27 ∧ z27 ≤ 2147483647 from ⟨by omega, by omega⟩)
                    have hFσ34 : tw_F (fun c j => c = 101) σ σ34 := tw_F_up hFτ eσ34 (show 101 = 101 from rfl)
                    refine j_iinc (pc := 167) (i := 3) (n := 1) (ls' := [(0, vR 88), (1, vI d), (2, vI h), (3, vI (f + 1))]) [1, 2, 3, 0] dX12_down_167 rfl (Nat.le_of_ble_eq_true rfl) rfl rfl ?_
                    refine j_goto (pc := 170) (tgt := 43) dX12_down_170 rfl ?_
                    refine j_ls (ls' := [(0, vR 88), (1, vI d), (2, vI h), (3, vI (f + 1))]) [0, 1, 2, 3] rfl ?_
                    exact ih.2 h ⟨by omega, by omega⟩ (f + 1) ⟨by omega, by omega⟩ σ34 hIσ34 hFσ34 (show 0 ≤ d ∧ d ≤ 40 from by omega) (show (f + 1) ≤ h from by omega) (show (100 * (41 - h) + 40 - (f + 1)).toNat < N_ from by omega)
              · refine j_iconst (pc := 111) dX12_down_111 ?_
                refine j_goto (pc := 112) (tgt := 116) dX12_down_112 rfl ?_
                refine j_iadd (pc := 116) dX12_down_116 ?_
                refine j_top (fun z35 ez35 hz35 => ?_)
                refine j_goto (pc := 117) (tgt := 121) dX12_down_117 rfl ?_
                refine j_istore (pc := 121) (i := 5) (ls' := [(0, vR 88), (1, vI d), (2, vI h), (3, vI f), (4, vI 1), (5, vI z35)]) [1, 2, 3, 4, 5, 0] dX12_down_121 (Nat.le_of_ble_eq_true rfl) rfl rfl ?_
                refine j_aload_n (pc := 123) dX12_down_123 rfl rfl ?_
                refine j_getR (pc := 124) (r := 101) fl_X12_47 dX12_down_124 (a_88 hM) rfl ?_
                refine j_iload_n (pc := 127) dX12_down_127 rfl rfl ?_
                refine j_iload (pc := 128) dX12_down_128 rfl ?_
                refine j_ifR_eq (pc := 130) (tgt := 160) ⟨by omega, by omega⟩ dX12_down_130 rfl (fun h36 => by exfalso; omega) (fun h36 => ?_)
                refine j_aload_n (pc := 133) dX12_down_133 rfl rfl ?_
                refine j_getR (pc := 134) (r := 101) fl_X12_47 dX12_down_134 (a_88 hM) rfl ?_
                refine j_iload_n (pc := 137) dX12_down_137 rfl rfl ?_
                refine j_iald (pc := 138) dX12_down_138 (a_101 hM) (by omega) (by omega) (by decide) ?_
                have f37 : (-2147483648 : Int) ≤ τ 101 (h.toNat) ∧ τ 101 (h.toNat) ≤ 2147483647 := hIτ 101 (h.toNat)
                refine j_bipush (pc := 139) dX12_down_139 rfl ?_
                refine j_icmpR_eq (pc := 141) (tgt := 155) ⟨by omega, by omega⟩ ⟨by omega, by omega⟩ dX12_down_141 rfl (fun h38 => ?_) (fun h38 => ?_)
                · refine j_iload (pc := 155) dX12_down_155 rfl ?_
                  refine j_goto (pc := 157) (tgt := 166) dX12_down_157 rfl ?_
                  refine j_iast (pc := 166) dX12_down_166 (a_101 hM) (by omega) (by omega) (by decide) (j_nm (fun σ39 (eσ39 : σ39 = tw_up τ 101 (h.toNat) z35) => ?_))
                  have hIσ39 : tw_I σ39 := tw_I_up hIτ eσ39 (show (-2147483648 : Int) ≤ z35 ∧ z35 ≤ 2147483647 from ⟨by omega, by omega⟩)
                  have hFσ39 : tw_F (fun c j => c = 101) σ σ39 := tw_F_up hFτ eσ39 (show 101 = 101 from rfl)
                  refine j_iinc (pc := 167) (i := 3) (n := 1) (ls' := [(0, vR 88), (1, vI d), (2, vI h), (3, vI (f + 1))]) [1, 2, 3, 0] dX12_down_167 rfl (Nat.le_of_ble_eq_true rfl) rfl rfl ?_
                  refine j_goto (pc := 170) (tgt := 43) dX12_down_170 rfl ?_
                  refine j_ls (ls' := [(0, vR 88), (1, vI d), (2, vI h), (3, vI (f + 1))]) [0, 1, 2, 3] rfl ?_
                  exact ih.2 h ⟨by omega, by omega⟩ (f + 1) ⟨by omega, by omega⟩ σ39 hIσ39 hFσ39 (show 0 ≤ d ∧ d ≤ 40 from by omega) (show (f + 1) ≤ h from by omega) (show (100 * (41 - h) + 40 - (f + 1)).toNat < N_ from by omega)
                · refine j_iload (pc := 144) dX12_down_144 rfl ?_
                  refine j_aload_n (pc := 146) dX12_down_146 rfl rfl ?_
                  refine j_getR (pc := 147) (r := 101) fl_X12_47 dX12_down_147 (a_88 hM) rfl ?_
                  refine j_iload_n (pc := 150) dX12_down_150 rfl rfl ?_
                  refine j_iald (pc := 151) dX12_down_151 (a_101 hM) (by omega) (by omega) (by decide) ?_
                  refine j_icmpR_ge (pc := 152) (tgt := 160) ⟨by omega, by omega⟩ ⟨by omega, by omega⟩ dX12_down_152 rfl (fun h40 => ?_) (fun h40 => ?_)
                  · refine j_aload_n (pc := 160) dX12_down_160 rfl rfl ?_
                    refine j_getR (pc := 161) (r := 101) fl_X12_47 dX12_down_161 (a_88 hM) rfl ?_
                    refine j_iload_n (pc := 164) dX12_down_164 rfl rfl ?_
                    refine j_iald (pc := 165) dX12_down_165 (a_101 hM) (by omega) (by omega) (by decide) ?_
                    refine j_iast (pc := 166) dX12_down_166 (a_101 hM) (by omega) (by omega) (by decide) (j_nm (fun σ41 (eσ41 : σ41 = tw_up τ 101 (h.toNat) (τ 101 (h.toNat))) => ?_))
                    have hIσ41 : tw_I σ41 := tw_I_up hIτ eσ41 (show (-2147483648 : Int) ≤ τ 101 (h.toNat) ∧ τ 101 (h.toNat) ≤ 2147483647 from ⟨by omega, by omega⟩)
                    have hFσ41 : tw_F (fun c j => c = 101) σ σ41 := tw_F_up hFτ eσ41 (show 101 = 101 from rfl)
                    refine j_iinc (pc := 167) (i := 3) (n := 1) (ls' := [(0, vR 88), (1, vI d), (2, vI h), (3, vI (f + 1))]) [1, 2, 3, 0] dX12_down_167 rfl (Nat.le_of_ble_eq_true rfl) rfl rfl ?_
                    refine j_goto (pc := 170) (tgt := 43) dX12_down_170 rfl ?_
                    refine j_ls (ls' := [(0, vR 88), (1, vI d), (2, vI h), (3, vI (f + 1))]) [0, 1, 2, 3] rfl ?_
                    exact ih.2 h ⟨by omega, by omega⟩ (f + 1) ⟨by omega, by omega⟩ σ41 hIσ41 hFσ41 (show 0 ≤ d ∧ d ≤ 40 from by omega) (show (f + 1) ≤ h from by omega) (show (100 * (41 - h) + 40 - (f + 1)).toNat < N_ from by omega)
                  · refine j_iload (pc := 155) dX12_down_155 rfl ?_
                    refine j_goto (pc := 157) (tgt := 166) dX12_down_157 rfl ?_
                    refine j_iast (pc := 166) dX12_down_166 (a_101 hM) (by omega) (by omega) (by decide) (j_nm (fun σ42 (eσ42 : σ42 = tw_up τ 101 (h.toNat) z35) => ?_))
                    have hIσ42 : tw_I σ42 := tw_I_up hIτ eσ42 (show (-2147483648 : Int) ≤ z35 ∧ z35 ≤ 2147483647 from ⟨by omega, by omega⟩)
                    have hFσ42 : tw_F (fun c j => c = 101) σ σ42 := tw_F_up hFτ eσ42 (show 101 = 101 from rfl)
                    refine j_iinc (pc := 167) (i := 3) (n := 1) (ls' := [(0, vR 88), (1, vI d), (2, vI h), (3, vI (f + 1))]) [1, 2, 3, 0] dX12_down_167 rfl (Nat.le_of_ble_eq_true rfl) rfl rfl ?_
                    refine j_goto (pc := 170) (tgt := 43) dX12_down_170 rfl ?_
                    refine j_ls (ls' := [(0, vR 88), (1, vI d), (2, vI h), (3, vI (f + 1))]) [0, 1, 2, 3] rfl ?_
                    exact ih.2 h ⟨by omega, by omega⟩ (f + 1) ⟨by omega, by omega⟩ σ42 hIσ42 hFσ42 (show 0 ≤ d ∧ d ≤ 40 from by omega) (show (f + 1) ≤ h from by omega) (show (100 * (41 - h) + 40 - (f + 1)).toNat < N_ from by omega)
        · refine j_aload_n (pc := 52) dX12_down_52 rfl rfl ?_
          refine j_iload_n (pc := 53) dX12_down_53 rfl rfl ?_
          refine j_callV (pc := 54) (As := [vI f]) (st := []) (c_X12_isStance hM f ⟨by omega, by omega⟩ τ hIτ) mv_X12_323 rfl rfl rfl (a_88 hM) dX12_down_54 ⟨Nat.le_of_ble_eq_true rfl, Nat.le_of_ble_eq_true rfl⟩ ⟨Nat.le_refl _, Nat.le_refl _⟩ rfl (Nat.le_of_ble_eq_true rfl) rfl (fun z43 σ44 hz43 => ?_)
          obtain ⟨r46, rfl, hr46, rfl, q45_0⟩ := hz43
          replace q45_0 : (r46 = 1 ∧ mSt τ f) ∨ (r46 = 0 ∧ ¬ mSt τ f) := q45_0
          refine j_st (st' := [vI r46]) rfl ?_
          refine j_ifR_eq (pc := 57) (tgt := 89) ⟨by omega, by omega⟩ dX12_down_57 rfl (fun h47 => ?_) (fun h47 => ?_)
          · refine j_iconst (pc := 89) dX12_down_89 ?_
            refine j_istore (pc := 90) (i := 4) (ls' := [(0, vR 88), (1, vI d), (2, vI h), (3, vI f), (4, vI 0)]) [1, 2, 3, 4, 0] dX12_down_90 (Nat.le_of_ble_eq_true rfl) rfl rfl ?_
            refine j_iload (pc := 92) dX12_down_92 rfl ?_
            refine j_ifR_eq (pc := 94) (tgt := 120) ⟨by omega, by omega⟩ dX12_down_94 rfl (fun h48 => ?_) (fun h48 => by exfalso; omega)
            refine j_iconst (pc := 120) dX12_down_120 ?_
            refine j_istore (pc := 121) (i := 5) (ls' := [(0, vR 88), (1, vI d), (2, vI h), (3, vI f), (4, vI 0), (5, vI 0)]) [1, 2, 3, 4, 5, 0] dX12_down_121 (Nat.le_of_ble_eq_true rfl) rfl rfl ?_
            refine j_aload_n (pc := 123) dX12_down_123 rfl rfl ?_
            refine j_getR (pc := 124) (r := 101) fl_X12_47 dX12_down_124 (a_88 hM) rfl ?_
            refine j_iload_n (pc := 127) dX12_down_127 rfl rfl ?_
            refine j_iload (pc := 128) dX12_down_128 rfl ?_
            refine j_ifR_eq (pc := 130) (tgt := 160) ⟨by omega, by omega⟩ dX12_down_130 rfl (fun h49 => ?_) (fun h49 => by exfalso; omega)
            refine j_aload_n (pc := 160) dX12_down_160 rfl rfl ?_
            refine j_getR (pc := 161) (r := 101) fl_X12_47 dX12_down_161 (a_88 hM) rfl ?_
            refine j_iload_n (pc := 164) dX12_down_164 rfl rfl ?_
            refine j_iald (pc := 165) dX12_down_165 (a_101 hM) (by omega) (by omega) (by decide) ?_
            have f50 : (-2147483648 : Int) ≤ τ 101 (h.toNat) ∧ τ 101 (h.toNat) ≤ 2147483647 := hIτ 101 (h.toNat)
            refine j_iast (pc := 166) dX12_down_166 (a_101 hM) (by omega) (by omega) (by decide) (j_nm (fun σ51 (eσ51 : σ51 = tw_up τ 101 (h.toNat) (τ 101 (h.toNat))) => ?_))
            have hIσ51 : tw_I σ51 := tw_I_up hIτ eσ51 (show (-2147483648 : Int) ≤ τ 101 (h.toNat) ∧ τ 101 (h.toNat) ≤ 2147483647 from ⟨by omega, by omega⟩)
            have hFσ51 : tw_F (fun c j => c = 101) σ σ51 := tw_F_up hFτ eσ51 (show 101 = 101 from rfl)
            refine j_iinc (pc := 167) (i := 3) (n := 1) (ls' := [(0, vR 88), (1, vI d), (2, vI h), (3, vI (f + 1))]) [1, 2, 3, 0] dX12_down_167 rfl (Nat.le_of_ble_eq_true rfl) rfl rfl ?_
            refine j_goto (pc := 170) (tgt := 43) dX12_down_170 rfl ?_
            refine j_ls (ls' := [(0, vR 88), (1, vI d), (2, vI h), (3, vI (f + 1))]) [0, 1, 2, 3] rfl ?_
            exact ih.2 h ⟨by omega, by omega⟩ (f + 1) ⟨by omega, by omega⟩ σ51 hIσ51 hFσ51 (show 0 ≤ d ∧ d ≤ 40 from by omega) (show (f + 1) ≤ h from by omega) (show (100 * (41 - h) + 40 - (f + 1)).toNat < N_ from by omega)
          · refine j_aload_n (pc := 60) dX12_down_60 rfl rfl ?_
            refine j_getR (pc := 61) (r := 101) fl_X12_47 dX12_down_61 (a_88 hM) rfl ?_
            refine j_iload_n (pc := 64) dX12_down_64 rfl rfl ?_
            refine j_iald (pc := 65) dX12_down_65 (a_101 hM) (by omega) (by omega) (by decide) ?_
            have f52 : (-2147483648 : Int) ≤ τ 101 (f.toNat) ∧ τ 101 (f.toNat) ≤ 2147483647 := hIτ 101 (f.toNat)
            refine j_bipush (pc := 66) dX12_down_66 rfl ?_
            refine j_icmpR_eq (pc := 68) (tgt := 89) ⟨by omega, by omega⟩ ⟨by omega, by omega⟩ dX12_down_68 rfl (fun h53 => ?_) (fun h53 => ?_)
            · refine j_iconst (pc := 89) dX12_down_89 ?_
              refine j_istore (pc := 90) (i := 4) (ls' := [(0, vR 88), (1, vI d), (2, vI h), (3, vI f), (4, vI 0)]) [1, 2, 3, 4, 0] dX12_down_90 (Nat.le_of_ble_eq_true rfl) rfl rfl ?_
              refine j_iload (pc := 92) dX12_down_92 rfl ?_
              refine j_ifR_eq (pc := 94) (tgt := 120) ⟨by omega, by omega⟩ dX12_down_94 rfl (fun h54 => ?_) (fun h54 => by exfalso; omega)
              refine j_iconst (pc := 120) dX12_down_120 ?_
              refine j_istore (pc := 121) (i := 5) (ls' := [(0, vR 88), (1, vI d), (2, vI h), (3, vI f), (4, vI 0), (5, vI 0)]) [1, 2, 3, 4, 5, 0] dX12_down_121 (Nat.le_of_ble_eq_true rfl) rfl rfl ?_
              refine j_aload_n (pc := 123) dX12_down_123 rfl rfl ?_
              refine j_getR (pc := 124) (r := 101) fl_X12_47 dX12_down_124 (a_88 hM) rfl ?_
              refine j_iload_n (pc := 127) dX12_down_127 rfl rfl ?_
              refine j_iload (pc := 128) dX12_down_128 rfl ?_
              refine j_ifR_eq (pc := 130) (tgt := 160) ⟨by omega, by omega⟩ dX12_down_130 rfl (fun h55 => ?_) (fun h55 => by exfalso; omega)
              refine j_aload_n (pc := 160) dX12_down_160 rfl rfl ?_
              refine j_getR (pc := 161) (r := 101) fl_X12_47 dX12_down_161 (a_88 hM) rfl ?_
              refine j_iload_n (pc := 164) dX12_down_164 rfl rfl ?_
              refine j_iald (pc := 165) dX12_down_165 (a_101 hM) (by omega) (by omega) (by decide) ?_
              have f56 : (-2147483648 : Int) ≤ τ 101 (h.toNat) ∧ τ 101 (h.toNat) ≤ 2147483647 := hIτ 101 (h.toNat)
              refine j_iast (pc := 166) dX12_down_166 (a_101 hM) (by omega) (by omega) (by decide) (j_nm (fun σ57 (eσ57 : σ57 = tw_up τ 101 (h.toNat) (τ 101 (h.toNat))) => ?_))
              have hIσ57 : tw_I σ57 := tw_I_up hIτ eσ57 (show (-2147483648 : Int) ≤ τ 101 (h.toNat) ∧ τ 101 (h.toNat) ≤ 2147483647 from ⟨by omega, by omega⟩)
              have hFσ57 : tw_F (fun c j => c = 101) σ σ57 := tw_F_up hFτ eσ57 (show 101 = 101 from rfl)
              refine j_iinc (pc := 167) (i := 3) (n := 1) (ls' := [(0, vR 88), (1, vI d), (2, vI h), (3, vI (f + 1))]) [1, 2, 3, 0] dX12_down_167 rfl (Nat.le_of_ble_eq_true rfl) rfl rfl ?_
              refine j_goto (pc := 170) (tgt := 43) dX12_down_170 rfl ?_
              refine j_ls (ls' := [(0, vR 88), (1, vI d), (2, vI h), (3, vI (f + 1))]) [0, 1, 2, 3] rfl ?_
              exact ih.2 h ⟨by omega, by omega⟩ (f + 1) ⟨by omega, by omega⟩ σ57 hIσ57 hFσ57 (show 0 ≤ d ∧ d ≤ 40 from by omega) (show (f + 1) ≤ h from by omega) (show (100 * (41 - h) + 40 - (f + 1)).toNat < N_ from by omega)
            · refine j_iload_n (pc := 71) dX12_down_71 rfl rfl ?_
              refine j_iload_n (pc := 72) dX12_down_72 rfl rfl ?_
              refine j_isub (pc := 73) dX12_down_73 ?_
              refine j_aload_n (pc := 74) dX12_down_74 rfl rfl ?_
              refine j_getR (pc := 75) (r := 91) fl_X12_17 dX12_down_75 (a_88 hM) rfl ?_
              refine j_iconst (pc := 78) dX12_down_78 ?_
              refine j_iald (pc := 79) dX12_down_79 (a_91 hM) (by omega) (by omega) (by decide) ?_
              refine j_topV (show τ 91 (Int.toNat 3) = τ 91 3 from rfl) ?_
              have f58 : (1 : Int) ≤ τ 91 3 ∧ τ 91 3 ≤ 60 := hIτ 91 3
              refine j_iconst (pc := 80) dX12_down_80 ?_
              refine j_idiv (pc := 81) dX12_down_81 (tw_nz ⟨by omega, by omega⟩ (by omega)) (fun z59 ez59 => ?_)
              have hz59 : (-2147483648 : Int) ≤ z59 ∧ z59 ≤ 2147483647 := by rw [ez59]; exact div_in _ _
              have gz59 : z59 = (τ 91 3) / 2 := by rw [ez59]; exact div_pos_eq (by omega) (by omega) (by omega) (by omega)
              refine j_icmpR_gt (pc := 82) (tgt := 89) ⟨by omega, by omega⟩ ⟨by omega, by omega⟩ dX12_down_82 rfl (fun h60 => ?_) (fun h60 => ?_)
              · refine j_iconst (pc := 89) dX12_down_89 ?_
                refine j_istore (pc := 90) (i := 4) (ls' := [(0, vR 88), (1, vI d), (2, vI h), (3, vI f), (4, vI 0)]) [1, 2, 3, 4, 0] dX12_down_90 (Nat.le_of_ble_eq_true rfl) rfl rfl ?_
                refine j_iload (pc := 92) dX12_down_92 rfl ?_
                refine j_ifR_eq (pc := 94) (tgt := 120) ⟨by omega, by omega⟩ dX12_down_94 rfl (fun h61 => ?_) (fun h61 => by exfalso; omega)
                refine j_iconst (pc := 120) dX12_down_120 ?_
                refine j_istore (pc := 121) (i := 5) (ls' := [(0, vR 88), (1, vI d), (2, vI h), (3, vI f), (4, vI 0), (5, vI 0)]) [1, 2, 3, 4, 5, 0] dX12_down_121 (Nat.le_of_ble_eq_true rfl) rfl rfl ?_
                refine j_aload_n (pc := 123) dX12_down_123 rfl rfl ?_
                refine j_getR (pc := 124) (r := 101) fl_X12_47 dX12_down_124 (a_88 hM) rfl ?_
                refine j_iload_n (pc := 127) dX12_down_127 rfl rfl ?_
                refine j_iload (pc := 128) dX12_down_128 rfl ?_
                refine j_ifR_eq (pc := 130) (tgt := 160) ⟨by omega, by omega⟩ dX12_down_130 rfl (fun h62 => ?_) (fun h62 => by exfalso; omega)
                refine j_aload_n (pc := 160) dX12_down_160 rfl rfl ?_
                refine j_getR (pc := 161) (r := 101) fl_X12_47 dX12_down_161 (a_88 hM) rfl ?_
                refine j_iload_n (pc := 164) dX12_down_164 rfl rfl ?_
                refine j_iald (pc := 165) dX12_down_165 (a_101 hM) (by omega) (by omega) (by decide) ?_
                have f63 : (-2147483648 : Int) ≤ τ 101 (h.toNat) ∧ τ 101 (h.toNat) ≤ 2147483647 := hIτ 101 (h.toNat)
                refine j_iast (pc := 166) dX12_down_166 (a_101 hM) (by omega) (by omega) (by decide) (j_nm (fun σ64 (eσ64 : σ64 = tw_up τ 101 (h.toNat) (τ 101 (h.toNat))) => ?_))
                have hIσ64 : tw_I σ64 := tw_I_up hIτ eσ64 (show (-2147483648 : Int) ≤ τ 101 (h.toNat) ∧ τ 101 (h.toNat) ≤ 2147483647 from ⟨by omega, by omega⟩)
                have hFσ64 : tw_F (fun c j => c = 101) σ σ64 := tw_F_up hFτ eσ64 (show 101 = 101 from rfl)
                refine j_iinc (pc := 167) (i := 3) (n := 1) (ls' := [(0, vR 88), (1, vI d), (2, vI h), (3, vI (f + 1))]) [1, 2, 3, 0] dX12_down_167 rfl (Nat.le_of_ble_eq_true rfl) rfl rfl ?_
                refine j_goto (pc := 170) (tgt := 43) dX12_down_170 rfl ?_
                refine j_ls (ls' := [(0, vR 88), (1, vI d), (2, vI h), (3, vI (f + 1))]) [0, 1, 2, 3] rfl ?_
                exact ih.2 h ⟨by omega, by omega⟩ (f + 1) ⟨by omega, by omega⟩ σ64 hIσ64 hFσ64 (show 0 ≤ d ∧ d ≤ 40 from by omega) (show (f + 1) ≤ h from by omega) (show (100 * (41 - h) + 40 - (f + 1)).toNat < N_ from by omega)
              · refine j_iconst (pc := 85) dX12_down_85 ?_
                refine j_goto (pc := 86) (tgt := 90) dX12_down_86 rfl ?_
                refine j_istore (pc := 90) (i := 4) (ls' := [(0, vR 88), (1, vI d), (2, vI h), (3, vI f), (4, vI 1)]) [1, 2, 3, 4, 0] dX12_down_90 (Nat.le_of_ble_eq_true rfl) rfl rfl ?_
                refine j_iload (pc := 92) dX12_down_92 rfl ?_
                refine j_ifR_eq (pc := 94) (tgt := 120) ⟨by omega, by omega⟩ dX12_down_94 rfl (fun h65 => by exfalso; omega) (fun h65 => ?_)
                refine j_aload_n (pc := 97) dX12_down_97 rfl rfl ?_
                refine j_getR (pc := 98) (r := 101) fl_X12_47 dX12_down_98 (a_88 hM) rfl ?_
                refine j_iload_n (pc := 101) dX12_down_101 rfl rfl ?_
                refine j_iald (pc := 102) dX12_down_102 (a_101 hM) (by omega) (by omega) (by decide) ?_
                refine j_aload_n (pc := 103) dX12_down_103 rfl rfl ?_
                refine j_iload_n (pc := 104) dX12_down_104 rfl rfl ?_
                refine j_callV (pc := 105) (As := [vI h]) (st := [vI (τ 101 (f.toNat))]) (c_X12_isStance hM h ⟨by omega, by omega⟩ τ hIτ) mv_X12_323 rfl rfl rfl (a_88 hM) dX12_down_105 ⟨Nat.le_of_ble_eq_true rfl, Nat.le_of_ble_eq_true rfl⟩ ⟨Nat.le_refl _, Nat.le_refl _⟩ rfl (Nat.le_of_ble_eq_true rfl) rfl (fun z66 σ67 hz66 => ?_)
                obtain ⟨r69, rfl, hr69, rfl, q68_0⟩ := hz66
                replace q68_0 : (r69 = 1 ∧ mSt τ h) ∨ (r69 = 0 ∧ ¬ mSt τ h) := q68_0
                refine j_st (st' := [vI r69, vI (τ 101 (f.toNat))]) rfl ?_
                refine j_ifR_eq (pc := 108) (tgt := 115) ⟨by omega, by omega⟩ dX12_down_108 rfl (fun h70 => ?_) (fun h70 => ?_)
                · refine j_iconst (pc := 115) dX12_down_115 ?_
                  refine j_iadd (pc := 116) dX12_down_116 ?_
                  refine j_top (fun z71 ez71 hz71 => ?_)
                  refine j_goto (pc := 117) (tgt := 121) dX12_down_117 rfl ?_
                  refine j_istore (pc := 121) (i := 5) (ls' := [(0, vR 88), (1, vI d), (2, vI h), (3, vI f), (4, vI 1), (5, vI z71)]) [1, 2, 3, 4, 5, 0] dX12_down_121 (Nat.le_of_ble_eq_true rfl) rfl rfl ?_
                  refine j_aload_n (pc := 123) dX12_down_123 rfl rfl ?_
                  refine j_getR (pc := 124) (r := 101) fl_X12_47 dX12_down_124 (a_88 hM) rfl ?_
                  refine j_iload_n (pc := 127) dX12_down_127 rfl rfl ?_
                  refine j_iload (pc := 128) dX12_down_128 rfl ?_
                  refine j_ifR_eq (pc := 130) (tgt := 160) ⟨by omega, by omega⟩ dX12_down_130 rfl (fun h72 => by exfalso; omega) (fun h72 => ?_)
                  refine j_aload_n (pc := 133) dX12_down_133 rfl rfl ?_
                  refine j_getR (pc := 134) (r := 101) fl_X12_47 dX12_down_134 (a_88 hM) rfl ?_
                  refine j_iload_n (pc := 137) dX12_down_137 rfl rfl ?_
                  refine j_iald (pc := 138) dX12_down_138 (a_101 hM) (by omega) (by omega) (by decide) ?_
                  have f73 : (-2147483648 : Int) ≤ τ 101 (h.toNat) ∧ τ 101 (h.toNat) ≤ 2147483647 := hIτ 101 (h.toNat)
                  refine j_bipush (pc := 139) dX12_down_139 rfl ?_
                  refine j_icmpR_eq (pc := 141) (tgt := 155) ⟨by omega, by omega⟩ ⟨by omega, by omega⟩ dX12_down_141 rfl (fun h74 => ?_) (fun h74 => ?_)
                  · refine j_iload (pc := 155) dX12_down_155 rfl ?_
                    refine j_goto (pc := 157) (tgt := 166) dX12_down_157 rfl ?_
                    refine j_iast (pc := 166) dX12_down_166 (a_101 hM) (by omega) (by omega) (by decide) (j_nm (fun σ75 (eσ75 : σ75 = tw_up τ 101 (h.toNat) z71) => ?_))
                    have hIσ75 : tw_I σ75 := tw_I_up hIτ eσ75 (show (-2147483648 : Int) ≤ z71 ∧ z71 ≤ 2147483647 from ⟨by omega, by omega⟩)
                    have hFσ75 : tw_F (fun c j => c = 101) σ σ75 := tw_F_up hFτ eσ75 (show 101 = 101 from rfl)
                    refine j_iinc (pc := 167) (i := 3) (n := 1) (ls' := [(0, vR 88), (1, vI d), (2, vI h), (3, vI (f + 1))]) [1, 2, 3, 0] dX12_down_167 rfl (Nat.le_of_ble_eq_true rfl) rfl rfl ?_
                    refine j_goto (pc := 170) (tgt := 43) dX12_down_170 rfl ?_
                    refine j_ls (ls' := [(0, vR 88), (1, vI d), (2, vI h), (3, vI (f + 1))]) [0, 1, 2, 3] rfl ?_
                    exact ih.2 h ⟨by omega, by omega⟩ (f + 1) ⟨by omega, by omega⟩ σ75 hIσ75 hFσ75 (show 0 ≤ d ∧ d ≤ 40 from by omega) (show (f + 1) ≤ h from by omega) (show (100 * (41 - h) + 40 - (f + 1)).toNat < N_ from by omega)
                  · refine j_iload (pc := 144) dX12_down_144 rfl ?_
                    refine j_aload_n (pc := 146) dX12_down_146 rfl rfl ?_
                    refine j_getR (pc := 147) (r := 101) fl_X12_47 dX12_down_147 (a_88 hM) rfl ?_
                    refine j_iload_n (pc := 150) dX12_down_150 rfl rfl ?_
                    refine j_iald (pc := 151) dX12_down_151 (a_101 hM) (by omega) (by omega) (by decide) ?_
                    refine j_icmpR_ge (pc := 152) (tgt := 160) ⟨by omega, by omega⟩ ⟨by omega, by omega⟩ dX12_down_152 rfl (fun h76 => ?_) (fun h76 => ?_)
                    · refine j_aload_n (pc := 160) dX12_down_160 rfl rfl ?_
                      refine j_getR (pc := 161) (r := 101) fl_X12_47 dX12_down_161 (a_88 hM) rfl ?_
                      refine j_iload_n (pc := 164) dX12_down_164 rfl rfl ?_
                      refine j_iald (pc := 165) dX12_down_165 (a_101 hM) (by omega) (by omega) (by decide) ?_
                      refine j_iast (pc := 166) dX12_down_166 (a_101 hM) (by omega) (by omega) (by decide) (j_nm (fun σ77 (eσ77 : σ77 = tw_up τ 101 (h.toNat) (τ 101 (h.toNat))) => ?_))
                      have hIσ77 : tw_I σ77 := tw_I_up hIτ eσ77 (show (-2147483648 : Int) ≤ τ 101 (h.toNat) ∧ τ 101 (h.toNat) ≤ 2147483647 from ⟨by omega, by omega⟩)
                      have hFσ77 : tw_F (fun c j => c = 101) σ σ77 := tw_F_up hFτ eσ77 (show 101 = 101 from rfl)
                      refine j_iinc (pc := 167) (i := 3) (n := 1) (ls' := [(0, vR 88), (1, vI d), (2, vI h), (3, vI (f + 1))]) [1, 2, 3, 0] dX12_down_167 rfl (Nat.le_of_ble_eq_true rfl) rfl rfl ?_
                      refine j_goto (pc := 170) (tgt := 43) dX12_down_170 rfl ?_
                      refine j_ls (ls' := [(0, vR 88), (1, vI d), (2, vI h), (3, vI (f + 1))]) [0, 1, 2, 3] rfl ?_
                      exact ih.2 h ⟨by omega, by omega⟩ (f + 1) ⟨by omega, by omega⟩ σ77 hIσ77 hFσ77 (show 0 ≤ d ∧ d ≤ 40 from by omega) (show (f + 1) ≤ h from by omega) (show (100 * (41 - h) + 40 - (f + 1)).toNat < N_ from by omega)
                    · refine j_iload (pc := 155) dX12_down_155 rfl ?_
                      refine j_goto (pc := 157) (tgt := 166) dX12_down_157 rfl ?_
                      refine j_iast (pc := 166) dX12_down_166 (a_101 hM) (by omega) (by omega) (by decide) (j_nm (fun σ78 (eσ78 : σ78 = tw_up τ 101 (h.toNat) z71) => ?_))
                      have hIσ78 : tw_I σ78 := tw_I_up hIτ eσ78 (show (-2147483648 : Int) ≤ z71 ∧ z71 ≤ 2147483647 from ⟨by omega, by omega⟩)
                      have hFσ78 : tw_F (fun c j => c = 101) σ σ78 := tw_F_up hFτ eσ78 (show 101 = 101 from rfl)
                      refine j_iinc (pc := 167) (i := 3) (n := 1) (ls' := [(0, vR 88), (1, vI d), (2, vI h), (3, vI (f + 1))]) [1, 2, 3, 0] dX12_down_167 rfl (Nat.le_of_ble_eq_true rfl) rfl rfl ?_
                      refine j_goto (pc := 170) (tgt := 43) dX12_down_170 rfl ?_
                      refine j_ls (ls' := [(0, vR 88), (1, vI d), (2, vI h), (3, vI (f + 1))]) [0, 1, 2, 3] rfl ?_
                      exact ih.2 h ⟨by omega, by omega⟩ (f + 1) ⟨by omega, by omega⟩ σ78 hIσ78 hFσ78 (show 0 ≤ d ∧ d ≤ 40 from by omega) (show (f + 1) ≤ h from by omega) (show (100 * (41 - h) + 40 - (f + 1)).toNat < N_ from by omega)
                · refine j_iconst (pc := 111) dX12_down_111 ?_
                  refine j_goto (pc := 112) (tgt := 116) dX12_down_112 rfl ?_
                  refine j_iadd (pc := 116) dX12_down_116 ?_
                  refine j_top (fun z79 ez79 hz79 => ?_)
                  refine j_goto (pc := 117) (tgt := 121) dX12_down_117 rfl ?_
                  refine j_istore (pc := 121) (i := 5) (ls' := [(0, vR 88), (1, vI d), (2, vI h), (3, vI f), (4, vI 1), (5, vI z79)]) [1, 2, 3, 4, 5, 0] dX12_down_121 (Nat.le_of_ble_eq_true rfl) rfl rfl ?_
                  refine j_aload_n (pc := 123) dX12_down_123 rfl rfl ?_
                  refine j_getR (pc := 124) (r := 101) fl_X12_47 dX12_down_124 (a_88 hM) rfl ?_
                  refine j_iload_n (pc := 127) dX12_down_127 rfl rfl ?_
                  refine j_iload (pc := 128) dX12_down_128 rfl ?_
                  refine j_ifR_eq (pc := 130) (tgt := 160) ⟨by omega, by omega⟩ dX12_down_130 rfl (fun h80 => by exfalso; omega) (fun h80 => ?_)
                  refine j_aload_n (pc := 133) dX12_down_133 rfl rfl ?_
                  refine j_getR (pc := 134) (r := 101) fl_X12_47 dX12_down_134 (a_88 hM) rfl ?_
                  refine j_iload_n (pc := 137) dX12_down_137 rfl rfl ?_
                  refine j_iald (pc := 138) dX12_down_138 (a_101 hM) (by omega) (by omega) (by decide) ?_
                  have f81 : (-2147483648 : Int) ≤ τ 101 (h.toNat) ∧ τ 101 (h.toNat) ≤ 2147483647 := hIτ 101 (h.toNat)
                  refine j_bipush (pc := 139) dX12_down_139 rfl ?_
                  refine j_icmpR_eq (pc := 141) (tgt := 155) ⟨by omega, by omega⟩ ⟨by omega, by omega⟩ dX12_down_141 rfl (fun h82 => ?_) (fun h82 => ?_)
                  · refine j_iload (pc := 155) dX12_down_155 rfl ?_
                    refine j_goto (pc := 157) (tgt := 166) dX12_down_157 rfl ?_
                    refine j_iast (pc := 166) dX12_down_166 (a_101 hM) (by omega) (by omega) (by decide) (j_nm (fun σ83 (eσ83 : σ83 = tw_up τ 101 (h.toNat) z79) => ?_))
                    have hIσ83 : tw_I σ83 := tw_I_up hIτ eσ83 (show (-2147483648 : Int) ≤ z79 ∧ z79 ≤ 2147483647 from ⟨by omega, by omega⟩)
                    have hFσ83 : tw_F (fun c j => c = 101) σ σ83 := tw_F_up hFτ eσ83 (show 101 = 101 from rfl)
                    refine j_iinc (pc := 167) (i := 3) (n := 1) (ls' := [(0, vR 88), (1, vI d), (2, vI h), (3, vI (f + 1))]) [1, 2, 3, 0] dX12_down_167 rfl (Nat.le_of_ble_eq_true rfl) rfl rfl ?_
                    refine j_goto (pc := 170) (tgt := 43) dX12_down_170 rfl ?_
                    refine j_ls (ls' := [(0, vR 88), (1, vI d), (2, vI h), (3, vI (f + 1))]) [0, 1, 2, 3] rfl ?_
                    exact ih.2 h ⟨by omega, by omega⟩ (f + 1) ⟨by omega, by omega⟩ σ83 hIσ83 hFσ83 (show 0 ≤ d ∧ d ≤ 40 from by omega) (show (f + 1) ≤ h from by omega) (show (100 * (41 - h) + 40 - (f + 1)).toNat < N_ from by omega)
                  · refine j_iload (pc := 144) dX12_down_144 rfl ?_
                    refine j_aload_n (pc := 146) dX12_down_146 rfl rfl ?_
                    refine j_getR (pc := 147) (r := 101) fl_X12_47 dX12_down_147 (a_88 hM) rfl ?_
                    refine j_iload_n (pc := 150) dX12_down_150 rfl rfl ?_
                    refine j_iald (pc := 151) dX12_down_151 (a_101 hM) (by omega) (by omega) (by decide) ?_
                    refine j_icmpR_ge (pc := 152) (tgt := 160) ⟨by omega, by omega⟩ ⟨by omega, by omega⟩ dX12_down_152 rfl (fun h84 => ?_) (fun h84 => ?_)
                    · refine j_aload_n (pc := 160) dX12_down_160 rfl rfl ?_
                      refine j_getR (pc := 161) (r := 101) fl_X12_47 dX12_down_161 (a_88 hM) rfl ?_
                      refine j_iload_n (pc := 164) dX12_down_164 rfl rfl ?_
                      refine j_iald (pc := 165) dX12_down_165 (a_101 hM) (by omega) (by omega) (by decide) ?_
                      refine j_iast (pc := 166) dX12_down_166 (a_101 hM) (by omega) (by omega) (by decide) (j_nm (fun σ85 (eσ85 : σ85 = tw_up τ 101 (h.toNat) (τ 101 (h.toNat))) => ?_))
                      have hIσ85 : tw_I σ85 := tw_I_up hIτ eσ85 (show (-2147483648 : Int) ≤ τ 101 (h.toNat) ∧ τ 101 (h.toNat) ≤ 2147483647 from ⟨by omega, by omega⟩)
                      have hFσ85 : tw_F (fun c j => c = 101) σ σ85 := tw_F_up hFτ eσ85 (show 101 = 101 from rfl)
                      refine j_iinc (pc := 167) (i := 3) (n := 1) (ls' := [(0, vR 88), (1, vI d), (2, vI h), (3, vI (f + 1))]) [1, 2, 3, 0] dX12_down_167 rfl (Nat.le_of_ble_eq_true rfl) rfl rfl ?_
                      refine j_goto (pc := 170) (tgt := 43) dX12_down_170 rfl ?_
                      refine j_ls (ls' := [(0, vR 88), (1, vI d), (2, vI h), (3, vI (f + 1))]) [0, 1, 2, 3] rfl ?_
                      exact ih.2 h ⟨by omega, by omega⟩ (f + 1) ⟨by omega, by omega⟩ σ85 hIσ85 hFσ85 (show 0 ≤ d ∧ d ≤ 40 from by omega) (show (f + 1) ≤ h from by omega) (show (100 * (41 - h) + 40 - (f + 1)).toNat < N_ from by omega)
                    · refine j_iload (pc := 155) dX12_down_155 rfl ?_
                      refine j_goto (pc := 157) (tgt := 166) dX12_down_157 rfl ?_
                      refine j_iast (pc := 166) dX12_down_166 (a_101 hM) (by omega) (by omega) (by decide) (j_nm (fun σ86 (eσ86 : σ86 = tw_up τ 101 (h.toNat) z79) => ?_))
                      have hIσ86 : tw_I σ86 := tw_I_up hIτ eσ86 (show (-2147483648 : Int) ≤ z79 ∧ z79 ≤ 2147483647 from ⟨by omega, by omega⟩)
                      have hFσ86 : tw_F (fun c j => c = 101) σ σ86 := tw_F_up hFτ eσ86 (show 101 = 101 from rfl)
                      refine j_iinc (pc := 167) (i := 3) (n := 1) (ls' := [(0, vR 88), (1, vI d), (2, vI h), (3, vI (f + 1))]) [1, 2, 3, 0] dX12_down_167 rfl (Nat.le_of_ble_eq_true rfl) rfl rfl ?_
                      refine j_goto (pc := 170) (tgt := 43) dX12_down_170 rfl ?_
                      refine j_ls (ls' := [(0, vR 88), (1, vI d), (2, vI h), (3, vI (f + 1))]) [0, 1, 2, 3] rfl ?_
                      exact ih.2 h ⟨by omega, by omega⟩ (f + 1) ⟨by omega, by omega⟩ σ86 hIσ86 hFσ86 (show 0 ≤ d ∧ d ≤ 40 from by omega) (show (f + 1) ≤ h from by omega) (show (100 * (41 - h) + 40 - (f + 1)).toNat < N_ from by omega)
set_option maxHeartbeats 4000000 in
set_option maxRecDepth 100000 in
theorem c_X12_down {G : tw_G} (hM : tw_isM G) (d : Int) (hd : -2147483648 ≤ d ∧ d ≤ 2147483647) (σ : tw_M) (hI : tw_I σ) : tw_C G yX12_down cX12_down 6 (some .int) 2 [vR 88, vI d] σ (q_X12_down d σ) := by
  refine tw_met [(0, vR 88), (1, vI d)] (by decide +kernel) rfl (Nat.le_of_ble_eq_true rfl) ?_
  refine j_iload_n (pc := 0) dX12_down_0 rfl rfl ?_
  refine j_i2l (pc := 1) dX12_down_1 ?_
  rw [w32_eq (a := d) (by omega) (by omega)]
  refine j_lconst (pc := 2) (z := 0) dX12_down_2 rfl ?_
  refine j_aload_n (pc := 3) dX12_down_3 rfl rfl ?_
  refine j_getR (pc := 4) (r := 91) fl_X12_17 dX12_down_4 (a_88 hM) rfl ?_
  refine j_iconst (pc := 7) dX12_down_7 ?_
  refine j_iald (pc := 8) dX12_down_8 (a_91 hM) (by omega) (by omega) (by decide) ?_
  refine j_topV (show σ 91 (Int.toNat 0) = σ 91 0 from rfl) ?_
  have f87 : (1 : Int) ≤ σ 91 0 ∧ σ 91 0 ≤ 40 := hI 91 0
  refine j_i2l (pc := 9) dX12_down_9 ?_
  rw [w32_eq (a := σ 91 0) (by omega) (by omega)]
  refine j_callS (pc := 10) (As := [vL d, vL 0, vL (σ 91 0)]) (st := []) (c_X12_in d ⟨by omega, by omega⟩ 0 (by (first | decide | exact ⟨by omega, by omega⟩)) (σ 91 0) ⟨by omega, by omega⟩ σ hI) ms_X12_82 rfl dX12_down_10 ⟨Nat.le_of_ble_eq_true rfl, Nat.le_of_ble_eq_true rfl⟩ ⟨Nat.le_refl _, Nat.le_refl _⟩ rfl (Nat.le_of_ble_eq_true rfl) rfl (fun z88 σ89 hz88 => ?_)
  obtain ⟨r91, rfl, hr91, rfl, q90_0⟩ := hz88
  replace q90_0 : (r91 = 1 ∧ (0 : Int) ≤ d ∧ d ≤ (σ 91 0)) ∨ (r91 = 0 ∧ ¬ ((0 : Int) ≤ d ∧ d ≤ (σ 91 0))) := q90_0
  refine j_st (st' := [vI r91]) rfl ?_
  refine j_ifR_ne (pc := 13) (tgt := 18) ⟨by omega, by omega⟩ dX12_down_13 rfl (fun h92 => ?_) (fun h92 => ?_)
  · refine j_iconst (pc := 18) dX12_down_18 ?_
    refine j_istore_n (pc := 19) (i := 2) (ls' := [(0, vR 88), (1, vI d), (2, vI 0)]) [1, 2, 0] dX12_down_19 rfl (Nat.le_of_ble_eq_true rfl) rfl rfl ?_
    refine j_ls (ls' := [(0, vR 88), (1, vI d), (2, vI 0)]) [0, 1, 2] rfl ?_
    exact (l_X12_down hM d hd σ hI (((100 * (41 - (0 : Int)) + 50).toNat) + 1)).1 0 (by (first | decide | exact ⟨by omega, by omega⟩)) σ hI (tw_F_rf) (show 0 ≤ d ∧ d ≤ 40 from by omega) (Nat.lt_succ_self _)
  · refine j_iconst (pc := 16) dX12_down_16 ?_
    exact j_iret (pc := 17) ⟨rfl, rfl⟩ dX12_down_17 rfl ⟨_, rfl, ⟨by omega, by omega⟩, hI, (tw_F_rf), trivial⟩
