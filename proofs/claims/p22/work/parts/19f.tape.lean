/-! 19f.tape -/
theorem dX9_footLine_0 : decode cX9_footLine 0 = .ok (.aload_n 0, 1) := by decide +kernel
theorem dX9_footLine_1 : decode cX9_footLine 1 = .ok (.iconst 1, 1) := by decide +kernel
theorem dX9_footLine_2 : decode cX9_footLine 2 = .ok (.bipush 40, 2) := by decide +kernel
theorem dX9_footLine_4 : decode cX9_footLine 4 = .ok (.invokevirtual 152, 3) := by decide +kernel
theorem dX9_footLine_7 : decode cX9_footLine 7 = .ok (.istore_n 1, 1) := by decide +kernel
theorem dX9_footLine_8 : decode cX9_footLine 8 = .ok (.aload_n 0, 1) := by decide +kernel
theorem dX9_footLine_9 : decode cX9_footLine 9 = .ok (.getfield 15, 3) := by decide +kernel
theorem dX9_footLine_12 : decode cX9_footLine 12 = .ok (.iload_n 1, 1) := by decide +kernel
theorem dX9_footLine_13 : decode cX9_footLine 13 = .ok (.baload, 1) := by decide +kernel
theorem dX9_footLine_14 : decode cX9_footLine 14 = .ok (.ifCond .eq 12, 3) := by decide +kernel
theorem dX9_footLine_17 : decode cX9_footLine 17 = .ok (.aload_n 0, 1) := by decide +kernel
theorem dX9_footLine_18 : decode cX9_footLine 18 = .ok (.iconst 4, 1) := by decide +kernel
theorem dX9_footLine_19 : decode cX9_footLine 19 = .ok (.aload_n 0, 1) := by decide +kernel
theorem dX9_footLine_20 : decode cX9_footLine 20 = .ok (.getfield 76, 3) := by decide +kernel
theorem dX9_footLine_23 : decode cX9_footLine 23 = .ok (.invokevirtual 61, 3) := by decide +kernel
theorem dX9_footLine_26 : decode cX9_footLine 26 = .ok (.aload_n 0, 1) := by decide +kernel
theorem dX9_footLine_27 : decode cX9_footLine 27 = .ok (.getfield 33, 3) := by decide +kernel
theorem dX9_footLine_30 : decode cX9_footLine 30 = .ok (.ifCond .eq 4, 3) := by decide +kernel
theorem dX9_footLine_33 : decode cX9_footLine 33 = .ok (.return_, 1) := by decide +kernel
theorem dX9_footLine_34 : decode cX9_footLine 34 = .ok (.aload_n 0, 1) := by decide +kernel
theorem dX9_footLine_35 : decode cX9_footLine 35 = .ok (.getfield 15, 3) := by decide +kernel
theorem dX9_footLine_38 : decode cX9_footLine 38 = .ok (.iload_n 1, 1) := by decide +kernel
theorem dX9_footLine_39 : decode cX9_footLine 39 = .ok (.iconst 1, 1) := by decide +kernel
theorem dX9_footLine_40 : decode cX9_footLine 40 = .ok (.bastore, 1) := by decide +kernel
theorem dX9_footLine_41 : decode cX9_footLine 41 = .ok (.aload_n 0, 1) := by decide +kernel
theorem dX9_footLine_42 : decode cX9_footLine 42 = .ok (.aload_n 0, 1) := by decide +kernel
theorem dX9_footLine_43 : decode cX9_footLine 43 = .ok (.getfield 54, 3) := by decide +kernel
theorem dX9_footLine_46 : decode cX9_footLine 46 = .ok (.iload_n 1, 1) := by decide +kernel
theorem dX9_footLine_47 : decode cX9_footLine 47 = .ok (.invokestatic 156, 3) := by decide +kernel
theorem dX9_footLine_50 : decode cX9_footLine 50 = .ok (.putfield 54, 3) := by decide +kernel
theorem dX9_footLine_53 : decode cX9_footLine 53 = .ok (.aload_n 0, 1) := by decide +kernel
theorem dX9_footLine_54 : decode cX9_footLine 54 = .ok (.invokevirtual 45, 3) := by decide +kernel
theorem dX9_footLine_57 : decode cX9_footLine 57 = .ok (.aload_n 0, 1) := by decide +kernel
theorem dX9_footLine_58 : decode cX9_footLine 58 = .ok (.getfield 25, 3) := by decide +kernel
theorem dX9_footLine_61 : decode cX9_footLine 61 = .ok (.getfield 161, 3) := by decide +kernel
theorem dX9_footLine_64 : decode cX9_footLine 64 = .ok (.iload_n 1, 1) := by decide +kernel
theorem dX9_footLine_65 : decode cX9_footLine 65 = .ok (.aload_n 0, 1) := by decide +kernel
theorem dX9_footLine_66 : decode cX9_footLine 66 = .ok (.iconst 0, 1) := by decide +kernel
theorem dX9_footLine_67 : decode cX9_footLine 67 = .ok (.bipush 9, 2) := by decide +kernel
theorem dX9_footLine_69 : decode cX9_footLine 69 = .ok (.invokevirtual 152, 3) := by decide +kernel
theorem dX9_footLine_72 : decode cX9_footLine 72 = .ok (.iastore, 1) := by decide +kernel
theorem dX9_footLine_73 : decode cX9_footLine 73 = .ok (.aload_n 0, 1) := by decide +kernel
theorem dX9_footLine_74 : decode cX9_footLine 74 = .ok (.invokevirtual 45, 3) := by decide +kernel
theorem dX9_footLine_77 : decode cX9_footLine 77 = .ok (.iconst 0, 1) := by decide +kernel
theorem dX9_footLine_78 : decode cX9_footLine 78 = .ok (.istore_n 2, 1) := by decide +kernel
theorem dX9_footLine_79 : decode cX9_footLine 79 = .ok (.iconst 0, 1) := by decide +kernel
theorem dX9_footLine_80 : decode cX9_footLine 80 = .ok (.istore_n 3, 1) := by decide +kernel
theorem dX9_footLine_81 : decode cX9_footLine 81 = .ok (.iload_n 3, 1) := by decide +kernel
theorem dX9_footLine_82 : decode cX9_footLine 82 = .ok (.sipush 400, 3) := by decide +kernel
theorem dX9_footLine_85 : decode cX9_footLine 85 = .ok (.if_icmp .ge 87, 3) := by decide +kernel
theorem dX9_footLine_88 : decode cX9_footLine 88 = .ok (.aload_n 0, 1) := by decide +kernel
theorem dX9_footLine_89 : decode cX9_footLine 89 = .ok (.getfield 33, 3) := by decide +kernel
theorem dX9_footLine_92 : decode cX9_footLine 92 = .ok (.ifCond .ne 80, 3) := by decide +kernel
theorem dX9_footLine_95 : decode cX9_footLine 95 = .ok (.aload_n 0, 1) := by decide +kernel
theorem dX9_footLine_96 : decode cX9_footLine 96 = .ok (.getfield 48, 3) := by decide +kernel
theorem dX9_footLine_99 : decode cX9_footLine 99 = .ok (.iconst 3, 1) := by decide +kernel
theorem dX9_footLine_100 : decode cX9_footLine 100 = .ok (.if_icmp .eq 72, 3) := by decide +kernel
theorem dX9_footLine_103 : decode cX9_footLine 103 = .ok (.aload_n 0, 1) := by decide +kernel
theorem dX9_footLine_104 : decode cX9_footLine 104 = .ok (.invokevirtual 165, 3) := by decide +kernel
theorem dX9_footLine_107 : decode cX9_footLine 107 = .ok (.istore 4, 2) := by decide +kernel
theorem dX9_footLine_109 : decode cX9_footLine 109 = .ok (.iload 4, 2) := by decide +kernel
theorem dX9_footLine_111 : decode cX9_footLine 111 = .ok (.ifCond .ge 15, 3) := by decide +kernel
theorem dX9_footLine_114 : decode cX9_footLine 114 = .ok (.aload_n 0, 1) := by decide +kernel
theorem dX9_footLine_115 : decode cX9_footLine 115 = .ok (.iconst 2, 1) := by decide +kernel
theorem dX9_footLine_116 : decode cX9_footLine 116 = .ok (.aload_n 0, 1) := by decide +kernel
theorem dX9_footLine_117 : decode cX9_footLine 117 = .ok (.getfield 76, 3) := by decide +kernel
theorem dX9_footLine_120 : decode cX9_footLine 120 = .ok (.invokevirtual 61, 3) := by decide +kernel
theorem dX9_footLine_123 : decode cX9_footLine 123 = .ok (.goto 31, 3) := by decide +kernel
theorem dX9_footLine_126 : decode cX9_footLine 126 = .ok (.iload_n 2, 1) := by decide +kernel
theorem dX9_footLine_127 : decode cX9_footLine 127 = .ok (.iload 4, 2) := by decide +kernel
theorem dX9_footLine_129 : decode cX9_footLine 129 = .ok (.ishr, 1) := by decide +kernel
theorem dX9_footLine_130 : decode cX9_footLine 130 = .ok (.iconst 1, 1) := by decide +kernel
theorem dX9_footLine_131 : decode cX9_footLine 131 = .ok (.iand, 1) := by decide +kernel
theorem dX9_footLine_132 : decode cX9_footLine 132 = .ok (.ifCond .eq 15, 3) := by decide +kernel
theorem dX9_footLine_135 : decode cX9_footLine 135 = .ok (.aload_n 0, 1) := by decide +kernel
theorem dX9_footLine_136 : decode cX9_footLine 136 = .ok (.iconst 4, 1) := by decide +kernel
theorem dX9_footLine_137 : decode cX9_footLine 137 = .ok (.aload_n 0, 1) := by decide +kernel
theorem dX9_footLine_138 : decode cX9_footLine 138 = .ok (.getfield 76, 3) := by decide +kernel
theorem dX9_footLine_141 : decode cX9_footLine 141 = .ok (.invokevirtual 61, 3) := by decide +kernel
theorem dX9_footLine_144 : decode cX9_footLine 144 = .ok (.goto 10, 3) := by decide +kernel
theorem dX9_footLine_147 : decode cX9_footLine 147 = .ok (.aload_n 0, 1) := by decide +kernel
theorem dX9_footLine_148 : decode cX9_footLine 148 = .ok (.iload_n 1, 1) := by decide +kernel
theorem dX9_footLine_149 : decode cX9_footLine 149 = .ok (.iload 4, 2) := by decide +kernel
theorem dX9_footLine_151 : decode cX9_footLine 151 = .ok (.invokevirtual 168, 3) := by decide +kernel
theorem dX9_footLine_154 : decode cX9_footLine 154 = .ok (.iload 4, 2) := by decide +kernel
theorem dX9_footLine_156 : decode cX9_footLine 156 = .ok (.ifCond .lt 10, 3) := by decide +kernel
theorem dX9_footLine_159 : decode cX9_footLine 159 = .ok (.iload_n 2, 1) := by decide +kernel
theorem dX9_footLine_160 : decode cX9_footLine 160 = .ok (.iconst 1, 1) := by decide +kernel
theorem dX9_footLine_161 : decode cX9_footLine 161 = .ok (.iload 4, 2) := by decide +kernel
theorem dX9_footLine_163 : decode cX9_footLine 163 = .ok (.ishl, 1) := by decide +kernel
theorem dX9_footLine_164 : decode cX9_footLine 164 = .ok (.ior, 1) := by decide +kernel
theorem dX9_footLine_165 : decode cX9_footLine 165 = .ok (.istore_n 2, 1) := by decide +kernel
theorem dX9_footLine_166 : decode cX9_footLine 166 = .ok (.iinc 3 1, 3) := by decide +kernel
theorem dX9_footLine_169 : decode cX9_footLine 169 = .ok (.goto (-88), 3) := by decide +kernel
theorem dX9_footLine_172 : decode cX9_footLine 172 = .ok (.return_, 1) := by decide +kernel
abbrev q_X9_footLine  (σ : tw_M) : Option tw_V → tw_M → Prop := fun z τ => z = none ∧ tw_I τ ∧ tw_F (fun c j => (c = 10 ∧ (j = 4 ∨ j = 5 ∨ j = 6 ∨ j = 7 ∨ j = 8 ∨ j = 11 ∨ j = 12)) ∨ c = 12 ∨ (14 ≤ c ∧ c < 23)) σ τ ∧ (aX τ = footX (fX σ) (aX σ)) ∧ (¬ σ 10 5 ≤ σ 10 10 ∨ τ 10 5 ≤ σ 10 10) ∧ (¬ τ 10 11 = 0 ∨ (σ 10 11 = 0 ∧ σ 10 5 ≤ τ 10 5))
set_option maxHeartbeats 4000000 in
set_option maxRecDepth 100000 in
theorem l_X9_footLine {G : tw_G} (hX : tw_isX G) (σ : tw_M) (hI : tw_I σ) : ∀ N_ : Nat, (∀ (h : Int) (hh : 1 ≤ h ∧ h ≤ 40) (t : Int) (ht : -2147483648 ≤ t ∧ t ≤ 2147483647) (i : Int) (hi : 0 ≤ i ∧ i ≤ 400) (τ : tw_M) (hIτ : tw_I τ) (hFτ : tw_F (fun c j => (c = 10 ∧ (j = 4 ∨ j = 5 ∨ j = 6 ∨ j = 7 ∨ j = 8 ∨ j = 11 ∨ j = 12)) ∨ c = 12 ∨ (14 ≤ c ∧ c < 23)) σ τ) (i0 : (it wstopX (wstepX (fX σ) h) wmes (aX τ, t)).1 = footX (fX σ) (aX σ)) (i1 : ¬ σ 10 5 ≤ σ 10 10 ∨ τ 10 5 ≤ σ 10 10) (i2 : ¬ τ 10 11 = 0 ∨ (σ 10 11 = 0 ∧ σ 10 5 ≤ τ 10 5)) (i3 : ¬ τ 10 11 = 0 ∨ (τ 10 6 = 0 ∧ i + 1 ≤ τ 10 5) ∨ i + 2 ≤ τ 10 5) (hm : (400 - i).toNat < N_), tw_J G (tw_mt RX9 cX9_footLine 5 none 6) (tw_E G (q_X9_footLine σ)) 81 [(0, vR 10), (1, vI h), (2, vI t), (3, vI i)] [] τ) := by
  intro N_
  induction N_ with
  | zero => exact fun h hh t ht i hi τ hIτ hFτ i0 i1 i2 i3 hm => absurd hm (Nat.not_lt_zero _)
  | succ N_ ih =>
    intro h hh t ht i hi τ hIτ hFτ i0 i1 i2 i3 hm
    have fx : fX τ = fX σ := fX_F (hFτ 10 10 (show ¬ ((10 = 10 ∧ (10 = 4 ∨ 10 = 5 ∨ 10 = 6 ∨ 10 = 7 ∨ 10 = 8 ∨ 10 = 11 ∨ 10 = 12)) ∨ 10 = 12 ∨ (14 ≤ 10 ∧ 10 < 23)) from by decide)) (fun j => hFτ 11 j (show ¬ ((11 = 10 ∧ (j = 4 ∨ j = 5 ∨ j = 6 ∨ j = 7 ∨ j = 8 ∨ j = 11 ∨ j = 12)) ∨ 11 = 12 ∨ (14 ≤ 11 ∧ 11 < 23)) from fun h => h.elim (fun h => absurd h.1 (by decide)) (fun h => h.elim (fun h => absurd h (by decide)) (fun h => absurd h (by decide)))))
    have f10 : (0 : Int) ≤ σ 10 10 ∧ σ 10 10 ≤ 400 := hI 10 10
    have e10 : τ 10 10 = σ 10 10 := hFτ 10 10 (show ¬ ((10 = 10 ∧ (10 = 4 ∨ 10 = 5 ∨ 10 = 6 ∨ 10 = 7 ∨ 10 = 8 ∨ 10 = 11 ∨ 10 = 12)) ∨ 10 = 12 ∨ (14 ≤ 10 ∧ 10 < 23)) from by decide); have f05 : (0 : Int) ≤ σ 10 5 ∧ σ 10 5 ≤ 400 := hI 10 5; have f15 : (0 : Int) ≤ τ 10 5 ∧ τ 10 5 ≤ 400 := hIτ 10 5
    refine j_iload_n (pc := 81) dX9_footLine_81 rfl rfl ?_
    refine j_sipush (pc := 82) dX9_footLine_82 rfl ?_
    refine j_icmpR_ge (pc := 85) (tgt := 172) ⟨by omega, by omega⟩ ⟨by omega, by omega⟩ dX9_footLine_85 rfl (fun h1 => ?_) (fun h1 => ?_)
    · exact j_vret (pc := 172) ⟨rfl, rfl⟩ dX9_footLine_172 rfl ⟨rfl, hIτ, hFτ, (by first | (rw [← i0, it_n (wstopX_t (by omega))]) | exact footX_no c1 c2 (by rw [aX_4]; omega) | (exfalso; omega)), (by skip; omega), (by skip; omega)⟩
    · refine j_aload_n (pc := 88) dX9_footLine_88 rfl rfl ?_
      refine j_getI (pc := 89) fl_X9_33 dX9_footLine_89 (a_10 hX) rfl ?_
      have f2 : (0 : Int) ≤ τ 10 11 ∧ τ 10 11 ≤ 5 := hIτ 10 11
      refine j_ifR_ne (pc := 92) (tgt := 172) ⟨by omega, by omega⟩ dX9_footLine_92 rfl (fun h3 => ?_) (fun h3 => ?_)
      · exact j_vret (pc := 172) ⟨rfl, rfl⟩ dX9_footLine_172 rfl ⟨rfl, hIτ, hFτ, (by first | (rw [← i0, it_n (wstopX_t (by omega))]) | exact footX_no c1 c2 (by rw [aX_4]; omega) | (exfalso; omega)), (by skip; omega), (by skip; omega)⟩
      · refine j_aload_n (pc := 95) dX9_footLine_95 rfl rfl ?_
        refine j_getI (pc := 96) fl_X9_48 dX9_footLine_96 (a_10 hX) rfl ?_
        have f4 : (0 : Int) ≤ τ 10 6 ∧ τ 10 6 ≤ 3 := hIτ 10 6
        refine j_iconst (pc := 99) dX9_footLine_99 ?_
        refine j_icmpR_eq (pc := 100) (tgt := 172) ⟨by omega, by omega⟩ ⟨by omega, by omega⟩ dX9_footLine_100 rfl (fun h5 => ?_) (fun h5 => ?_)
        · exact j_vret (pc := 172) ⟨rfl, rfl⟩ dX9_footLine_172 rfl ⟨rfl, hIτ, hFτ, (by first | (rw [← i0, it_n (wstopX_t (by omega))]) | exact footX_no c1 c2 (by rw [aX_4]; omega) | (exfalso; omega)), (by skip; omega), (by skip; omega)⟩
        · have hs := wstopX_f (τ := τ) (t := t) (by omega) (by omega)
          have i9 : i ≤ 399 := by omega
          refine j_aload_n (pc := 103) dX9_footLine_103 rfl rfl ?_
          refine j_callV (pc := 104) (As := []) (st := []) (c_X9_withName hX τ hIτ) mv_X9_165 rfl rfl rfl (a_10 hX) dX9_footLine_104 ⟨Nat.le_of_ble_eq_true rfl, Nat.le_of_ble_eq_true rfl⟩ ⟨Nat.le_refl _, Nat.le_refl _⟩ rfl (Nat.le_of_ble_eq_true rfl) rfl (fun z6 σ7 hz6 => ?_)
          obtain ⟨r9, rfl, hr9, rfl, q8_0⟩ := hz6
          replace q8_0 : r9 = wnm (fX τ) (τ 10 6) (τ 10 7) (τ 10 5) := q8_0
          refine j_st (st' := [vI r9]) rfl ?_
          refine j_istore (pc := 107) (i := 4) (ls' := [(0, vR 10), (1, vI h), (2, vI t), (3, vI i), (4, vI r9)]) [1, 2, 3, 4, 0] dX9_footLine_107 (Nat.le_of_ble_eq_true rfl) rfl rfl ?_
          have w1 := q8_0; rw [fx] at w1
          have w2 := wnm_aX (by omega) w1
          have w3 := wnm_in (fX σ) (τ 10 6) (τ 10 7) (τ 10 5)
          refine j_iload (pc := 109) dX9_footLine_109 rfl ?_
          refine j_ifR_ge (pc := 111) (tgt := 126) ⟨by omega, by omega⟩ dX9_footLine_111 rfl (fun h10 => ?_) (fun h10 => ?_)
          · refine j_iload_n (pc := 126) dX9_footLine_126 rfl rfl ?_
            refine j_iload (pc := 127) dX9_footLine_127 rfl ?_
            refine j_ishr (pc := 129) dX9_footLine_129 (fun z11 ez11 => ?_)
            have hz11 : (-2147483648 : Int) ≤ z11 ∧ z11 ≤ 2147483647 := by rw [ez11]; exact shr_in _ _
            have b1 := ez11
            refine j_iconst (pc := 130) dX9_footLine_130 ?_
            refine j_iand (pc := 131) dX9_footLine_131 (fun z12 ez12 => ?_)
            have hz12 : (-2147483648 : Int) ≤ z12 ∧ z12 ≤ 2147483647 := by rw [ez12]; exact and_in _ _
            have b2 := ez12; rw [b1] at b2
            refine j_ifR_eq (pc := 132) (tgt := 147) ⟨by omega, by omega⟩ dX9_footLine_132 rfl (fun h13 => ?_) (fun h13 => ?_)
            · have wk : τ 10 6 = 1 := by clear i0 i1 i2 i3; omega
              refine j_aload_n (pc := 147) dX9_footLine_147 rfl rfl ?_
              refine j_iload_n (pc := 148) dX9_footLine_148 rfl rfl ?_
              refine j_iload (pc := 149) dX9_footLine_149 rfl ?_
              refine j_callV (pc := 151) (As := [vI h, vI r9]) (st := []) (c_X9_readWith hX h ⟨by omega, by omega⟩ r9 ⟨by omega, by omega⟩ τ hIτ) mv_X9_168 rfl rfl rfl (a_10 hX) dX9_footLine_151 ⟨Nat.le_of_ble_eq_true rfl, Nat.le_of_ble_eq_true rfl⟩ ⟨Nat.le_refl _, Nat.le_refl _⟩ rfl (Nat.le_of_ble_eq_true rfl) rfl (fun z14 σ15 hz14 => ?_)
              obtain ⟨rfl, hIσ15, hGσ15, q16_0, q16_1, q16_2, q16_3⟩ := hz14
              replace q16_0 : aX σ15 = withX (fX τ) h r9 (aX τ) := q16_0
              replace q16_1 : ¬ τ 10 5 ≤ τ 10 10 ∨ σ15 10 5 ≤ τ 10 10 := q16_1
              replace q16_2 : ¬ σ15 10 11 = 0 ∨ (τ 10 11 = 0 ∧ τ 10 5 ≤ σ15 10 5) := q16_2
              replace q16_3 : ¬ σ15 10 11 = 0 ∨ σ15 10 6 = 0 ∨ τ 10 5 < σ15 10 5 := q16_3
              have hFσ15 : tw_F (fun c j => (c = 10 ∧ (j = 4 ∨ j = 5 ∨ j = 6 ∨ j = 7 ∨ j = 8 ∨ j = 11 ∨ j = 12)) ∨ c = 12 ∨ (14 ≤ c ∧ c < 23)) σ σ15 := tw_F_tr hFτ hGσ15 (fun c j q => (show (c = 10 ∧ (j = 4 ∨ j = 5 ∨ j = 6 ∨ j = 7 ∨ j = 8 ∨ j = 11 ∨ j = 12)) ∨ c = 12 ∨ (14 ≤ c ∧ c < 23) from by replace q : (c = 10 ∧ (j = 5 ∨ j = 6 ∨ j = 7 ∨ j = 8 ∨ j = 11 ∨ j = 12)) ∨ (14 ≤ c ∧ c < 23) := q; exact (q.elim (fun q => (Or.inl ⟨q.1, (q.2.elim (fun z => (Or.inr (Or.inl z))) (fun z => (z.elim (fun z => (Or.inr (Or.inr (Or.inl z)))) (fun z => (z.elim (fun z => (Or.inr (Or.inr (Or.inr (Or.inl z))))) (fun z => (z.elim (fun z => (Or.inr (Or.inr (Or.inr (Or.inr (Or.inl z)))))) (fun z => (z.elim (fun z => (Or.inr (Or.inr (Or.inr (Or.inr (Or.inr (Or.inl z))))))) (fun z => (Or.inr (Or.inr (Or.inr (Or.inr (Or.inr (Or.inr z))))))))))))))))⟩)) (fun q => (Or.inr (Or.inr q))))))
              refine j_st (st' := []) rfl ?_
              have aa := q16_0; rw [fx] at aa
              refine j_iload (pc := 154) dX9_footLine_154 rfl ?_
              refine j_ifR_lt (pc := 156) (tgt := 166) ⟨by omega, by omega⟩ dX9_footLine_156 rfl (fun h18 => by exfalso; omega) (fun h18 => ?_)
              refine j_iload_n (pc := 159) dX9_footLine_159 rfl rfl ?_
              refine j_iconst (pc := 160) dX9_footLine_160 ?_
              refine j_iload (pc := 161) dX9_footLine_161 rfl ?_
              refine j_ishl (pc := 163) dX9_footLine_163 (fun z19 ez19 => ?_)
              have hz19 : (-2147483648 : Int) ≤ z19 ∧ z19 ≤ 2147483647 := by rw [ez19]; exact shl_in _ _
              have t1 := ez19
              refine j_ior (pc := 164) dX9_footLine_164 (fun z20 ez20 => ?_)
              have hz20 : (-2147483648 : Int) ≤ z20 ∧ z20 ≤ 2147483647 := by rw [ez20]; exact or_in _ _
              have t2 := ez20; rw [t1] at t2
              refine j_istore_n (pc := 165) (i := 2) (ls' := [(0, vR 10), (1, vI h), (2, vI z20), (3, vI i)]) [1, 2, 0, 3] dX9_footLine_165 rfl (Nat.le_of_ble_eq_true rfl) rfl rfl ?_
              have nx : (it wstopX (wstepX (fX σ) h) wmes (aX σ15, z20)).1 = footX (fX σ) (aX σ) := by rw [aa, t2, ← wstep_yes (h := h) (t := t) w2 (by omega) (by rw [← b2]; omega), ← it_s (wstepX_go (fX_FB f10)) hs]; exact i0
              refine j_iinc (pc := 166) (i := 3) (n := 1) (ls' := [(0, vR 10), (1, vI h), (2, vI z20), (3, vI (i + 1))]) [1, 2, 3, 0] dX9_footLine_166 rfl (Nat.le_of_ble_eq_true rfl) rfl rfl ?_
              refine j_goto (pc := 169) (tgt := 81) dX9_footLine_169 rfl ?_
              refine j_ls (ls' := [(0, vR 10), (1, vI h), (2, vI z20), (3, vI (i + 1))]) [0, 1, 2, 3] rfl ?_
              exact ih h ⟨by omega, by omega⟩ z20 ⟨by omega, by omega⟩ (i + 1) ⟨by omega, by omega⟩ σ15 hIσ15 hFσ15 (show (it wstopX (wstepX (fX σ) h) wmes (aX σ15, z20)).1 = footX (fX σ) (aX σ) from nx) (show ¬ σ 10 5 ≤ σ 10 10 ∨ σ15 10 5 ≤ σ 10 10 from (by clear q8_0 q16_0 q16_2 q16_3; omega)) (show ¬ σ15 10 11 = 0 ∨ (σ 10 11 = 0 ∧ σ 10 5 ≤ σ15 10 5) from (by clear q8_0 q16_0 q16_1 q16_3; omega)) (show ¬ σ15 10 11 = 0 ∨ (σ15 10 6 = 0 ∧ (i + 1) + 1 ≤ σ15 10 5) ∨ (i + 1) + 2 ≤ σ15 10 5 from (by clear q8_0 q16_0 q16_1; omega)) (show (400 - (i + 1)).toNat < N_ from by omega)
            · refine j_aload_n (pc := 135) dX9_footLine_135 rfl rfl ?_
              refine j_iconst (pc := 136) dX9_footLine_136 ?_
              refine j_aload_n (pc := 137) dX9_footLine_137 rfl rfl ?_
              refine j_getI (pc := 138) fl_X9_76 dX9_footLine_138 (a_10 hX) rfl ?_
              have f21 : (0 : Int) ≤ τ 10 7 ∧ τ 10 7 ≤ 400 := hIτ 10 7
              refine j_callV (pc := 141) (As := [vI 4, vI (τ 10 7)]) (st := []) (c_X9_fail hX 4 (by (first | decide | exact ⟨by omega, by omega⟩)) (τ 10 7) ⟨by omega, by omega⟩ τ hIτ) mv_X9_61 rfl rfl rfl (a_10 hX) dX9_footLine_141 ⟨Nat.le_of_ble_eq_true rfl, Nat.le_of_ble_eq_true rfl⟩ ⟨Nat.le_refl _, Nat.le_refl _⟩ rfl (Nat.le_of_ble_eq_true rfl) rfl (fun z22 σ23 hz22 => ?_)
              obtain ⟨rfl, hIσ23, hGσ23, q24_0⟩ := hz22
              replace q24_0 : (τ 10 11 = 0 ∧ σ23 10 11 = (4 : Int) ∧ σ23 10 12 = (τ 10 7)) ∨ (¬ τ 10 11 = 0 ∧ σ23 10 11 = τ 10 11 ∧ σ23 10 12 = τ 10 12) := q24_0
              have hFσ23 : tw_F (fun c j => (c = 10 ∧ (j = 4 ∨ j = 5 ∨ j = 6 ∨ j = 7 ∨ j = 8 ∨ j = 11 ∨ j = 12)) ∨ c = 12 ∨ (14 ≤ c ∧ c < 23)) σ σ23 := tw_F_tr hFτ hGσ23 (fun c j q => (show (c = 10 ∧ (j = 4 ∨ j = 5 ∨ j = 6 ∨ j = 7 ∨ j = 8 ∨ j = 11 ∨ j = 12)) ∨ c = 12 ∨ (14 ≤ c ∧ c < 23) from by replace q : (c = 10 ∧ (j = 11 ∨ j = 12)) := q; exact (Or.inl ⟨q.1, (q.2.elim (fun z => (Or.inr (Or.inr (Or.inr (Or.inr (Or.inr (Or.inl z))))))) (fun z => (Or.inr (Or.inr (Or.inr (Or.inr (Or.inr (Or.inr z))))))))⟩)))
              refine j_st (st' := []) rfl ?_
              have aa : aX σ23 = need false 4 (aX τ) := aX_need (by decide) (fun _ => rfl) (by clear q8_0; clear i0 i1 i2 i3; omega)
              refine j_goto (pc := 144) (tgt := 154) dX9_footLine_144 rfl ?_
              refine j_iload (pc := 154) dX9_footLine_154 rfl ?_
              refine j_ifR_lt (pc := 156) (tgt := 166) ⟨by omega, by omega⟩ dX9_footLine_156 rfl (fun h26 => by exfalso; omega) (fun h26 => ?_)
              refine j_iload_n (pc := 159) dX9_footLine_159 rfl rfl ?_
              refine j_iconst (pc := 160) dX9_footLine_160 ?_
              refine j_iload (pc := 161) dX9_footLine_161 rfl ?_
              refine j_ishl (pc := 163) dX9_footLine_163 (fun z27 ez27 => ?_)
              have hz27 : (-2147483648 : Int) ≤ z27 ∧ z27 ≤ 2147483647 := by rw [ez27]; exact shl_in _ _
              have t1 := ez27
              refine j_ior (pc := 164) dX9_footLine_164 (fun z28 ez28 => ?_)
              have hz28 : (-2147483648 : Int) ≤ z28 ∧ z28 ≤ 2147483647 := by rw [ez28]; exact or_in _ _
              have t2 := ez28; rw [t1] at t2
              refine j_istore_n (pc := 165) (i := 2) (ls' := [(0, vR 10), (1, vI h), (2, vI z28), (3, vI i)]) [1, 2, 0, 3] dX9_footLine_165 rfl (Nat.le_of_ble_eq_true rfl) rfl rfl ?_
              have nx : (it wstopX (wstepX (fX σ) h) wmes (aX σ23, z28)).1 = footX (fX σ) (aX σ) := by rw [aa, t2, ← wstep_told (h := h) (t := t) w2 (by omega) (by rw [← b2]; omega), ← it_s (wstepX_go (fX_FB f10)) hs]; exact i0
              refine j_iinc (pc := 166) (i := 3) (n := 1) (ls' := [(0, vR 10), (1, vI h), (2, vI z28), (3, vI (i + 1))]) [1, 2, 3, 0] dX9_footLine_166 rfl (Nat.le_of_ble_eq_true rfl) rfl rfl ?_
              refine j_goto (pc := 169) (tgt := 81) dX9_footLine_169 rfl ?_
              refine j_ls (ls' := [(0, vR 10), (1, vI h), (2, vI z28), (3, vI (i + 1))]) [0, 1, 2, 3] rfl ?_
              have y29 : σ23 10 5 = τ 10 5 := (hGσ23 10 5 (show ¬ ((10 = 10 ∧ (5 = 11 ∨ 5 = 12))) from by decide))
              have f30 : (0 : Int) ≤ τ 10 5 ∧ τ 10 5 ≤ 400 := hIτ 10 5
              have y31 : σ23 10 5 = τ 10 5 := (hGσ23 10 5 (show ¬ ((10 = 10 ∧ (5 = 11 ∨ 5 = 12))) from by decide))
              have y32 : σ23 10 6 = τ 10 6 := (hGσ23 10 6 (show ¬ ((10 = 10 ∧ (6 = 11 ∨ 6 = 12))) from by decide))
              have y33 : σ23 10 5 = τ 10 5 := (hGσ23 10 5 (show ¬ ((10 = 10 ∧ (5 = 11 ∨ 5 = 12))) from by decide))
              exact ih h ⟨by omega, by omega⟩ z28 ⟨by omega, by omega⟩ (i + 1) ⟨by omega, by omega⟩ σ23 hIσ23 hFσ23 (show (it wstopX (wstepX (fX σ) h) wmes (aX σ23, z28)).1 = footX (fX σ) (aX σ) from nx) (show ¬ σ 10 5 ≤ σ 10 10 ∨ σ23 10 5 ≤ σ 10 10 from (by clear q8_0 q24_0; omega)) (show ¬ σ23 10 11 = 0 ∨ (σ 10 11 = 0 ∧ σ 10 5 ≤ σ23 10 5) from (by clear q8_0; omega)) (show ¬ σ23 10 11 = 0 ∨ (σ23 10 6 = 0 ∧ (i + 1) + 1 ≤ σ23 10 5) ∨ (i + 1) + 2 ≤ σ23 10 5 from (by clear q8_0; omega)) (show (400 - (i + 1)).toNat < N_ from by omega)
          · refine j_aload_n (pc := 114) dX9_footLine_114 rfl rfl ?_
            refine j_iconst (pc := 115) dX9_footLine_115 ?_
            refine j_aload_n (pc := 116) dX9_footLine_116 rfl rfl ?_
            refine j_getI (pc := 117) fl_X9_76 dX9_footLine_117 (a_10 hX) rfl ?_
            have f34 : (0 : Int) ≤ τ 10 7 ∧ τ 10 7 ≤ 400 := hIτ 10 7
            refine j_callV (pc := 120) (As := [vI 2, vI (τ 10 7)]) (st := []) (c_X9_fail hX 2 (by (first | decide | exact ⟨by omega, by omega⟩)) (τ 10 7) ⟨by omega, by omega⟩ τ hIτ) mv_X9_61 rfl rfl rfl (a_10 hX) dX9_footLine_120 ⟨Nat.le_of_ble_eq_true rfl, Nat.le_of_ble_eq_true rfl⟩ ⟨Nat.le_refl _, Nat.le_refl _⟩ rfl (Nat.le_of_ble_eq_true rfl) rfl (fun z35 σ36 hz35 => ?_)
            obtain ⟨rfl, hIσ36, hGσ36, q37_0⟩ := hz35
            replace q37_0 : (τ 10 11 = 0 ∧ σ36 10 11 = (2 : Int) ∧ σ36 10 12 = (τ 10 7)) ∨ (¬ τ 10 11 = 0 ∧ σ36 10 11 = τ 10 11 ∧ σ36 10 12 = τ 10 12) := q37_0
            have hFσ36 : tw_F (fun c j => (c = 10 ∧ (j = 4 ∨ j = 5 ∨ j = 6 ∨ j = 7 ∨ j = 8 ∨ j = 11 ∨ j = 12)) ∨ c = 12 ∨ (14 ≤ c ∧ c < 23)) σ σ36 := tw_F_tr hFτ hGσ36 (fun c j q => (show (c = 10 ∧ (j = 4 ∨ j = 5 ∨ j = 6 ∨ j = 7 ∨ j = 8 ∨ j = 11 ∨ j = 12)) ∨ c = 12 ∨ (14 ≤ c ∧ c < 23) from by replace q : (c = 10 ∧ (j = 11 ∨ j = 12)) := q; exact (Or.inl ⟨q.1, (q.2.elim (fun z => (Or.inr (Or.inr (Or.inr (Or.inr (Or.inr (Or.inl z))))))) (fun z => (Or.inr (Or.inr (Or.inr (Or.inr (Or.inr (Or.inr z))))))))⟩)))
            refine j_st (st' := []) rfl ?_
            have aa : aX σ36 = need false 2 (aX τ) := aX_need (by decide) (fun _ => rfl) (by clear q8_0; clear i0 i1 i2 i3; omega)
            refine j_goto (pc := 123) (tgt := 154) dX9_footLine_123 rfl ?_
            refine j_iload (pc := 154) dX9_footLine_154 rfl ?_
            refine j_ifR_lt (pc := 156) (tgt := 166) ⟨by omega, by omega⟩ dX9_footLine_156 rfl (fun h39 => ?_) (fun h39 => by exfalso; omega)
            have nx : (it wstopX (wstepX (fX σ) h) wmes (aX σ36, t)).1 = footX (fX σ) (aX σ) := by rw [aa, ← wstep_no (h := h) (t := t) w2 (by omega), ← it_s (wstepX_go (fX_FB f10)) hs]; exact i0
            refine j_iinc (pc := 166) (i := 3) (n := 1) (ls' := [(0, vR 10), (1, vI h), (2, vI t), (3, vI (i + 1))]) [1, 2, 3, 0] dX9_footLine_166 rfl (Nat.le_of_ble_eq_true rfl) rfl rfl ?_
            refine j_goto (pc := 169) (tgt := 81) dX9_footLine_169 rfl ?_
            refine j_ls (ls' := [(0, vR 10), (1, vI h), (2, vI t), (3, vI (i + 1))]) [0, 1, 2, 3] rfl ?_
            have y40 : σ36 10 5 = τ 10 5 := (hGσ36 10 5 (show ¬ ((10 = 10 ∧ (5 = 11 ∨ 5 = 12))) from by decide))
            have f41 : (0 : Int) ≤ τ 10 5 ∧ τ 10 5 ≤ 400 := hIτ 10 5
            have y42 : σ36 10 5 = τ 10 5 := (hGσ36 10 5 (show ¬ ((10 = 10 ∧ (5 = 11 ∨ 5 = 12))) from by decide))
            have y43 : σ36 10 6 = τ 10 6 := (hGσ36 10 6 (show ¬ ((10 = 10 ∧ (6 = 11 ∨ 6 = 12))) from by decide))
            have y44 : σ36 10 5 = τ 10 5 := (hGσ36 10 5 (show ¬ ((10 = 10 ∧ (5 = 11 ∨ 5 = 12))) from by decide))
            exact ih h ⟨by omega, by omega⟩ t ⟨by omega, by omega⟩ (i + 1) ⟨by omega, by omega⟩ σ36 hIσ36 hFσ36 (show (it wstopX (wstepX (fX σ) h) wmes (aX σ36, t)).1 = footX (fX σ) (aX σ) from nx) (show ¬ σ 10 5 ≤ σ 10 10 ∨ σ36 10 5 ≤ σ 10 10 from (by clear q8_0 q37_0; omega)) (show ¬ σ36 10 11 = 0 ∨ (σ 10 11 = 0 ∧ σ 10 5 ≤ σ36 10 5) from (by clear q8_0; omega)) (show ¬ σ36 10 11 = 0 ∨ (σ36 10 6 = 0 ∧ (i + 1) + 1 ≤ σ36 10 5) ∨ (i + 1) + 2 ≤ σ36 10 5 from (by clear q8_0; omega)) (show (400 - (i + 1)).toNat < N_ from by omega)
set_option maxHeartbeats 4000000 in
set_option maxRecDepth 100000 in
theorem c_X9_footLine {G : tw_G} (hX : tw_isX G) (σ : tw_M) (hI : tw_I σ) : tw_C G yX9_footLine cX9_footLine 5 none 6 [vR 10] σ (q_X9_footLine σ) := by
  refine tw_met [(0, vR 10)] (by decide +kernel) rfl (Nat.le_of_ble_eq_true rfl) ?_
  refine j_aload_n (pc := 0) dX9_footLine_0 rfl rfl ?_
  refine j_iconst (pc := 1) dX9_footLine_1 ?_
  refine j_bipush (pc := 2) dX9_footLine_2 rfl ?_
  refine j_callV (pc := 4) (As := [vI 1, vI 40]) (st := []) (c_X9_number hX 1 (by (first | decide | exact ⟨by omega, by omega⟩)) 40 (by (first | decide | exact ⟨by omega, by omega⟩)) σ hI (by omega)) mv_X9_152 rfl rfl rfl (a_10 hX) dX9_footLine_4 ⟨Nat.le_of_ble_eq_true rfl, Nat.le_of_ble_eq_true rfl⟩ ⟨Nat.le_refl _, Nat.le_refl _⟩ rfl (Nat.le_of_ble_eq_true rfl) rfl (fun z45 σ46 hz45 => ?_)
  obtain ⟨r48, rfl, hr48, hIσ46, hGσ46, q47_0, q47_1, q47_2, q47_3, q47_4, q47_5⟩ := hz45
  replace q47_0 : (1 : Int) ≤ r48 ∧ r48 ≤ (40 : Int) := q47_0
  replace q47_1 : aX σ46 = numS (1 : Int) (40 : Int) (aX σ) := q47_1
  replace q47_2 : ¬ σ46 10 11 = 0 ∨ r48 = σ 10 8 := q47_2
  replace q47_3 : ¬ σ46 10 11 = 0 ∨ σ 10 11 = 0 := q47_3
  replace q47_4 : True ∨ σ 10 6 = σ46 10 12 := q47_4
  replace q47_5 : ¬ σ46 10 11 = 0 ∨ σ 10 6 = 2 := q47_5
  have hFσ46 : tw_F (fun c j => (c = 10 ∧ (j = 4 ∨ j = 5 ∨ j = 6 ∨ j = 7 ∨ j = 8 ∨ j = 11 ∨ j = 12)) ∨ c = 12 ∨ (14 ≤ c ∧ c < 23)) σ σ46 := tw_F_tr (tw_F_rf) hGσ46 (fun c j q => (show (c = 10 ∧ (j = 4 ∨ j = 5 ∨ j = 6 ∨ j = 7 ∨ j = 8 ∨ j = 11 ∨ j = 12)) ∨ c = 12 ∨ (14 ≤ c ∧ c < 23) from by replace q : (c = 10 ∧ (j = 11 ∨ j = 12)) := q; exact (Or.inl ⟨q.1, (q.2.elim (fun z => (Or.inr (Or.inr (Or.inr (Or.inr (Or.inr (Or.inl z))))))) (fun z => (Or.inr (Or.inr (Or.inr (Or.inr (Or.inr (Or.inr z))))))))⟩)))
  refine j_st (st' := [vI r48]) rfl ?_
  have c1 := q47_1
  have v1 := aX_numv q47_1 ((hGσ46 10 6 (show ¬ ((10 = 10 ∧ (6 = 11 ∨ 6 = 12))) from by decide))) ((hGσ46 10 8 (show ¬ ((10 = 10 ∧ (8 = 11 ∨ 8 = 12))) from by decide))) q47_2
  have y49 : σ46 10 7 = σ 10 7 := (hGσ46 10 7 (show ¬ ((10 = 10 ∧ (7 = 11 ∨ 7 = 12))) from by decide))
  refine j_istore_n (pc := 7) (i := 1) (ls' := [(0, vR 10), (1, vI r48)]) [1, 0] dX9_footLine_7 rfl (Nat.le_of_ble_eq_true rfl) rfl rfl ?_
  refine j_aload_n (pc := 8) dX9_footLine_8 rfl rfl ?_
  refine j_getR (pc := 9) (r := 12) fl_X9_15 dX9_footLine_9 (a_10 hX) rfl ?_
  refine j_iload_n (pc := 12) dX9_footLine_12 rfl rfl ?_
  refine j_zald (pc := 13) dX9_footLine_13 (a_12 hX) (by omega) (by omega) (by decide) ?_
  refine j_topV (show σ46 12 (r48.toNat) = σ 12 (r48.toNat) from (hGσ46 12 (r48.toNat) (show ¬ ((12 = 10 ∧ (r48.toNat = 11 ∨ r48.toNat = 12))) from fun h => absurd h.1 (by decide)))) ?_
  have f50 : (0 : Int) ≤ σ 12 (r48.toNat) ∧ σ 12 (r48.toNat) ≤ 1 := hI 12 (r48.toNat)
  have yt : σ46 12 (r48.toNat) = σ 12 (r48.toNat) := (hGσ46 12 (r48.toNat) (show ¬ ((12 = 10 ∧ (r48.toNat = 11 ∨ r48.toNat = 12))) from fun h => absurd h.1 (by decide)))
  refine j_ifR_eq (pc := 14) (tgt := 26) ⟨by omega, by omega⟩ dX9_footLine_14 rfl (fun h51 => ?_) (fun h51 => ?_)
  · have c2 := aX_needt (σ := σ46) (c := 4) (fun h0 => toldF_t h0 v1 ⟨by omega, by omega⟩ (by omega))
    have y52 : σ46 10 4 = σ 10 4 := (hGσ46 10 4 (show ¬ ((10 = 10 ∧ (4 = 11 ∨ 4 = 12))) from by decide))
    have hx4 : (aX σ46) 4 = 0 → (aX σ46) 7 = σ46 10 4 := fun h4 => by rw [aX_4] at h4; rw [aX_d h4 (by decide), drX_7]
    refine j_aload_n (pc := 26) dX9_footLine_26 rfl rfl ?_
    refine j_getI (pc := 27) fl_X9_33 dX9_footLine_27 (a_10 hX) rfl ?_
    have f53 : (0 : Int) ≤ σ46 10 11 ∧ σ46 10 11 ≤ 5 := hIσ46 10 11
    refine j_ifR_eq (pc := 30) (tgt := 34) ⟨by omega, by omega⟩ dX9_footLine_30 rfl (fun h54 => ?_) (fun h54 => ?_)
    · refine j_aload_n (pc := 34) dX9_footLine_34 rfl rfl ?_
      refine j_getR (pc := 35) (r := 12) fl_X9_15 dX9_footLine_35 (a_10 hX) rfl ?_
      refine j_iload_n (pc := 38) dX9_footLine_38 rfl rfl ?_
      refine j_iconst (pc := 39) dX9_footLine_39 ?_
      refine j_zast (pc := 40) (by omega) dX9_footLine_40 (a_12 hX) (by omega) (by omega) (by decide) (j_nm (fun σ55 (eσ55 : σ55 = tw_up σ46 12 (r48.toNat) 1) => ?_))
      have hIσ55 : tw_I σ55 := tw_I_up hIσ46 eσ55 (show (0 : Int) ≤ 1 ∧ 1 ≤ 1 from by decide)
      have hFσ55 : tw_F (fun c j => (c = 10 ∧ (j = 4 ∨ j = 5 ∨ j = 6 ∨ j = 7 ∨ j = 8 ∨ j = 11 ∨ j = 12)) ∨ c = 12 ∨ (14 ≤ c ∧ c < 23)) σ σ55 := tw_F_up hFσ46 eσ55 (show (12 = 10 ∧ (r48.toNat = 4 ∨ r48.toNat = 5 ∨ r48.toNat = 6 ∨ r48.toNat = 7 ∨ r48.toNat = 8 ∨ r48.toNat = 11 ∨ r48.toNat = 12)) ∨ 12 = 12 ∨ (14 ≤ 12 ∧ 12 < 23) from (Or.inr (Or.inl rfl)))
      have c3 : aX σ55 = wr (ci 600 r48) 1 (aX σ46) := by rw [ci_n]; exact aX_wr eσ55 (Or.inr (Or.inr (Or.inr (Or.inr (Or.inr (Or.inr (Or.inr (Or.inr (Or.inr (Or.inl ⟨rfl, by omega, by omega⟩))))))))))
      refine j_aload_n (pc := 41) dX9_footLine_41 rfl rfl ?_
      refine j_aload_n (pc := 42) dX9_footLine_42 rfl rfl ?_
      refine j_getI (pc := 43) fl_X9_54 dX9_footLine_43 (a_10 hX) rfl ?_
      refine j_topV (show σ55 10 4 = σ 10 4 from ((tw_ne1 eσ55 (by (first | decide | omega)))).trans (hGσ46 10 4 (show ¬ ((10 = 10 ∧ (4 = 11 ∨ 4 = 12))) from by decide))) ?_
      have f56 : (0 : Int) ≤ σ 10 4 ∧ σ 10 4 ≤ 40 := hI 10 4
      refine j_iload_n (pc := 46) dX9_footLine_46 rfl rfl ?_
      refine j_mmax (pc := 47) mm_X9_156 dX9_footLine_47 ⟨Nat.le_of_ble_eq_true rfl, Nat.le_of_ble_eq_true rfl⟩ ⟨Nat.le_refl _, Nat.le_refl _⟩ rfl (fun z57 ez57 => ?_)
      have hz57 := tw_max_eq (a := σ 10 4) (b := r48) ⟨by omega, by omega⟩ ⟨by omega, by omega⟩ ez57
      have hv : (aX σ46) 4 = 0 → z57 = (if (aX σ46) 7 < r48 then r48 else (aX σ46) 7) := fun h4 => by (have h5 := hx4 h4); rw [h5]; split <;> omega
      refine j_putI (pc := 50) fl_X9_54 fp_X9_4 dX9_footLine_50 (a_10 hX) rfl (j_nm (fun σ58 (eσ58 : σ58 = tw_up σ55 10 4 z57) => ?_))
      have hIσ58 : tw_I σ58 := tw_I_up hIσ55 eσ58 (show (0 : Int) ≤ z57 ∧ z57 ≤ 40 from ⟨by omega, by omega⟩)
      have hFσ58 : tw_F (fun c j => (c = 10 ∧ (j = 4 ∨ j = 5 ∨ j = 6 ∨ j = 7 ∨ j = 8 ∨ j = 11 ∨ j = 12)) ∨ c = 12 ∨ (14 ≤ c ∧ c < 23)) σ σ58 := tw_F_up hFσ55 eσ58 (show (10 = 10 ∧ (4 = 4 ∨ 4 = 5 ∨ 4 = 6 ∨ 4 = 7 ∨ 4 = 8 ∨ 4 = 11 ∨ 4 = 12)) ∨ 10 = 12 ∨ (14 ≤ 10 ∧ 10 < 23) from (Or.inl ⟨rfl, (Or.inl rfl)⟩))
      have c4 := aX_wr (i := 7) eσ58 (Or.inr (Or.inl ⟨rfl, by omega, by omega⟩))
      refine j_aload_n (pc := 53) dX9_footLine_53 rfl rfl ?_
      have fz : fX σ58 = fX σ := by first | rfl | exact fX_F (hFσ58 10 10 (show ¬ ((10 = 10 ∧ (10 = 4 ∨ 10 = 5 ∨ 10 = 6 ∨ 10 = 7 ∨ 10 = 8 ∨ 10 = 11 ∨ 10 = 12)) ∨ 10 = 12 ∨ (14 ≤ 10 ∧ 10 < 23)) from by decide)) (fun j => hFσ58 11 j (show ¬ ((11 = 10 ∧ (j = 4 ∨ j = 5 ∨ j = 6 ∨ j = 7 ∨ j = 8 ∨ j = 11 ∨ j = 12)) ∨ 11 = 12 ∨ (14 ≤ 11 ∧ 11 < 23)) from fun h => h.elim (fun h => absurd h.1 (by decide)) (fun h => h.elim (fun h => absurd h (by decide)) (fun h => absurd h (by decide)))))
      refine j_callV (pc := 54) (As := []) (st := []) (c_X9_advance hX σ58 hIσ58) mv_X9_45 rfl rfl rfl (a_10 hX) dX9_footLine_54 ⟨Nat.le_of_ble_eq_true rfl, Nat.le_of_ble_eq_true rfl⟩ ⟨Nat.le_refl _, Nat.le_refl _⟩ rfl (Nat.le_of_ble_eq_true rfl) rfl (fun z59 σ60 hz59 => ?_)
      obtain ⟨rfl, hIσ60, hGσ60, q61_0, q61_1, q61_2, q61_3⟩ := hz59
      replace q61_0 : aX σ60 = tok (fX σ58) (aX σ58) := q61_0
      replace q61_1 : ¬ σ58 10 5 ≤ σ58 10 10 ∨ σ60 10 5 ≤ σ58 10 10 := q61_1
      have y63 : σ58 10 5 = σ 10 5 := (((tw_ne1 eσ58 (by (first | decide | omega)))).trans (tw_ne1 eσ55 (by (first | decide | omega)))).trans (hGσ46 10 5 (show ¬ ((10 = 10 ∧ (5 = 11 ∨ 5 = 12))) from by decide))
      have f64 : (0 : Int) ≤ σ 10 5 ∧ σ 10 5 ≤ 400 := hI 10 5
      have y65 : σ58 10 10 = σ 10 10 := (((tw_ne1 eσ58 (by (first | decide | omega)))).trans (tw_ne1 eσ55 (by (first | decide | omega)))).trans (hGσ46 10 10 (show ¬ ((10 = 10 ∧ (10 = 11 ∨ 10 = 12))) from by decide))
      have f66 : (0 : Int) ≤ σ 10 10 ∧ σ 10 10 ≤ 400 := hI 10 10
      replace q61_2 : ¬ σ58 10 5 ≤ σ58 10 10 ∨ ¬ σ60 10 11 = 0 ∨ ¬ σ60 10 6 = 0 ∨ σ60 10 7 = σ58 10 10 := q61_2
      have y67 : σ58 10 5 = σ 10 5 := (((tw_ne1 eσ58 (by (first | decide | omega)))).trans (tw_ne1 eσ55 (by (first | decide | omega)))).trans (hGσ46 10 5 (show ¬ ((10 = 10 ∧ (5 = 11 ∨ 5 = 12))) from by decide))
      have y68 : σ58 10 10 = σ 10 10 := (((tw_ne1 eσ58 (by (first | decide | omega)))).trans (tw_ne1 eσ55 (by (first | decide | omega)))).trans (hGσ46 10 10 (show ¬ ((10 = 10 ∧ (10 = 11 ∨ 10 = 12))) from by decide))
      replace q61_3 : ¬ σ60 10 11 = 0 ∨ (σ58 10 11 = 0 ∧ σ58 10 5 ≤ σ60 10 5 ∧ (σ60 10 6 = 0 ∨ σ58 10 5 < σ60 10 5)) := q61_3
      have y69 : σ58 10 11 = σ46 10 11 := ((tw_ne1 eσ58 (by (first | decide | omega)))).trans (tw_ne1 eσ55 (by (first | decide | omega)))
      have y70 : σ58 10 5 = σ 10 5 := (((tw_ne1 eσ58 (by (first | decide | omega)))).trans (tw_ne1 eσ55 (by (first | decide | omega)))).trans (hGσ46 10 5 (show ¬ ((10 = 10 ∧ (5 = 11 ∨ 5 = 12))) from by decide))
      have hFσ60 : tw_F (fun c j => (c = 10 ∧ (j = 4 ∨ j = 5 ∨ j = 6 ∨ j = 7 ∨ j = 8 ∨ j = 11 ∨ j = 12)) ∨ c = 12 ∨ (14 ≤ c ∧ c < 23)) σ σ60 := tw_F_tr hFσ58 hGσ60 (fun c j q => (show (c = 10 ∧ (j = 4 ∨ j = 5 ∨ j = 6 ∨ j = 7 ∨ j = 8 ∨ j = 11 ∨ j = 12)) ∨ c = 12 ∨ (14 ≤ c ∧ c < 23) from by replace q : (c = 10 ∧ (j = 5 ∨ j = 6 ∨ j = 7 ∨ j = 8 ∨ j = 11 ∨ j = 12)) := q; exact (Or.inl ⟨q.1, (q.2.elim (fun z => (Or.inr (Or.inl z))) (fun z => (z.elim (fun z => (Or.inr (Or.inr (Or.inl z)))) (fun z => (z.elim (fun z => (Or.inr (Or.inr (Or.inr (Or.inl z))))) (fun z => (z.elim (fun z => (Or.inr (Or.inr (Or.inr (Or.inr (Or.inl z)))))) (fun z => (z.elim (fun z => (Or.inr (Or.inr (Or.inr (Or.inr (Or.inr (Or.inl z))))))) (fun z => (Or.inr (Or.inr (Or.inr (Or.inr (Or.inr (Or.inr z))))))))))))))))⟩)))
      refine j_st (st' := []) rfl ?_
      have c5 := q61_0; rw [fz] at c5
      refine j_aload_n (pc := 57) dX9_footLine_57 rfl rfl ?_
      refine j_getR (pc := 58) (r := 14) fl_X9_25 dX9_footLine_58 (a_10 hX) rfl ?_
      refine j_getR (pc := 61) (r := 17) fl_X9_161 dX9_footLine_61 (a_14 hX) rfl ?_
      refine j_iload_n (pc := 64) dX9_footLine_64 rfl rfl ?_
      refine j_aload_n (pc := 65) dX9_footLine_65 rfl rfl ?_
      refine j_iconst (pc := 66) dX9_footLine_66 ?_
      refine j_bipush (pc := 67) dX9_footLine_67 rfl ?_
      refine j_callV (pc := 69) (As := [vI 0, vI 9]) (st := [vI r48, vR 17]) (c_X9_number hX 0 (by (first | decide | exact ⟨by omega, by omega⟩)) 9 (by (first | decide | exact ⟨by omega, by omega⟩)) σ60 hIσ60 (by omega)) mv_X9_152 rfl rfl rfl (a_10 hX) dX9_footLine_69 ⟨Nat.le_of_ble_eq_true rfl, Nat.le_of_ble_eq_true rfl⟩ ⟨Nat.le_refl _, Nat.le_refl _⟩ rfl (Nat.le_of_ble_eq_true rfl) rfl (fun z71 σ72 hz71 => ?_)
      obtain ⟨r74, rfl, hr74, hIσ72, hGσ72, q73_0, q73_1, q73_2, q73_3, q73_4, q73_5⟩ := hz71
      replace q73_0 : (0 : Int) ≤ r74 ∧ r74 ≤ (9 : Int) := q73_0
      replace q73_1 : aX σ72 = numS (0 : Int) (9 : Int) (aX σ60) := q73_1
      replace q73_2 : ¬ σ72 10 11 = 0 ∨ r74 = σ60 10 8 := q73_2
      replace q73_3 : ¬ σ72 10 11 = 0 ∨ σ60 10 11 = 0 := q73_3
      replace q73_4 : True ∨ σ60 10 6 = σ72 10 12 := q73_4
      replace q73_5 : ¬ σ72 10 11 = 0 ∨ σ60 10 6 = 2 := q73_5
      have hFσ72 : tw_F (fun c j => (c = 10 ∧ (j = 4 ∨ j = 5 ∨ j = 6 ∨ j = 7 ∨ j = 8 ∨ j = 11 ∨ j = 12)) ∨ c = 12 ∨ (14 ≤ c ∧ c < 23)) σ σ72 := tw_F_tr hFσ60 hGσ72 (fun c j q => (show (c = 10 ∧ (j = 4 ∨ j = 5 ∨ j = 6 ∨ j = 7 ∨ j = 8 ∨ j = 11 ∨ j = 12)) ∨ c = 12 ∨ (14 ≤ c ∧ c < 23) from by replace q : (c = 10 ∧ (j = 11 ∨ j = 12)) := q; exact (Or.inl ⟨q.1, (q.2.elim (fun z => (Or.inr (Or.inr (Or.inr (Or.inr (Or.inr (Or.inl z))))))) (fun z => (Or.inr (Or.inr (Or.inr (Or.inr (Or.inr (Or.inr z))))))))⟩)))
      refine j_st (st' := [vI r74, vI r48, vR 17]) rfl ?_
      have c6 := q73_1
      have v6 := aX_numv q73_1 ((hGσ72 10 6 (show ¬ ((10 = 10 ∧ (6 = 11 ∨ 6 = 12))) from by decide))) ((hGσ72 10 8 (show ¬ ((10 = 10 ∧ (8 = 11 ∨ 8 = 12))) from by decide))) q73_2
      refine j_iast (pc := 72) dX9_footLine_72 (a_17 hX) (by omega) (by omega) (by decide) (j_nm (fun σ75 (eσ75 : σ75 = tw_up σ72 17 (r48.toNat) r74) => ?_))
      have hIσ75 : tw_I σ75 := tw_I_up hIσ72 eσ75 (show (0 : Int) ≤ r74 ∧ r74 ≤ 9 from ⟨by omega, by omega⟩)
      have hFσ75 : tw_F (fun c j => (c = 10 ∧ (j = 4 ∨ j = 5 ∨ j = 6 ∨ j = 7 ∨ j = 8 ∨ j = 11 ∨ j = 12)) ∨ c = 12 ∨ (14 ≤ c ∧ c < 23)) σ σ75 := tw_F_up hFσ72 eσ75 (show (17 = 10 ∧ (r48.toNat = 4 ∨ r48.toNat = 5 ∨ r48.toNat = 6 ∨ r48.toNat = 7 ∨ r48.toNat = 8 ∨ r48.toNat = 11 ∨ r48.toNat = 12)) ∨ 17 = 12 ∨ (14 ≤ 17 ∧ 17 < 23) from (Or.inr (Or.inr (by decide))))
      have c7 : aX σ75 = wr (ci 300 (5 * r48)) ((aX σ72) 3) (aX σ72) := by rw [← ci5 (by omega)]; exact (aX_wr eσ75 (Or.inr (Or.inr (Or.inr (Or.inr (Or.inl ⟨rfl, by omega, by omega⟩)))))).trans (wr_cg v6)
      refine j_aload_n (pc := 73) dX9_footLine_73 rfl rfl ?_
      have fz : fX σ75 = fX σ := by first | rfl | exact fX_F (hFσ75 10 10 (show ¬ ((10 = 10 ∧ (10 = 4 ∨ 10 = 5 ∨ 10 = 6 ∨ 10 = 7 ∨ 10 = 8 ∨ 10 = 11 ∨ 10 = 12)) ∨ 10 = 12 ∨ (14 ≤ 10 ∧ 10 < 23)) from by decide)) (fun j => hFσ75 11 j (show ¬ ((11 = 10 ∧ (j = 4 ∨ j = 5 ∨ j = 6 ∨ j = 7 ∨ j = 8 ∨ j = 11 ∨ j = 12)) ∨ 11 = 12 ∨ (14 ≤ 11 ∧ 11 < 23)) from fun h => h.elim (fun h => absurd h.1 (by decide)) (fun h => h.elim (fun h => absurd h (by decide)) (fun h => absurd h (by decide)))))
      refine j_callV (pc := 74) (As := []) (st := []) (c_X9_advance hX σ75 hIσ75) mv_X9_45 rfl rfl rfl (a_10 hX) dX9_footLine_74 ⟨Nat.le_of_ble_eq_true rfl, Nat.le_of_ble_eq_true rfl⟩ ⟨Nat.le_refl _, Nat.le_refl _⟩ rfl (Nat.le_of_ble_eq_true rfl) rfl (fun z76 σ77 hz76 => ?_)
      obtain ⟨rfl, hIσ77, hGσ77, q78_0, q78_1, q78_2, q78_3⟩ := hz76
      replace q78_0 : aX σ77 = tok (fX σ75) (aX σ75) := q78_0
      replace q78_1 : ¬ σ75 10 5 ≤ σ75 10 10 ∨ σ77 10 5 ≤ σ75 10 10 := q78_1
      have y80 : σ75 10 5 = σ60 10 5 := ((tw_ne1 eσ75 (by (first | decide | omega)))).trans (hGσ72 10 5 (show ¬ ((10 = 10 ∧ (5 = 11 ∨ 5 = 12))) from by decide))
      have f81 : (0 : Int) ≤ σ60 10 5 ∧ σ60 10 5 ≤ 400 := hIσ60 10 5
      have y82 : σ75 10 10 = σ 10 10 := ((((((tw_ne1 eσ75 (by (first | decide | omega)))).trans (hGσ72 10 10 (show ¬ ((10 = 10 ∧ (10 = 11 ∨ 10 = 12))) from by decide))).trans (hGσ60 10 10 (show ¬ ((10 = 10 ∧ (10 = 5 ∨ 10 = 6 ∨ 10 = 7 ∨ 10 = 8 ∨ 10 = 11 ∨ 10 = 12))) from by decide))).trans (tw_ne1 eσ58 (by (first | decide | omega)))).trans (tw_ne1 eσ55 (by (first | decide | omega)))).trans (hGσ46 10 10 (show ¬ ((10 = 10 ∧ (10 = 11 ∨ 10 = 12))) from by decide))
      replace q78_2 : ¬ σ75 10 5 ≤ σ75 10 10 ∨ ¬ σ77 10 11 = 0 ∨ ¬ σ77 10 6 = 0 ∨ σ77 10 7 = σ75 10 10 := q78_2
      have y83 : σ75 10 5 = σ60 10 5 := ((tw_ne1 eσ75 (by (first | decide | omega)))).trans (hGσ72 10 5 (show ¬ ((10 = 10 ∧ (5 = 11 ∨ 5 = 12))) from by decide))
      have y84 : σ75 10 10 = σ 10 10 := ((((((tw_ne1 eσ75 (by (first | decide | omega)))).trans (hGσ72 10 10 (show ¬ ((10 = 10 ∧ (10 = 11 ∨ 10 = 12))) from by decide))).trans (hGσ60 10 10 (show ¬ ((10 = 10 ∧ (10 = 5 ∨ 10 = 6 ∨ 10 = 7 ∨ 10 = 8 ∨ 10 = 11 ∨ 10 = 12))) from by decide))).trans (tw_ne1 eσ58 (by (first | decide | omega)))).trans (tw_ne1 eσ55 (by (first | decide | omega)))).trans (hGσ46 10 10 (show ¬ ((10 = 10 ∧ (10 = 11 ∨ 10 = 12))) from by decide))
      replace q78_3 : ¬ σ77 10 11 = 0 ∨ (σ75 10 11 = 0 ∧ σ75 10 5 ≤ σ77 10 5 ∧ (σ77 10 6 = 0 ∨ σ75 10 5 < σ77 10 5)) := q78_3
      have y85 : σ75 10 11 = σ72 10 11 := (tw_ne1 eσ75 (by (first | decide | omega)))
      have f86 : (0 : Int) ≤ σ72 10 11 ∧ σ72 10 11 ≤ 5 := hIσ72 10 11
      have y87 : σ75 10 5 = σ60 10 5 := ((tw_ne1 eσ75 (by (first | decide | omega)))).trans (hGσ72 10 5 (show ¬ ((10 = 10 ∧ (5 = 11 ∨ 5 = 12))) from by decide))
      have hFσ77 : tw_F (fun c j => (c = 10 ∧ (j = 4 ∨ j = 5 ∨ j = 6 ∨ j = 7 ∨ j = 8 ∨ j = 11 ∨ j = 12)) ∨ c = 12 ∨ (14 ≤ c ∧ c < 23)) σ σ77 := tw_F_tr hFσ75 hGσ77 (fun c j q => (show (c = 10 ∧ (j = 4 ∨ j = 5 ∨ j = 6 ∨ j = 7 ∨ j = 8 ∨ j = 11 ∨ j = 12)) ∨ c = 12 ∨ (14 ≤ c ∧ c < 23) from by replace q : (c = 10 ∧ (j = 5 ∨ j = 6 ∨ j = 7 ∨ j = 8 ∨ j = 11 ∨ j = 12)) := q; exact (Or.inl ⟨q.1, (q.2.elim (fun z => (Or.inr (Or.inl z))) (fun z => (z.elim (fun z => (Or.inr (Or.inr (Or.inl z)))) (fun z => (z.elim (fun z => (Or.inr (Or.inr (Or.inr (Or.inl z))))) (fun z => (z.elim (fun z => (Or.inr (Or.inr (Or.inr (Or.inr (Or.inl z)))))) (fun z => (z.elim (fun z => (Or.inr (Or.inr (Or.inr (Or.inr (Or.inr (Or.inl z))))))) (fun z => (Or.inr (Or.inr (Or.inr (Or.inr (Or.inr (Or.inr z))))))))))))))))⟩)))
      refine j_st (st' := []) rfl ?_
      have c8 := q78_0; rw [fz] at c8
      have hh : (aX σ46) 4 = 0 → r48 = (aX σ46) 3 := v1
      have nx : (it wstopX (wstepX (fX σ) r48) wmes (aX σ77, (0 : Int))).1 = footX (fX σ) (aX σ) := by rw [c8]; exact footX_of c1 c2 hh c3 c4 hv c5 c6 c7 rfl (by rw [aX_4]; omega)
      refine j_iconst (pc := 77) dX9_footLine_77 ?_
      refine j_istore_n (pc := 78) (i := 2) (ls' := [(0, vR 10), (1, vI r48), (2, vI 0)]) [1, 2, 0] dX9_footLine_78 rfl (Nat.le_of_ble_eq_true rfl) rfl rfl ?_
      refine j_iconst (pc := 79) dX9_footLine_79 ?_
      refine j_istore_n (pc := 80) (i := 3) (ls' := [(0, vR 10), (1, vI r48), (2, vI 0), (3, vI 0)]) [1, 2, 3, 0] dX9_footLine_80 rfl (Nat.le_of_ble_eq_true rfl) rfl rfl ?_
      refine j_ls (ls' := [(0, vR 10), (1, vI r48), (2, vI 0), (3, vI 0)]) [0, 1, 2, 3] rfl ?_
      exact (l_X9_footLine hX σ hI (((400 - (0 : Int)).toNat) + 1)) r48 ⟨by omega, by omega⟩ 0 (by (first | decide | exact ⟨by omega, by omega⟩)) 0 (by (first | decide | exact ⟨by omega, by omega⟩)) σ77 hIσ77 hFσ77 (show (it wstopX (wstepX (fX σ) r48) wmes (aX σ77, (0 : Int))).1 = footX (fX σ) (aX σ) from nx) (show ¬ σ 10 5 ≤ σ 10 10 ∨ σ77 10 5 ≤ σ 10 10 from (by by_cases z : σ 10 5 ≤ σ 10 10; (have a := q61_1.resolve_left (fun h => h (by clear q47_0 q47_1 q47_2 q47_3 q47_4 q47_5 q61_0 q61_1 q61_2 q61_3 q73_0 q73_1 q73_2 q73_3 q73_4 q73_5 q78_0 q78_1 q78_2 q78_3; omega)); have b := q78_1.resolve_left (fun h => h (by clear q47_0 q47_1 q47_2 q47_3 q47_4 q47_5 q61_0 q61_1 q61_2 q61_3 q73_0 q73_1 q73_2 q73_3 q73_4 q73_5 q78_0 q78_1 q78_2 q78_3; omega)); exact Or.inr (by clear q47_0 q47_1 q47_2 q47_3 q47_4 q47_5 q61_0 q61_1 q61_2 q61_3 q73_0 q73_1 q73_2 q73_3 q73_4 q73_5 q78_0 q78_1 q78_2 q78_3; omega)); exact Or.inl z)) (show ¬ σ77 10 11 = 0 ∨ (σ 10 11 = 0 ∧ σ 10 5 ≤ σ77 10 5) from (by by_cases z : σ77 10 11 = 0; (have a := q78_3.resolve_left (fun h => h z); have b := q73_3.resolve_left (fun h => h (by clear q47_0 q47_1 q47_2 q47_3 q47_4 q47_5 q61_0 q61_1 q61_2 q61_3 q73_0 q73_1 q73_2 q73_3 q73_4 q73_5 q78_0 q78_1 q78_2 q78_3; omega)); have b5 := q73_5.resolve_left (fun h => h (by clear q47_0 q47_1 q47_2 q47_3 q47_4 q47_5 q61_0 q61_1 q61_2 q61_3 q73_0 q73_1 q73_2 q73_3 q73_4 q73_5 q78_0 q78_1 q78_2 q78_3; omega)); have c := q61_3.resolve_left (fun h => h (by clear q47_0 q47_1 q47_2 q47_3 q47_4 q47_5 q61_0 q61_1 q61_2 q61_3 q73_0 q73_1 q73_2 q73_3 q73_4 q73_5 q78_0 q78_1 q78_2 q78_3; omega)); have d := q47_3.resolve_left (fun h => h (by clear q47_0 q47_1 q47_2 q47_3 q47_4 q47_5 q61_0 q61_1 q61_2 q61_3 q73_0 q73_1 q73_2 q73_3 q73_4 q73_5 q78_0 q78_1 q78_2 q78_3; omega)); exact Or.inr (by clear q47_0 q47_1 q47_2 q47_3 q47_4 q47_5 q61_0 q61_1 q61_2 q61_3 q73_0 q73_1 q73_2 q73_3 q73_4 q73_5 q78_0 q78_1 q78_2 q78_3; omega)); exact Or.inl z)) (show ¬ σ77 10 11 = 0 ∨ (σ77 10 6 = 0 ∧ (0 : Int) + 1 ≤ σ77 10 5) ∨ (0 : Int) + 2 ≤ σ77 10 5 from (by by_cases z : σ77 10 11 = 0; (have a := q78_3.resolve_left (fun h => h z); have b := q73_3.resolve_left (fun h => h (by clear q47_0 q47_1 q47_2 q47_3 q47_4 q47_5 q61_0 q61_1 q61_2 q61_3 q73_0 q73_1 q73_2 q73_3 q73_4 q73_5 q78_0 q78_1 q78_2 q78_3; omega)); have b5 := q73_5.resolve_left (fun h => h (by clear q47_0 q47_1 q47_2 q47_3 q47_4 q47_5 q61_0 q61_1 q61_2 q61_3 q73_0 q73_1 q73_2 q73_3 q73_4 q73_5 q78_0 q78_1 q78_2 q78_3; omega)); have c := q61_3.resolve_left (fun h => h (by clear q47_0 q47_1 q47_2 q47_3 q47_4 q47_5 q61_0 q61_1 q61_2 q61_3 q73_0 q73_1 q73_2 q73_3 q73_4 q73_5 q78_0 q78_1 q78_2 q78_3; omega)); have d := q47_3.resolve_left (fun h => h (by clear q47_0 q47_1 q47_2 q47_3 q47_4 q47_5 q61_0 q61_1 q61_2 q61_3 q73_0 q73_1 q73_2 q73_3 q73_4 q73_5 q78_0 q78_1 q78_2 q78_3; omega)); exact Or.inr (by clear q47_0 q47_1 q47_2 q47_3 q47_4 q47_5 q61_0 q61_1 q61_2 q61_3 q73_0 q73_1 q73_2 q73_3 q73_4 q73_5 q78_0 q78_1 q78_2 q78_3; omega)); exact Or.inl z)) (Nat.lt_succ_self _)
    · have y88 : σ46 10 5 = σ 10 5 := (hGσ46 10 5 (show ¬ ((10 = 10 ∧ (5 = 11 ∨ 5 = 12))) from by decide))
      have f89 : (0 : Int) ≤ σ 10 5 ∧ σ 10 5 ≤ 400 := hI 10 5
      have y90 : σ46 10 5 = σ 10 5 := (hGσ46 10 5 (show ¬ ((10 = 10 ∧ (5 = 11 ∨ 5 = 12))) from by decide))
      exact j_vret (pc := 33) ⟨rfl, rfl⟩ dX9_footLine_33 rfl ⟨rfl, hIσ46, hFσ46, (by first | (rw [← i0, it_n (wstopX_t (by omega))]) | exact footX_no c1 c2 (by rw [aX_4]; omega) | (exfalso; omega)), (by clear q47_0 q47_1 q47_2 q47_3 q47_4 q47_5; omega), (by clear q47_0 q47_1 q47_2 q47_4 q47_5; omega)⟩
  · refine j_aload_n (pc := 17) dX9_footLine_17 rfl rfl ?_
    refine j_iconst (pc := 18) dX9_footLine_18 ?_
    refine j_aload_n (pc := 19) dX9_footLine_19 rfl rfl ?_
    refine j_getI (pc := 20) fl_X9_76 dX9_footLine_20 (a_10 hX) rfl ?_
    refine j_topV (show σ46 10 7 = σ 10 7 from (hGσ46 10 7 (show ¬ ((10 = 10 ∧ (7 = 11 ∨ 7 = 12))) from by decide))) ?_
    have f91 : (0 : Int) ≤ σ 10 7 ∧ σ 10 7 ≤ 400 := hI 10 7
    refine j_callV (pc := 23) (As := [vI 4, vI (σ 10 7)]) (st := []) (c_X9_fail hX 4 (by (first | decide | exact ⟨by omega, by omega⟩)) (σ 10 7) ⟨by omega, by omega⟩ σ46 hIσ46) mv_X9_61 rfl rfl rfl (a_10 hX) dX9_footLine_23 ⟨Nat.le_of_ble_eq_true rfl, Nat.le_of_ble_eq_true rfl⟩ ⟨Nat.le_refl _, Nat.le_refl _⟩ rfl (Nat.le_of_ble_eq_true rfl) rfl (fun z92 σ93 hz92 => ?_)
    obtain ⟨rfl, hIσ93, hGσ93, q94_0⟩ := hz92
    replace q94_0 : (σ46 10 11 = 0 ∧ σ93 10 11 = (4 : Int) ∧ σ93 10 12 = (σ 10 7)) ∨ (¬ σ46 10 11 = 0 ∧ σ93 10 11 = σ46 10 11 ∧ σ93 10 12 = σ46 10 12) := q94_0
    have hFσ93 : tw_F (fun c j => (c = 10 ∧ (j = 4 ∨ j = 5 ∨ j = 6 ∨ j = 7 ∨ j = 8 ∨ j = 11 ∨ j = 12)) ∨ c = 12 ∨ (14 ≤ c ∧ c < 23)) σ σ93 := tw_F_tr hFσ46 hGσ93 (fun c j q => (show (c = 10 ∧ (j = 4 ∨ j = 5 ∨ j = 6 ∨ j = 7 ∨ j = 8 ∨ j = 11 ∨ j = 12)) ∨ c = 12 ∨ (14 ≤ c ∧ c < 23) from by replace q : (c = 10 ∧ (j = 11 ∨ j = 12)) := q; exact (Or.inl ⟨q.1, (q.2.elim (fun z => (Or.inr (Or.inr (Or.inr (Or.inr (Or.inr (Or.inl z))))))) (fun z => (Or.inr (Or.inr (Or.inr (Or.inr (Or.inr (Or.inr z))))))))⟩)))
    refine j_st (st' := []) rfl ?_
    have c2 := aX_need (τ := σ93) (c := 4) (by decide) (fun h0 => toldF_f h0 v1 ⟨by omega, by omega⟩ (by omega)) (by clear q47_0 q47_1 q47_2 q47_3 q47_4 q47_5; omega)
    have y96 : σ93 10 4 = σ 10 4 := ((hGσ93 10 4 (show ¬ ((10 = 10 ∧ (4 = 11 ∨ 4 = 12))) from by decide))).trans (hGσ46 10 4 (show ¬ ((10 = 10 ∧ (4 = 11 ∨ 4 = 12))) from by decide))
    have hx4 : (aX σ93) 4 = 0 → (aX σ93) 7 = σ93 10 4 := fun h4 => by rw [aX_4] at h4; rw [aX_d h4 (by decide), drX_7]
    refine j_aload_n (pc := 26) dX9_footLine_26 rfl rfl ?_
    refine j_getI (pc := 27) fl_X9_33 dX9_footLine_27 (a_10 hX) rfl ?_
    have f97 : (0 : Int) ≤ σ93 10 11 ∧ σ93 10 11 ≤ 5 := hIσ93 10 11
    refine j_ifR_eq (pc := 30) (tgt := 34) ⟨by omega, by omega⟩ dX9_footLine_30 rfl (fun h98 => ?_) (fun h98 => ?_)
    · exfalso; clear q47_0 q47_1 q47_2 q47_3 q47_4 q47_5; omega
    · have y99 : σ93 10 5 = σ 10 5 := ((hGσ93 10 5 (show ¬ ((10 = 10 ∧ (5 = 11 ∨ 5 = 12))) from by decide))).trans (hGσ46 10 5 (show ¬ ((10 = 10 ∧ (5 = 11 ∨ 5 = 12))) from by decide))
      have f100 : (0 : Int) ≤ σ 10 5 ∧ σ 10 5 ≤ 400 := hI 10 5
      have y101 : σ93 10 5 = σ 10 5 := ((hGσ93 10 5 (show ¬ ((10 = 10 ∧ (5 = 11 ∨ 5 = 12))) from by decide))).trans (hGσ46 10 5 (show ¬ ((10 = 10 ∧ (5 = 11 ∨ 5 = 12))) from by decide))
      exact j_vret (pc := 33) ⟨rfl, rfl⟩ dX9_footLine_33 rfl ⟨rfl, hIσ93, hFσ93, (by first | (rw [← i0, it_n (wstopX_t (by omega))]) | exact footX_no c1 c2 (by rw [aX_4]; omega) | (exfalso; omega)), (by clear q47_0 q47_1 q47_2 q47_3 q47_4 q47_5 q94_0; omega), (by clear q47_0 q47_1 q47_2 q47_4 q47_5; omega)⟩
