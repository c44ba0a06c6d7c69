/-! 27.model -/
theorem dX12_findPlan_0 : decode cX12_findPlan 0 = .ok (.aload_n 0, 1) := by decide +kernel
theorem dX12_findPlan_1 : decode cX12_findPlan 1 = .ok (.bipush (-4), 2) := by decide +kernel
theorem dX12_findPlan_3 : decode cX12_findPlan 3 = .ok (.putfield 292, 3) := by decide +kernel
theorem dX12_findPlan_6 : decode cX12_findPlan 6 = .ok (.aload_n 0, 1) := by decide +kernel
theorem dX12_findPlan_7 : decode cX12_findPlan 7 = .ok (.iconst 0, 1) := by decide +kernel
theorem dX12_findPlan_8 : decode cX12_findPlan 8 = .ok (.putfield 295, 3) := by decide +kernel
theorem dX12_findPlan_11 : decode cX12_findPlan 11 = .ok (.aload_n 0, 1) := by decide +kernel
theorem dX12_findPlan_12 : decode cX12_findPlan 12 = .ok (.invokevirtual 298, 3) := by decide +kernel
theorem dX12_findPlan_15 : decode cX12_findPlan 15 = .ok (.bipush 10, 2) := by decide +kernel
theorem dX12_findPlan_17 : decode cX12_findPlan 17 = .ok (.if_icmp .le 8, 3) := by decide +kernel
theorem dX12_findPlan_20 : decode cX12_findPlan 20 = .ok (.bipush 10, 2) := by decide +kernel
theorem dX12_findPlan_22 : decode cX12_findPlan 22 = .ok (.goto 7, 3) := by decide +kernel
theorem dX12_findPlan_25 : decode cX12_findPlan 25 = .ok (.aload_n 0, 1) := by decide +kernel
theorem dX12_findPlan_26 : decode cX12_findPlan 26 = .ok (.invokevirtual 298, 3) := by decide +kernel
theorem dX12_findPlan_29 : decode cX12_findPlan 29 = .ok (.istore_n 1, 1) := by decide +kernel
theorem dX12_findPlan_30 : decode cX12_findPlan 30 = .ok (.iconst 0, 1) := by decide +kernel
theorem dX12_findPlan_31 : decode cX12_findPlan 31 = .ok (.istore_n 2, 1) := by decide +kernel
theorem dX12_findPlan_32 : decode cX12_findPlan 32 = .ok (.iload_n 2, 1) := by decide +kernel
theorem dX12_findPlan_33 : decode cX12_findPlan 33 = .ok (.iconst 1, 1) := by decide +kernel
theorem dX12_findPlan_34 : decode cX12_findPlan 34 = .ok (.iload_n 1, 1) := by decide +kernel
theorem dX12_findPlan_35 : decode cX12_findPlan 35 = .ok (.ishl, 1) := by decide +kernel
theorem dX12_findPlan_36 : decode cX12_findPlan 36 = .ok (.if_icmp .ge 134, 3) := by decide +kernel
theorem dX12_findPlan_39 : decode cX12_findPlan 39 = .ok (.aload_n 0, 1) := by decide +kernel
theorem dX12_findPlan_40 : decode cX12_findPlan 40 = .ok (.iload_n 2, 1) := by decide +kernel
theorem dX12_findPlan_41 : decode cX12_findPlan 41 = .ok (.invokevirtual 301, 3) := by decide +kernel
theorem dX12_findPlan_44 : decode cX12_findPlan 44 = .ok (.ifCond .eq 120, 3) := by decide +kernel
theorem dX12_findPlan_47 : decode cX12_findPlan 47 = .ok (.aload_n 0, 1) := by decide +kernel
theorem dX12_findPlan_48 : decode cX12_findPlan 48 = .ok (.sipush 300, 3) := by decide +kernel
theorem dX12_findPlan_51 : decode cX12_findPlan 51 = .ok (.invokevirtual 277, 3) := by decide +kernel
theorem dX12_findPlan_54 : decode cX12_findPlan 54 = .ok (.aload_n 0, 1) := by decide +kernel
theorem dX12_findPlan_55 : decode cX12_findPlan 55 = .ok (.getfield 274, 3) := by decide +kernel
theorem dX12_findPlan_58 : decode cX12_findPlan 58 = .ok (.bipush (-4), 2) := by decide +kernel
theorem dX12_findPlan_60 : decode cX12_findPlan 60 = .ok (.if_icmp .ne 13, 3) := by decide +kernel
theorem dX12_findPlan_63 : decode cX12_findPlan 63 = .ok (.aload_n 0, 1) := by decide +kernel
theorem dX12_findPlan_64 : decode cX12_findPlan 64 = .ok (.sipush 300, 3) := by decide +kernel
theorem dX12_findPlan_67 : decode cX12_findPlan 67 = .ok (.invokevirtual 280, 3) := by decide +kernel
theorem dX12_findPlan_70 : decode cX12_findPlan 70 = .ok (.goto 4, 3) := by decide +kernel
theorem dX12_findPlan_73 : decode cX12_findPlan 73 = .ok (.iconst 0, 1) := by decide +kernel
theorem dX12_findPlan_74 : decode cX12_findPlan 74 = .ok (.istore_n 3, 1) := by decide +kernel
theorem dX12_findPlan_75 : decode cX12_findPlan 75 = .ok (.aload_n 0, 1) := by decide +kernel
theorem dX12_findPlan_76 : decode cX12_findPlan 76 = .ok (.getfield 274, 3) := by decide +kernel
theorem dX12_findPlan_79 : decode cX12_findPlan 79 = .ok (.bipush (-4), 2) := by decide +kernel
theorem dX12_findPlan_81 : decode cX12_findPlan 81 = .ok (.if_icmp .ne 46, 3) := by decide +kernel
theorem dX12_findPlan_84 : decode cX12_findPlan 84 = .ok (.aload_n 0, 1) := by decide +kernel
theorem dX12_findPlan_85 : decode cX12_findPlan 85 = .ok (.getfield 292, 3) := by decide +kernel
theorem dX12_findPlan_88 : decode cX12_findPlan 88 = .ok (.bipush (-4), 2) := by decide +kernel
theorem dX12_findPlan_90 : decode cX12_findPlan 90 = .ok (.if_icmp .eq 33, 3) := by decide +kernel
theorem dX12_findPlan_93 : decode cX12_findPlan 93 = .ok (.iload_n 3, 1) := by decide +kernel
theorem dX12_findPlan_94 : decode cX12_findPlan 94 = .ok (.aload_n 0, 1) := by decide +kernel
theorem dX12_findPlan_95 : decode cX12_findPlan 95 = .ok (.getfield 295, 3) := by decide +kernel
theorem dX12_findPlan_98 : decode cX12_findPlan 98 = .ok (.if_icmp .lt 25, 3) := by decide +kernel
theorem dX12_findPlan_101 : decode cX12_findPlan 101 = .ok (.iload_n 3, 1) := by decide +kernel
theorem dX12_findPlan_102 : decode cX12_findPlan 102 = .ok (.aload_n 0, 1) := by decide +kernel
theorem dX12_findPlan_103 : decode cX12_findPlan 103 = .ok (.getfield 295, 3) := by decide +kernel
theorem dX12_findPlan_106 : decode cX12_findPlan 106 = .ok (.if_icmp .ne 21, 3) := by decide +kernel
theorem dX12_findPlan_109 : decode cX12_findPlan 109 = .ok (.iload_n 2, 1) := by decide +kernel
theorem dX12_findPlan_110 : decode cX12_findPlan 110 = .ok (.invokestatic 304, 3) := by decide +kernel
theorem dX12_findPlan_113 : decode cX12_findPlan 113 = .ok (.aload_n 0, 1) := by decide +kernel
theorem dX12_findPlan_114 : decode cX12_findPlan 114 = .ok (.getfield 292, 3) := by decide +kernel
theorem dX12_findPlan_117 : decode cX12_findPlan 117 = .ok (.invokestatic 304, 3) := by decide +kernel
theorem dX12_findPlan_120 : decode cX12_findPlan 120 = .ok (.if_icmp .ge 7, 3) := by decide +kernel
theorem dX12_findPlan_123 : decode cX12_findPlan 123 = .ok (.iconst 1, 1) := by decide +kernel
theorem dX12_findPlan_124 : decode cX12_findPlan 124 = .ok (.goto 4, 3) := by decide +kernel
theorem dX12_findPlan_127 : decode cX12_findPlan 127 = .ok (.iconst 0, 1) := by decide +kernel
theorem dX12_findPlan_128 : decode cX12_findPlan 128 = .ok (.istore 4, 2) := by decide +kernel
theorem dX12_findPlan_130 : decode cX12_findPlan 130 = .ok (.aload_n 0, 1) := by decide +kernel
theorem dX12_findPlan_131 : decode cX12_findPlan 131 = .ok (.iload 4, 2) := by decide +kernel
theorem dX12_findPlan_133 : decode cX12_findPlan 133 = .ok (.ifCond .eq 7, 3) := by decide +kernel
theorem dX12_findPlan_136 : decode cX12_findPlan 136 = .ok (.iload_n 2, 1) := by decide +kernel
theorem dX12_findPlan_137 : decode cX12_findPlan 137 = .ok (.goto 7, 3) := by decide +kernel
theorem dX12_findPlan_140 : decode cX12_findPlan 140 = .ok (.aload_n 0, 1) := by decide +kernel
theorem dX12_findPlan_141 : decode cX12_findPlan 141 = .ok (.getfield 292, 3) := by decide +kernel
theorem dX12_findPlan_144 : decode cX12_findPlan 144 = .ok (.putfield 292, 3) := by decide +kernel
theorem dX12_findPlan_147 : decode cX12_findPlan 147 = .ok (.aload_n 0, 1) := by decide +kernel
theorem dX12_findPlan_148 : decode cX12_findPlan 148 = .ok (.iload 4, 2) := by decide +kernel
theorem dX12_findPlan_150 : decode cX12_findPlan 150 = .ok (.ifCond .eq 7, 3) := by decide +kernel
theorem dX12_findPlan_153 : decode cX12_findPlan 153 = .ok (.iload_n 3, 1) := by decide +kernel
theorem dX12_findPlan_154 : decode cX12_findPlan 154 = .ok (.goto 7, 3) := by decide +kernel
theorem dX12_findPlan_157 : decode cX12_findPlan 157 = .ok (.aload_n 0, 1) := by decide +kernel
theorem dX12_findPlan_158 : decode cX12_findPlan 158 = .ok (.getfield 295, 3) := by decide +kernel
theorem dX12_findPlan_161 : decode cX12_findPlan 161 = .ok (.putfield 295, 3) := by decide +kernel
theorem dX12_findPlan_164 : decode cX12_findPlan 164 = .ok (.iinc 2 1, 3) := by decide +kernel
theorem dX12_findPlan_167 : decode cX12_findPlan 167 = .ok (.goto (-135), 3) := by decide +kernel
theorem dX12_findPlan_170 : decode cX12_findPlan 170 = .ok (.return_, 1) := by decide +kernel
abbrev q_X12_findPlan  (σ : tw_M) : Option tw_V → tw_M → Prop := fun z τ => z = none ∧ tw_I τ ∧ tw_F (fun c j => (c = 88 ∧ (j = 19 ∨ j = 20 ∨ j = 21 ∨ j = 22 ∨ j = 23 ∨ j = 24 ∨ j = 25 ∨ j = 26 ∨ j = 27)) ∨ (c = 89 ∧ 300 ≤ j)) σ τ ∧ (PS σ (τ 88 26) (p2 (mK σ)))
set_option maxHeartbeats 4000000 in
set_option maxRecDepth 100000 in
theorem l_X12_findPlan {G : tw_G} (hM : tw_isM G) (σ : tw_M) (hI : tw_I σ) : ∀ N_ : Nat, (∀ (n : Int) (hn : 0 ≤ n ∧ n ≤ 10) (s : Int) (hs : 0 ≤ s ∧ s ≤ 1024) (τ : tw_M) (hIτ : tw_I τ) (hFτ : tw_F (fun c j => (c = 88 ∧ (j = 19 ∨ j = 20 ∨ j = 21 ∨ j = 22 ∨ j = 23 ∨ j = 24 ∨ j = 25 ∨ j = 26 ∨ j = 27)) ∨ (c = 89 ∧ 300 ≤ j)) σ τ) (i0 : n = mK σ) (i1 : PS σ (τ 88 26) s) (i2 : s ≤ p2 n) (hm : (1024 - s).toNat < N_), tw_J G (tw_mt RX12 cX12_findPlan 5 none 4) (tw_E G (q_X12_findPlan σ)) 32 [(0, vR 88), (1, vI n), (2, vI s)] [] τ) := by
  intro N_
  induction N_ with
  | zero => exact fun n hn s hs τ hIτ hFτ i0 i1 i2 hm => absurd hm (Nat.not_lt_zero _)
  | succ N_ ih =>
    intro n hn s hs τ hIτ hFτ i0 i1 i2 hm
    have sh := shl10 (k := n) ⟨by omega, by omega⟩
    have ml : ∀ x, mLay τ x = mLay σ x := mLay_congr (fun j hj => hFτ 89 j (show ¬ ((89 = 88 ∧ (j = 19 ∨ j = 20 ∨ j = 21 ∨ j = 22 ∨ j = 23 ∨ j = 24 ∨ j = 25 ∨ j = 26 ∨ j = 27)) ∨ (89 = 89 ∧ 300 ≤ j)) from by omega)) (fun j => hFτ 92 j (show ¬ ((92 = 88 ∧ (j = 19 ∨ j = 20 ∨ j = 21 ∨ j = 22 ∨ j = 23 ∨ j = 24 ∨ j = 25 ∨ j = 26 ∨ j = 27)) ∨ (92 = 89 ∧ 300 ≤ j)) from by omega)) (hFτ 91 0 (show ¬ ((91 = 88 ∧ (0 = 19 ∨ 0 = 20 ∨ 0 = 21 ∨ 0 = 22 ∨ 0 = 23 ∨ 0 = 24 ∨ 0 = 25 ∨ 0 = 26 ∨ 0 = 27)) ∨ (91 = 89 ∧ 300 ≤ 0)) from by omega)) (hI 91 0).2
    refine j_iload_n (pc := 32) dX12_findPlan_32 rfl rfl ?_
    refine j_iconst (pc := 33) dX12_findPlan_33 ?_
    refine j_iload_n (pc := 34) dX12_findPlan_34 rfl rfl ?_
    refine j_ishl (pc := 35) dX12_findPlan_35 (fun z1 ez1 => ?_)
    have hz1 : (-2147483648 : Int) ≤ z1 ∧ z1 ≤ 2147483647 := by rw [ez1]; exact shl_in _ _
    have gz1 : (0 : Int) ≤ z1 ∧ z1 ≤ 1024 := (by rw [ez1]; omega)
    refine j_icmpR_ge (pc := 36) (tgt := 170) ⟨by omega, by omega⟩ ⟨by omega, by omega⟩ dX12_findPlan_36 rfl (fun h2 => ?_) (fun h2 => ?_)
    · exact j_vret (pc := 170) ⟨rfl, rfl⟩ dX12_findPlan_170 rfl ⟨rfl, hIτ, hFτ, by rw [← i0]; exact PS_le i1 (by omega)⟩
    · refine j_aload_n (pc := 39) dX12_findPlan_39 rfl rfl ?_
      refine j_iload_n (pc := 40) dX12_findPlan_40 rfl rfl ?_
      refine j_callV (pc := 41) (As := [vI s]) (st := []) (c_X12_lays hM s ⟨by omega, by omega⟩ τ hIτ) mv_X12_301 rfl rfl rfl (a_88 hM) dX12_findPlan_41 ⟨Nat.le_of_ble_eq_true rfl, Nat.le_of_ble_eq_true rfl⟩ ⟨Nat.le_refl _, Nat.le_refl _⟩ rfl (Nat.le_of_ble_eq_true rfl) rfl (fun z3 σ4 hz3 => ?_)
      obtain ⟨r6, rfl, hr6, hIσ4, hGσ4, q5_0⟩ := hz3
      replace q5_0 : LZ τ σ4 s r6 := q5_0
      have hFσ4 : tw_F (fun c j => (c = 88 ∧ (j = 19 ∨ j = 20 ∨ j = 21 ∨ j = 22 ∨ j = 23 ∨ j = 24 ∨ j = 25 ∨ j = 26 ∨ j = 27)) ∨ (c = 89 ∧ 300 ≤ j)) σ σ4 := tw_F_tr hFτ hGσ4 (fun c j q => (show (c = 88 ∧ (j = 19 ∨ j = 20 ∨ j = 21 ∨ j = 22 ∨ j = 23 ∨ j = 24 ∨ j = 25 ∨ j = 26 ∨ j = 27)) ∨ (c = 89 ∧ 300 ≤ j) from by replace q : (c = 89 ∧ 300 ≤ j) := q; omega))
      refine j_st (st' := [vI r6]) rfl ?_
      have g8 : r6 = mLay σ s := q5_0.2.2.1.trans (ml s)
      refine j_ifR_eq (pc := 44) (tgt := 164) ⟨by omega, by omega⟩ dX12_findPlan_44 rfl (fun h7 => ?_) (fun h7 => ?_)
      · refine j_iinc (pc := 164) (i := 2) (n := 1) (ls' := [(0, vR 88), (1, vI n), (2, vI (s + 1))]) [1, 2, 0] dX12_findPlan_164 rfl (Nat.le_of_ble_eq_true rfl) rfl rfl ?_
        refine j_goto (pc := 167) (tgt := 32) dX12_findPlan_167 rfl ?_
        refine j_ls (ls' := [(0, vR 88), (1, vI n), (2, vI (s + 1))]) [0, 1, 2] rfl ?_
        have y8 : σ4 88 26 = τ 88 26 := (hGσ4 88 26 (show ¬ ((88 = 89 ∧ 300 ≤ 26)) from by omega))
        have f9 : (-4 : Int) ≤ τ 88 26 ∧ τ 88 26 ≤ 1023 := hIτ 88 26
        exact ih n ⟨by omega, by omega⟩ (s + 1) ⟨by omega, by omega⟩ σ4 hIσ4 hFσ4 (show n = mK σ from i0) (show PS σ (σ4 88 26) (s + 1) from (by first | exact PS_old i1 (by assumption) | exact PS_old i1 rfl | exact PS_new (by omega) g9 (by assumption))) (show (s + 1) ≤ p2 n from (by omega)) (show (1024 - (s + 1)).toNat < N_ from by omega)
      · have g9 : mLay σ s = 1 := by omega
        refine j_aload_n (pc := 47) dX12_findPlan_47 rfl rfl ?_
        refine j_sipush (pc := 48) dX12_findPlan_48 rfl ?_
        refine j_callV (pc := 51) (As := [vI 300]) (st := []) (c_X12_findEffort hM 300 ⟨by omega, by omega⟩ σ4 hIσ4) mv_X12_277 rfl rfl rfl (a_88 hM) dX12_findPlan_51 ⟨Nat.le_of_ble_eq_true rfl, Nat.le_of_ble_eq_true rfl⟩ ⟨Nat.le_refl _, Nat.le_refl _⟩ rfl (Nat.le_of_ble_eq_true rfl) rfl (fun z10 σ11 hz10 => ?_)
        obtain ⟨rfl, hIσ11, hGσ11, -⟩ := hz10
        have hFσ11 : tw_F (fun c j => (c = 88 ∧ (j = 19 ∨ j = 20 ∨ j = 21 ∨ j = 22 ∨ j = 23 ∨ j = 24 ∨ j = 25 ∨ j = 26 ∨ j = 27)) ∨ (c = 89 ∧ 300 ≤ j)) σ σ11 := tw_F_tr hFσ4 hGσ11 (fun c j q => (show (c = 88 ∧ (j = 19 ∨ j = 20 ∨ j = 21 ∨ j = 22 ∨ j = 23 ∨ j = 24 ∨ j = 25 ∨ j = 26 ∨ j = 27)) ∨ (c = 89 ∧ 300 ≤ j) from by replace q : (c = 88 ∧ (j = 24 ∨ j = 25)) := q; omega))
        refine j_st (st' := []) rfl ?_
        refine j_aload_n (pc := 54) dX12_findPlan_54 rfl rfl ?_
        refine j_getI (pc := 55) fl_X12_274 dX12_findPlan_55 (a_88 hM) rfl ?_
        have f14 : (-2147483648 : Int) ≤ σ11 88 25 ∧ σ11 88 25 ≤ 2147483647 := hIσ11 88 25
        refine j_bipush (pc := 58) dX12_findPlan_58 rfl ?_
        refine j_icmpR_ne (pc := 60) (tgt := 73) ⟨by omega, by omega⟩ ⟨by omega, by omega⟩ dX12_findPlan_60 rfl (fun h15 => ?_) (fun h15 => ?_)
        · refine j_iconst (pc := 73) dX12_findPlan_73 ?_
          refine j_istore_n (pc := 74) (i := 3) (ls' := [(0, vR 88), (1, vI n), (2, vI s), (3, vI 0)]) [1, 2, 3, 0] dX12_findPlan_74 rfl (Nat.le_of_ble_eq_true rfl) rfl rfl ?_
          refine j_aload_n (pc := 75) dX12_findPlan_75 rfl rfl ?_
          refine j_getI (pc := 76) fl_X12_274 dX12_findPlan_76 (a_88 hM) rfl ?_
          refine j_bipush (pc := 79) dX12_findPlan_79 rfl ?_
          refine j_icmpR_ne (pc := 81) (tgt := 127) ⟨by omega, by omega⟩ ⟨by omega, by omega⟩ dX12_findPlan_81 rfl (fun h16 => ?_) (fun h16 => ?_)
          · refine j_iconst (pc := 127) dX12_findPlan_127 ?_
            refine j_istore (pc := 128) (i := 4) (ls' := [(0, vR 88), (1, vI n), (2, vI s), (3, vI 0), (4, vI 0)]) [1, 2, 3, 4, 0] dX12_findPlan_128 (Nat.le_of_ble_eq_true rfl) rfl rfl ?_
            refine j_aload_n (pc := 130) dX12_findPlan_130 rfl rfl ?_
            refine j_iload (pc := 131) dX12_findPlan_131 rfl ?_
            refine j_ifR_eq (pc := 133) (tgt := 140) ⟨by omega, by omega⟩ dX12_findPlan_133 rfl (fun h17 => ?_) (fun h17 => by exfalso; omega)
            refine j_aload_n (pc := 140) dX12_findPlan_140 rfl rfl ?_
            refine j_getI (pc := 141) fl_X12_292 dX12_findPlan_141 (a_88 hM) rfl ?_
            refine j_topV (show σ11 88 26 = τ 88 26 from ((hGσ11 88 26 (show ¬ ((88 = 88 ∧ (26 = 24 ∨ 26 = 25))) from by omega))).trans (hGσ4 88 26 (show ¬ ((88 = 89 ∧ 300 ≤ 26)) from by omega))) ?_
            have f18 : (-4 : Int) ≤ τ 88 26 ∧ τ 88 26 ≤ 1023 := hIτ 88 26
            refine j_putI (pc := 144) fl_X12_292 fp_X12_26 dX12_findPlan_144 (a_88 hM) rfl (j_nm (fun σ19 (eσ19 : σ19 = tw_up σ11 88 26 (τ 88 26)) => ?_))
            have hIσ19 : tw_I σ19 := tw_I_up hIσ11 eσ19 (show (-4 : Int) ≤ τ 88 26 ∧ τ 88 26 ≤ 1023 from ⟨by omega, by omega⟩)
            have hFσ19 : tw_F (fun c j => (c = 88 ∧ (j = 19 ∨ j = 20 ∨ j = 21 ∨ j = 22 ∨ j = 23 ∨ j = 24 ∨ j = 25 ∨ j = 26 ∨ j = 27)) ∨ (c = 89 ∧ 300 ≤ j)) σ σ19 := tw_F_up hFσ11 eσ19 (show (88 = 88 ∧ (26 = 19 ∨ 26 = 20 ∨ 26 = 21 ∨ 26 = 22 ∨ 26 = 23 ∨ 26 = 24 ∨ 26 = 25 ∨ 26 = 26 ∨ 26 = 27)) ∨ (88 = 89 ∧ 300 ≤ 26) from by omega)
            refine j_aload_n (pc := 147) dX12_findPlan_147 rfl rfl ?_
            refine j_iload (pc := 148) dX12_findPlan_148 rfl ?_
            refine j_ifR_eq (pc := 150) (tgt := 157) ⟨by omega, by omega⟩ dX12_findPlan_150 rfl (fun h20 => ?_) (fun h20 => by exfalso; omega)
            refine j_aload_n (pc := 157) dX12_findPlan_157 rfl rfl ?_
            refine j_getI (pc := 158) fl_X12_295 dX12_findPlan_158 (a_88 hM) rfl ?_
            refine j_topV (show σ19 88 27 = τ 88 27 from (((tw_ne1 eσ19 (by omega))).trans (hGσ11 88 27 (show ¬ ((88 = 88 ∧ (27 = 24 ∨ 27 = 25))) from by omega))).trans (hGσ4 88 27 (show ¬ ((88 = 89 ∧ 300 ≤ 27)) from by omega))) ?_
            have f21 : (-2147483648 : Int) ≤ τ 88 27 ∧ τ 88 27 ≤ 2147483647 := hIτ 88 27
            refine j_putI (pc := 161) fl_X12_295 fp_X12_27 dX12_findPlan_161 (a_88 hM) rfl (j_nm (fun σ22 (eσ22 : σ22 = tw_up σ19 88 27 (τ 88 27)) => ?_))
            have hIσ22 : tw_I σ22 := tw_I_up hIσ19 eσ22 (show (-2147483648 : Int) ≤ τ 88 27 ∧ τ 88 27 ≤ 2147483647 from ⟨by omega, by omega⟩)
            have hFσ22 : tw_F (fun c j => (c = 88 ∧ (j = 19 ∨ j = 20 ∨ j = 21 ∨ j = 22 ∨ j = 23 ∨ j = 24 ∨ j = 25 ∨ j = 26 ∨ j = 27)) ∨ (c = 89 ∧ 300 ≤ j)) σ σ22 := tw_F_up hFσ19 eσ22 (show (88 = 88 ∧ (27 = 19 ∨ 27 = 20 ∨ 27 = 21 ∨ 27 = 22 ∨ 27 = 23 ∨ 27 = 24 ∨ 27 = 25 ∨ 27 = 26 ∨ 27 = 27)) ∨ (88 = 89 ∧ 300 ≤ 27) from by omega)
            refine j_iinc (pc := 164) (i := 2) (n := 1) (ls' := [(0, vR 88), (1, vI n), (2, vI (s + 1))]) [1, 2, 0] dX12_findPlan_164 rfl (Nat.le_of_ble_eq_true rfl) rfl rfl ?_
            refine j_goto (pc := 167) (tgt := 32) dX12_findPlan_167 rfl ?_
            refine j_ls (ls' := [(0, vR 88), (1, vI n), (2, vI (s + 1))]) [0, 1, 2] rfl ?_
            have y23 : σ22 88 26 = τ 88 26 := ((tw_ne1 eσ22 (by omega))).trans (tw_eq1 eσ19)
            exact ih n ⟨by omega, by omega⟩ (s + 1) ⟨by omega, by omega⟩ σ22 hIσ22 hFσ22 (show n = mK σ from i0) (show PS σ (σ22 88 26) (s + 1) from (by first | exact PS_old i1 (by assumption) | exact PS_old i1 rfl | exact PS_new (by omega) g9 (by assumption))) (show (s + 1) ≤ p2 n from (by omega)) (show (1024 - (s + 1)).toNat < N_ from by omega)
          · refine j_aload_n (pc := 84) dX12_findPlan_84 rfl rfl ?_
            refine j_getI (pc := 85) fl_X12_292 dX12_findPlan_85 (a_88 hM) rfl ?_
            refine j_topV (show σ11 88 26 = τ 88 26 from ((hGσ11 88 26 (show ¬ ((88 = 88 ∧ (26 = 24 ∨ 26 = 25))) from by omega))).trans (hGσ4 88 26 (show ¬ ((88 = 89 ∧ 300 ≤ 26)) from by omega))) ?_
            have f24 : (-4 : Int) ≤ τ 88 26 ∧ τ 88 26 ≤ 1023 := hIτ 88 26
            refine j_bipush (pc := 88) dX12_findPlan_88 rfl ?_
            refine j_icmpR_eq (pc := 90) (tgt := 123) ⟨by omega, by omega⟩ ⟨by omega, by omega⟩ dX12_findPlan_90 rfl (fun h25 => ?_) (fun h25 => ?_)
            · refine j_iconst (pc := 123) dX12_findPlan_123 ?_
              refine j_goto (pc := 124) (tgt := 128) dX12_findPlan_124 rfl ?_
              refine j_istore (pc := 128) (i := 4) (ls' := [(0, vR 88), (1, vI n), (2, vI s), (3, vI 0), (4, vI 1)]) [1, 2, 3, 4, 0] dX12_findPlan_128 (Nat.le_of_ble_eq_true rfl) rfl rfl ?_
              refine j_aload_n (pc := 130) dX12_findPlan_130 rfl rfl ?_
              refine j_iload (pc := 131) dX12_findPlan_131 rfl ?_
              refine j_ifR_eq (pc := 133) (tgt := 140) ⟨by omega, by omega⟩ dX12_findPlan_133 rfl (fun h26 => by exfalso; omega) (fun h26 => ?_)
              refine j_iload_n (pc := 136) dX12_findPlan_136 rfl rfl ?_
              refine j_goto (pc := 137) (tgt := 144) dX12_findPlan_137 rfl ?_
              refine j_putI (pc := 144) fl_X12_292 fp_X12_26 dX12_findPlan_144 (a_88 hM) rfl (j_nm (fun σ27 (eσ27 : σ27 = tw_up σ11 88 26 s) => ?_))
              have hIσ27 : tw_I σ27 := tw_I_up hIσ11 eσ27 (show (-4 : Int) ≤ s ∧ s ≤ 1023 from ⟨by omega, by omega⟩)
              have hFσ27 : tw_F (fun c j => (c = 88 ∧ (j = 19 ∨ j = 20 ∨ j = 21 ∨ j = 22 ∨ j = 23 ∨ j = 24 ∨ j = 25 ∨ j = 26 ∨ j = 27)) ∨ (c = 89 ∧ 300 ≤ j)) σ σ27 := tw_F_up hFσ11 eσ27 (show (88 = 88 ∧ (26 = 19 ∨ 26 = 20 ∨ 26 = 21 ∨ 26 = 22 ∨ 26 = 23 ∨ 26 = 24 ∨ 26 = 25 ∨ 26 = 26 ∨ 26 = 27)) ∨ (88 = 89 ∧ 300 ≤ 26) from by omega)
              refine j_aload_n (pc := 147) dX12_findPlan_147 rfl rfl ?_
              refine j_iload (pc := 148) dX12_findPlan_148 rfl ?_
              refine j_ifR_eq (pc := 150) (tgt := 157) ⟨by omega, by omega⟩ dX12_findPlan_150 rfl (fun h28 => by exfalso; omega) (fun h28 => ?_)
              refine j_iload_n (pc := 153) dX12_findPlan_153 rfl rfl ?_
              refine j_goto (pc := 154) (tgt := 161) dX12_findPlan_154 rfl ?_
              refine j_putI (pc := 161) fl_X12_295 fp_X12_27 dX12_findPlan_161 (a_88 hM) rfl (j_nm (fun σ29 (eσ29 : σ29 = tw_up σ27 88 27 0) => ?_))
              have hIσ29 : tw_I σ29 := tw_I_up hIσ27 eσ29 (show (-2147483648 : Int) ≤ 0 ∧ 0 ≤ 2147483647 from ⟨by omega, by omega⟩)
              have hFσ29 : tw_F (fun c j => (c = 88 ∧ (j = 19 ∨ j = 20 ∨ j = 21 ∨ j = 22 ∨ j = 23 ∨ j = 24 ∨ j = 25 ∨ j = 26 ∨ j = 27)) ∨ (c = 89 ∧ 300 ≤ j)) σ σ29 := tw_F_up hFσ27 eσ29 (show (88 = 88 ∧ (27 = 19 ∨ 27 = 20 ∨ 27 = 21 ∨ 27 = 22 ∨ 27 = 23 ∨ 27 = 24 ∨ 27 = 25 ∨ 27 = 26 ∨ 27 = 27)) ∨ (88 = 89 ∧ 300 ≤ 27) from by omega)
              refine j_iinc (pc := 164) (i := 2) (n := 1) (ls' := [(0, vR 88), (1, vI n), (2, vI (s + 1))]) [1, 2, 0] dX12_findPlan_164 rfl (Nat.le_of_ble_eq_true rfl) rfl rfl ?_
              refine j_goto (pc := 167) (tgt := 32) dX12_findPlan_167 rfl ?_
              refine j_ls (ls' := [(0, vR 88), (1, vI n), (2, vI (s + 1))]) [0, 1, 2] rfl ?_
              have y30 : σ29 88 26 = s := ((tw_ne1 eσ29 (by omega))).trans (tw_eq1 eσ27)
              exact ih n ⟨by omega, by omega⟩ (s + 1) ⟨by omega, by omega⟩ σ29 hIσ29 hFσ29 (show n = mK σ from i0) (show PS σ (σ29 88 26) (s + 1) from (by first | exact PS_old i1 (by assumption) | exact PS_old i1 rfl | exact PS_new (by omega) g9 (by assumption))) (show (s + 1) ≤ p2 n from (by omega)) (show (1024 - (s + 1)).toNat < N_ from by omega)
            · refine j_iload_n (pc := 93) dX12_findPlan_93 rfl rfl ?_
              refine j_aload_n (pc := 94) dX12_findPlan_94 rfl rfl ?_
              refine j_getI (pc := 95) fl_X12_295 dX12_findPlan_95 (a_88 hM) rfl ?_
              refine j_topV (show σ11 88 27 = τ 88 27 from ((hGσ11 88 27 (show ¬ ((88 = 88 ∧ (27 = 24 ∨ 27 = 25))) from by omega))).trans (hGσ4 88 27 (show ¬ ((88 = 89 ∧ 300 ≤ 27)) from by omega))) ?_
              have f31 : (-2147483648 : Int) ≤ τ 88 27 ∧ τ 88 27 ≤ 2147483647 := hIτ 88 27
              refine j_icmpR_lt (pc := 98) (tgt := 123) ⟨by omega, by omega⟩ ⟨by omega, by omega⟩ dX12_findPlan_98 rfl (fun h32 => ?_) (fun h32 => ?_)
              · refine j_iconst (pc := 123) dX12_findPlan_123 ?_
                refine j_goto (pc := 124) (tgt := 128) dX12_findPlan_124 rfl ?_
                refine j_istore (pc := 128) (i := 4) (ls' := [(0, vR 88), (1, vI n), (2, vI s), (3, vI 0), (4, vI 1)]) [1, 2, 3, 4, 0] dX12_findPlan_128 (Nat.le_of_ble_eq_true rfl) rfl rfl ?_
                refine j_aload_n (pc := 130) dX12_findPlan_130 rfl rfl ?_
                refine j_iload (pc := 131) dX12_findPlan_131 rfl ?_
                refine j_ifR_eq (pc := 133) (tgt := 140) ⟨by omega, by omega⟩ dX12_findPlan_133 rfl (fun h33 => by exfalso; omega) (fun h33 => ?_)
                refine j_iload_n (pc := 136) dX12_findPlan_136 rfl rfl ?_
                refine j_goto (pc := 137) (tgt := 144) dX12_findPlan_137 rfl ?_
                refine j_putI (pc := 144) fl_X12_292 fp_X12_26 dX12_findPlan_144 (a_88 hM) rfl (j_nm (fun σ34 (eσ34 : σ34 = tw_up σ11 88 26 s) => ?_))
                have hIσ34 : tw_I σ34 := tw_I_up hIσ11 eσ34 (show (-4 : Int) ≤ s ∧ s ≤ 1023 from ⟨by omega, by omega⟩)
                have hFσ34 : tw_F (fun c j => (c = 88 ∧ (j = 19 ∨ j = 20 ∨ j = 21 ∨ j = 22 ∨ j = 23 ∨ j = 24 ∨ j = 25 ∨ j = 26 ∨ j = 27)) ∨ (c = 89 ∧ 300 ≤ j)) σ σ34 := tw_F_up hFσ11 eσ34 (show (88 = 88 ∧ (26 = 19 ∨ 26 = 20 ∨ 26 = 21 ∨ 26 = 22 ∨ 26 = 23 ∨ 26 = 24 ∨ 26 = 25 ∨ 26 = 26 ∨ 26 = 27)) ∨ (88 = 89 ∧ 300 ≤ 26) from by omega)
                refine j_aload_n (pc := 147) dX12_findPlan_147 rfl rfl ?_
                refine j_iload (pc := 148) dX12_findPlan_148 rfl ?_
                refine j_ifR_eq (pc := 150) (tgt := 157) ⟨by omega, by omega⟩ dX12_findPlan_150 rfl (fun h35 => by exfalso; omega) (fun h35 => ?_)
                refine j_iload_n (pc := 153) dX12_findPlan_153 rfl rfl ?_
                refine j_goto (pc := 154) (tgt := 161) dX12_findPlan_154 rfl ?_
                refine j_putI (pc := 161) fl_X12_295 fp_X12_27 dX12_findPlan_161 (a_88 hM) rfl (j_nm (fun σ36 (eσ36 : σ36 = tw_up σ34 88 27 0) => ?_))
                have hIσ36 : tw_I σ36 := tw_I_up hIσ34 eσ36 (show (-2147483648 : Int) ≤ 0 ∧ 0 ≤ 2147483647 from ⟨by omega, by omega⟩)
                have hFσ36 : tw_F (fun c j => (c = 88 ∧ (j = 19 ∨ j = 20 ∨ j = 21 ∨ j = 22 ∨ j = 23 ∨ j = 24 ∨ j = 25 ∨ j = 26 ∨ j = 27)) ∨ (c = 89 ∧ 300 ≤ j)) σ σ36 := tw_F_up hFσ34 eσ36 (show (88 = 88 ∧ (27 = 19 ∨ 27 = 20 ∨ 27 = 21 ∨ 27 = 22 ∨ 27 = 23 ∨ 27 = 24 ∨ 27 = 25 ∨ 27 = 26 ∨ 27 = 27)) ∨ (88 = 89 ∧ 300 ≤ 27) from by omega)
                refine j_iinc (pc := 164) (i := 2) (n := 1) (ls' := [(0, vR 88), (1, vI n), (2, vI (s + 1))]) [1, 2, 0] dX12_findPlan_164 rfl (Nat.le_of_ble_eq_true rfl) rfl rfl ?_
                refine j_goto (pc := 167) (tgt := 32) dX12_findPlan_167 rfl ?_
                refine j_ls (ls' := [(0, vR 88), (1, vI n), (2, vI (s + 1))]) [0, 1, 2] rfl ?_
                have y37 : σ36 88 26 = s := ((tw_ne1 eσ36 (by omega))).trans (tw_eq1 eσ34)
                exact ih n ⟨by omega, by omega⟩ (s + 1) ⟨by omega, by omega⟩ σ36 hIσ36 hFσ36 (show n = mK σ from i0) (show PS σ (σ36 88 26) (s + 1) from (by first | exact PS_old i1 (by assumption) | exact PS_old i1 rfl | exact PS_new (by omega) g9 (by assumption))) (show (s + 1) ≤ p2 n from (by omega)) (show (1024 - (s + 1)).toNat < N_ from by omega)
              · refine j_iload_n (pc := 101) dX12_findPlan_101 rfl rfl ?_
                refine j_aload_n (pc := 102) dX12_findPlan_102 rfl rfl ?_
                refine j_getI (pc := 103) fl_X12_295 dX12_findPlan_103 (a_88 hM) rfl ?_
                refine j_topV (show σ11 88 27 = τ 88 27 from ((hGσ11 88 27 (show ¬ ((88 = 88 ∧ (27 = 24 ∨ 27 = 25))) from by omega))).trans (hGσ4 88 27 (show ¬ ((88 = 89 ∧ 300 ≤ 27)) from by omega))) ?_
                refine j_icmpR_ne (pc := 106) (tgt := 127) ⟨by omega, by omega⟩ ⟨by omega, by omega⟩ dX12_findPlan_106 rfl (fun h38 => ?_) (fun h38 => ?_)
                · refine j_iconst (pc := 127) dX12_findPlan_127 ?_
                  refine j_istore (pc := 128) (i := 4) (ls' := [(0, vR 88), (1, vI n), (2, vI s), (3, vI 0), (4, vI 0)]) [1, 2, 3, 4, 0] dX12_findPlan_128 (Nat.le_of_ble_eq_true rfl) rfl rfl ?_
                  refine j_aload_n (pc := 130) dX12_findPlan_130 rfl rfl ?_
                  refine j_iload (pc := 131) dX12_findPlan_131 rfl ?_
                  refine j_ifR_eq (pc := 133) (tgt := 140) ⟨by omega, by omega⟩ dX12_findPlan_133 rfl (fun h39 => ?_) (fun h39 => by exfalso; omega)
                  refine j_aload_n (pc := 140) dX12_findPlan_140 rfl rfl ?_
                  refine j_getI (pc := 141) fl_X12_292 dX12_findPlan_141 (a_88 hM) rfl ?_
                  refine j_topV (show σ11 88 26 = τ 88 26 from ((hGσ11 88 26 (show ¬ ((88 = 88 ∧ (26 = 24 ∨ 26 = 25))) from by omega))).trans (hGσ4 88 26 (show ¬ ((88 = 89 ∧ 300 ≤ 26)) from by omega))) ?_
                  refine j_putI (pc := 144) fl_X12_292 fp_X12_26 dX12_findPlan_144 (a_88 hM) rfl (j_nm (fun σ40 (eσ40 : σ40 = tw_up σ11 88 26 (τ 88 26)) => ?_))
                  have hIσ40 : tw_I σ40 := tw_I_up hIσ11 eσ40 (show (-4 : Int) ≤ τ 88 26 ∧ τ 88 26 ≤ 1023 from ⟨by omega, by omega⟩)
                  have hFσ40 : tw_F (fun c j => (c = 88 ∧ (j = 19 ∨ j = 20 ∨ j = 21 ∨ j = 22 ∨ j = 23 ∨ j = 24 ∨ j = 25 ∨ j = 26 ∨ j = 27)) ∨ (c = 89 ∧ 300 ≤ j)) σ σ40 := tw_F_up hFσ11 eσ40 (show (88 = 88 ∧ (26 = 19 ∨ 26 = 20 ∨ 26 = 21 ∨ 26 = 22 ∨ 26 = 23 ∨ 26 = 24 ∨ 26 = 25 ∨ 26 = 26 ∨ 26 = 27)) ∨ (88 = 89 ∧ 300 ≤ 26) from by omega)
                  refine j_aload_n (pc := 147) dX12_findPlan_147 rfl rfl ?_
                  refine j_iload (pc := 148) dX12_findPlan_148 rfl ?_
                  refine j_ifR_eq (pc := 150) (tgt := 157) ⟨by omega, by omega⟩ dX12_findPlan_150 rfl (fun h41 => ?_) (fun h41 => by exfalso; omega)
                  refine j_aload_n (pc := 157) dX12_findPlan_157 rfl rfl ?_
                  refine j_getI (pc := 158) fl_X12_295 dX12_findPlan_158 (a_88 hM) rfl ?_
                  refine j_topV (show σ40 88 27 = τ 88 27 from (((tw_ne1 eσ40 (by omega))).trans (hGσ11 88 27 (show ¬ ((88 = 88 ∧ (27 = 24 ∨ 27 = 25))) from by omega))).trans (hGσ4 88 27 (show ¬ ((88 = 89 ∧ 300 ≤ 27)) from by omega))) ?_
                  refine j_putI (pc := 161) fl_X12_295 fp_X12_27 dX12_findPlan_161 (a_88 hM) rfl (j_nm (fun σ42 (eσ42 : σ42 = tw_up σ40 88 27 (τ 88 27)) => ?_))
                  have hIσ42 : tw_I σ42 := tw_I_up hIσ40 eσ42 (show (-2147483648 : Int) ≤ τ 88 27 ∧ τ 88 27 ≤ 2147483647 from ⟨by omega, by omega⟩)
                  have hFσ42 : tw_F (fun c j => (c = 88 ∧ (j = 19 ∨ j = 20 ∨ j = 21 ∨ j = 22 ∨ j = 23 ∨ j = 24 ∨ j = 25 ∨ j = 26 ∨ j = 27)) ∨ (c = 89 ∧ 300 ≤ j)) σ σ42 := tw_F_up hFσ40 eσ42 (show (88 = 88 ∧ (27 = 19 ∨ 27 = 20 ∨ 27 = 21 ∨ 27 = 22 ∨ 27 = 23 ∨ 27 = 24 ∨ 27 = 25 ∨ 27 = 26 ∨ 27 = 27)) ∨ (88 = 89 ∧ 300 ≤ 27) from by omega)
                  refine j_iinc (pc := 164) (i := 2) (n := 1) (ls' := [(0, vR 88), (1, vI n), (2, vI (s + 1))]) [1, 2, 0] dX12_findPlan_164 rfl (Nat.le_of_ble_eq_true rfl) rfl rfl ?_
                  refine j_goto (pc := 167) (tgt := 32) dX12_findPlan_167 rfl ?_
                  refine j_ls (ls' := [(0, vR 88), (1, vI n), (2, vI (s + 1))]) [0, 1, 2] rfl ?_
                  have y43 : σ42 88 26 = τ 88 26 := ((tw_ne1 eσ42 (by omega))).trans (tw_eq1 eσ40)
                  exact ih n ⟨by omega, by omega⟩ (s + 1) ⟨by omega, by omega⟩ σ42 hIσ42 hFσ42 (show n = mK σ from i0) (show PS σ (σ42 88 26) (s + 1) from (by first | exact PS_old i1 (by assumption) | exact PS_old i1 rfl | exact PS_new (by omega) g9 (by assumption))) (show (s + 1) ≤ p2 n from (by omega)) (show (1024 - (s + 1)).toNat < N_ from by omega)
                · refine j_iload_n (pc := 109) dX12_findPlan_109 rfl rfl ?_
                  refine j_callS (pc := 110) (As := [vI s]) (st := []) (c_X12_countOf s ⟨by omega, by omega⟩ σ11 hIσ11) ms_X12_304 rfl dX12_findPlan_110 ⟨Nat.le_of_ble_eq_true rfl, Nat.le_of_ble_eq_true rfl⟩ ⟨Nat.le_refl _, Nat.le_refl _⟩ rfl (Nat.le_of_ble_eq_true rfl) rfl (fun z44 σ45 hz44 => ?_)
                  obtain ⟨r47, rfl, hr47, rfl, q46_0⟩ := hz44
                  replace q46_0 : r47 = mPop s 12 := q46_0
                  refine j_st (st' := [vI r47]) rfl ?_
                  refine j_aload_n (pc := 113) dX12_findPlan_113 rfl rfl ?_
                  refine j_getI (pc := 114) fl_X12_292 dX12_findPlan_114 (a_88 hM) rfl ?_
                  refine j_topV (show σ11 88 26 = τ 88 26 from ((hGσ11 88 26 (show ¬ ((88 = 88 ∧ (26 = 24 ∨ 26 = 25))) from by omega))).trans (hGσ4 88 26 (show ¬ ((88 = 89 ∧ 300 ≤ 26)) from by omega))) ?_
                  refine j_callS (pc := 117) (As := [vI (τ 88 26)]) (st := [vI r47]) (c_X12_countOf (τ 88 26) ⟨by omega, by omega⟩ σ11 hIσ11) ms_X12_304 rfl dX12_findPlan_117 ⟨Nat.le_of_ble_eq_true rfl, Nat.le_of_ble_eq_true rfl⟩ ⟨Nat.le_refl _, Nat.le_refl _⟩ rfl (Nat.le_of_ble_eq_true rfl) rfl (fun z48 σ49 hz48 => ?_)
                  obtain ⟨r51, rfl, hr51, rfl, q50_0⟩ := hz48
                  replace q50_0 : r51 = mPop (τ 88 26) 12 := q50_0
                  refine j_st (st' := [vI r51, vI r47]) rfl ?_
                  refine j_icmpR_ge (pc := 120) (tgt := 127) ⟨by omega, by omega⟩ ⟨by omega, by omega⟩ dX12_findPlan_120 rfl (fun h52 => ?_) (fun h52 => ?_)
                  · refine j_iconst (pc := 127) dX12_findPlan_127 ?_
                    refine j_istore (pc := 128) (i := 4) (ls' := [(0, vR 88), (1, vI n), (2, vI s), (3, vI 0), (4, vI 0)]) [1, 2, 3, 4, 0] dX12_findPlan_128 (Nat.le_of_ble_eq_true rfl) rfl rfl ?_
                    refine j_aload_n (pc := 130) dX12_findPlan_130 rfl rfl ?_
                    refine j_iload (pc := 131) dX12_findPlan_131 rfl ?_
                    refine j_ifR_eq (pc := 133) (tgt := 140) ⟨by omega, by omega⟩ dX12_findPlan_133 rfl (fun h53 => ?_) (fun h53 => by exfalso; omega)
                    refine j_aload_n (pc := 140) dX12_findPlan_140 rfl rfl ?_
                    refine j_getI (pc := 141) fl_X12_292 dX12_findPlan_141 (a_88 hM) rfl ?_
                    refine j_topV (show σ11 88 26 = τ 88 26 from ((hGσ11 88 26 (show ¬ ((88 = 88 ∧ (26 = 24 ∨ 26 = 25))) from by omega))).trans (hGσ4 88 26 (show ¬ ((88 = 89 ∧ 300 ≤ 26)) from by omega))) ?_
                    refine j_putI (pc := 144) fl_X12_292 fp_X12_26 dX12_findPlan_144 (a_88 hM) rfl (j_nm (fun σ54 (eσ54 : σ54 = tw_up σ11 88 26 (τ 88 26)) => ?_))
                    have hIσ54 : tw_I σ54 := tw_I_up hIσ11 eσ54 (show (-4 : Int) ≤ τ 88 26 ∧ τ 88 26 ≤ 1023 from ⟨by omega, by omega⟩)
                    have hFσ54 : tw_F (fun c j => (c = 88 ∧ (j = 19 ∨ j = 20 ∨ j = 21 ∨ j = 22 ∨ j = 23 ∨ j = 24 ∨ j = 25 ∨ j = 26 ∨ j = 27)) ∨ (c = 89 ∧ 300 ≤ j)) σ σ54 := tw_F_up hFσ11 eσ54 (show (88 = 88 ∧ (26 = 19 ∨ 26 = 20 ∨ 26 = 21 ∨ 26 = 22 ∨ 26 = 23 ∨ 26 = 24 ∨ 26 = 25 ∨ 26 = 26 ∨ 26 = 27)) ∨ (88 = 89 ∧ 300 ≤ 26) from by omega)
                    refine j_aload_n (pc := 147) dX12_findPlan_147 rfl rfl ?_
                    refine j_iload (pc := 148) dX12_findPlan_148 rfl ?_
                    refine j_ifR_eq (pc := 150) (tgt := 157) ⟨by omega, by omega⟩ dX12_findPlan_150 rfl (fun h55 => ?_) (fun h55 => by exfalso; omega)
                    refine j_aload_n (pc := 157) dX12_findPlan_157 rfl rfl ?_
                    refine j_getI (pc := 158) fl_X12_295 dX12_findPlan_158 (a_88 hM) rfl ?_
                    refine j_topV (show σ54 88 27 = τ 88 27 from (((tw_ne1 eσ54 (by omega))).trans (hGσ11 88 27 (show ¬ ((88 = 88 ∧ (27 = 24 ∨ 27 = 25))) from by omega))).trans (hGσ4 88 27 (show ¬ ((88 = 89 ∧ 300 ≤ 27)) from by omega))) ?_
                    refine j_putI (pc := 161) fl_X12_295 fp_X12_27 dX12_findPlan_161 (a_88 hM) rfl (j_nm (fun σ56 (eσ56 : σ56 = tw_up σ54 88 27 (τ 88 27)) => ?_))
                    have hIσ56 : tw_I σ56 := tw_I_up hIσ54 eσ56 (show (-2147483648 : Int) ≤ τ 88 27 ∧ τ 88 27 ≤ 2147483647 from ⟨by omega, by omega⟩)
                    have hFσ56 : tw_F (fun c j => (c = 88 ∧ (j = 19 ∨ j = 20 ∨ j = 21 ∨ j = 22 ∨ j = 23 ∨ j = 24 ∨ j = 25 ∨ j = 26 ∨ j = 27)) ∨ (c = 89 ∧ 300 ≤ j)) σ σ56 := tw_F_up hFσ54 eσ56 (show (88 = 88 ∧ (27 = 19 ∨ 27 = 20 ∨ 27 = 21 ∨ 27 = 22 ∨ 27 = 23 ∨ 27 = 24 ∨ 27 = 25 ∨ 27 = 26 ∨ 27 = 27)) ∨ (88 = 89 ∧ 300 ≤ 27) from by omega)
                    refine j_iinc (pc := 164) (i := 2) (n := 1) (ls' := [(0, vR 88), (1, vI n), (2, vI (s + 1))]) [1, 2, 0] dX12_findPlan_164 rfl (Nat.le_of_ble_eq_true rfl) rfl rfl ?_
                    refine j_goto (pc := 167) (tgt := 32) dX12_findPlan_167 rfl ?_
                    refine j_ls (ls' := [(0, vR 88), (1, vI n), (2, vI (s + 1))]) [0, 1, 2] rfl ?_
                    have y57 : σ56 88 26 = τ 88 26 := ((tw_ne1 eσ56 (by omega))).trans (tw_eq1 eσ54)
                    exact ih n ⟨by omega, by omega⟩ (s + 1) ⟨by omega, by omega⟩ σ56 hIσ56 hFσ56 (show n = mK σ from i0) (show PS σ (σ56 88 26) (s + 1) from (by first | exact PS_old i1 (by assumption) | exact PS_old i1 rfl | exact PS_new (by omega) g9 (by assumption))) (show (s + 1) ≤ p2 n from (by omega)) (show (1024 - (s + 1)).toNat < N_ from by omega)
                  · refine j_iconst (pc := 123) dX12_findPlan_123 ?_
                    refine j_goto (pc := 124) (tgt := 128) dX12_findPlan_124 rfl ?_
                    refine j_istore (pc := 128) (i := 4) (ls' := [(0, vR 88), (1, vI n), (2, vI s), (3, vI 0), (4, vI 1)]) [1, 2, 3, 4, 0] dX12_findPlan_128 (Nat.le_of_ble_eq_true rfl) rfl rfl ?_
                    refine j_aload_n (pc := 130) dX12_findPlan_130 rfl rfl ?_
                    refine j_iload (pc := 131) dX12_findPlan_131 rfl ?_
                    refine j_ifR_eq (pc := 133) (tgt := 140) ⟨by omega, by omega⟩ dX12_findPlan_133 rfl (fun h58 => by exfalso; omega) (fun h58 => ?_)
                    refine j_iload_n (pc := 136) dX12_findPlan_136 rfl rfl ?_
                    refine j_goto (pc := 137) (tgt := 144) dX12_findPlan_137 rfl ?_
                    refine j_putI (pc := 144) fl_X12_292 fp_X12_26 dX12_findPlan_144 (a_88 hM) rfl (j_nm (fun σ59 (eσ59 : σ59 = tw_up σ11 88 26 s) => ?_))
                    have hIσ59 : tw_I σ59 := tw_I_up hIσ11 eσ59 (show (-4 : Int) ≤ s ∧ s ≤ 1023 from ⟨by omega, by omega⟩)
                    have hFσ59 : tw_F (fun c j => (c = 88 ∧ (j = 19 ∨ j = 20 ∨ j = 21 ∨ j = 22 ∨ j = 23 ∨ j = 24 ∨ j = 25 ∨ j = 26 ∨ j = 27)) ∨ (c = 89 ∧ 300 ≤ j)) σ σ59 := tw_F_up hFσ11 eσ59 (show (88 = 88 ∧ (26 = 19 ∨ 26 = 20 ∨ 26 = 21 ∨ 26 = 22 ∨ 26 = 23 ∨ 26 = 24 ∨ 26 = 25 ∨ 26 = 26 ∨ 26 = 27)) ∨ (88 = 89 ∧ 300 ≤ 26) from by omega)
                    refine j_aload_n (pc := 147) dX12_findPlan_147 rfl rfl ?_
                    refine j_iload (pc := 148) dX12_findPlan_148 rfl ?_
                    refine j_ifR_eq (pc := 150) (tgt := 157) ⟨by omega, by omega⟩ dX12_findPlan_150 rfl (fun h60 => by exfalso; omega) (fun h60 => ?_)
                    refine j_iload_n (pc := 153) dX12_findPlan_153 rfl rfl ?_
                    refine j_goto (pc := 154) (tgt := 161) dX12_findPlan_154 rfl ?_
                    refine j_putI (pc := 161) fl_X12_295 fp_X12_27 dX12_findPlan_161 (a_88 hM) rfl (j_nm (fun σ61 (eσ61 : σ61 = tw_up σ59 88 27 0) => ?_))
                    have hIσ61 : tw_I σ61 := tw_I_up hIσ59 eσ61 (show (-2147483648 : Int) ≤ 0 ∧ 0 ≤ 2147483647 from ⟨by omega, by omega⟩)
                    have hFσ61 : tw_F (fun c j => (c = 88 ∧ (j = 19 ∨ j = 20 ∨ j = 21 ∨ j = 22 ∨ j = 23 ∨ j = 24 ∨ j = 25 ∨ j = 26 ∨ j = 27)) ∨ (c = 89 ∧ 300 ≤ j)) σ σ61 := tw_F_up hFσ59 eσ61 (show (88 = 88 ∧ (27 = 19 ∨ 27 = 20 ∨ 27 = 21 ∨ 27 = 22 ∨ 27 = 23 ∨ 27 = 24 ∨ 27 = 25 ∨ 27 = 26 ∨ 27 = 27)) ∨ (88 = 89 ∧ 300 ≤ 27) from by omega)
                    refine j_iinc (pc := 164) (i := 2) (n := 1) (ls' := [(0, vR 88), (1, vI n), (2, vI (s + 1))]) [1, 2, 0] dX12_findPlan_164 rfl (Nat.le_of_ble_eq_true rfl) rfl rfl ?_
                    refine j_goto (pc := 167) (tgt := 32) dX12_findPlan_167 rfl ?_
                    refine j_ls (ls' := [(0, vR 88), (1, vI n), (2, vI (s + 1))]) [0, 1, 2] rfl ?_
                    have y62 : σ61 88 26 = s := ((tw_ne1 eσ61 (by omega))).trans (tw_eq1 eσ59)
                    exact ih n ⟨by omega, by omega⟩ (s + 1) ⟨by omega, by omega⟩ σ61 hIσ61 hFσ61 (show n = mK σ from i0) (show PS σ (σ61 88 26) (s + 1) from (by first | exact PS_old i1 (by assumption) | exact PS_old i1 rfl | exact PS_new (by omega) g9 (by assumption))) (show (s + 1) ≤ p2 n from (by omega)) (show (1024 - (s + 1)).toNat < N_ from by omega)
        · refine j_aload_n (pc := 63) dX12_findPlan_63 rfl rfl ?_
          refine j_sipush (pc := 64) dX12_findPlan_64 rfl ?_
          refine j_callV (pc := 67) (As := [vI 300]) (st := []) (c_X12_riskOf hM 300 ⟨by omega, by omega⟩ σ11 hIσ11) mv_X12_280 rfl rfl rfl (a_88 hM) dX12_findPlan_67 ⟨Nat.le_of_ble_eq_true rfl, Nat.le_of_ble_eq_true rfl⟩ ⟨Nat.le_refl _, Nat.le_refl _⟩ rfl (Nat.le_of_ble_eq_true rfl) rfl (fun z63 σ64 hz63 => ?_)
          obtain ⟨r66, rfl, hr66, hIσ64, hGσ64, -⟩ := hz63
          have hFσ64 : tw_F (fun c j => (c = 88 ∧ (j = 19 ∨ j = 20 ∨ j = 21 ∨ j = 22 ∨ j = 23 ∨ j = 24 ∨ j = 25 ∨ j = 26 ∨ j = 27)) ∨ (c = 89 ∧ 300 ≤ j)) σ σ64 := tw_F_tr hFσ11 hGσ64 (fun c j q => (show (c = 88 ∧ (j = 19 ∨ j = 20 ∨ j = 21 ∨ j = 22 ∨ j = 23 ∨ j = 24 ∨ j = 25 ∨ j = 26 ∨ j = 27)) ∨ (c = 89 ∧ 300 ≤ j) from by replace q : (c = 88 ∧ (j = 19 ∨ j = 20 ∨ j = 21 ∨ j = 22 ∨ j = 23)) := q; omega))
          refine j_st (st' := [vI r66]) rfl ?_
          refine j_goto (pc := 70) (tgt := 74) dX12_findPlan_70 rfl ?_
          refine j_istore_n (pc := 74) (i := 3) (ls' := [(0, vR 88), (1, vI n), (2, vI s), (3, vI r66)]) [1, 2, 3, 0] dX12_findPlan_74 rfl (Nat.le_of_ble_eq_true rfl) rfl rfl ?_
          refine j_aload_n (pc := 75) dX12_findPlan_75 rfl rfl ?_
          refine j_getI (pc := 76) fl_X12_274 dX12_findPlan_76 (a_88 hM) rfl ?_
          refine j_topV (show σ64 88 25 = σ11 88 25 from (hGσ64 88 25 (show ¬ ((88 = 88 ∧ (25 = 19 ∨ 25 = 20 ∨ 25 = 21 ∨ 25 = 22 ∨ 25 = 23))) from by omega))) ?_
          refine j_bipush (pc := 79) dX12_findPlan_79 rfl ?_
          refine j_icmpR_ne (pc := 81) (tgt := 127) ⟨by omega, by omega⟩ ⟨by omega, by omega⟩ dX12_findPlan_81 rfl (fun h67 => by exfalso; omega) (fun h67 => ?_)
          refine j_aload_n (pc := 84) dX12_findPlan_84 rfl rfl ?_
          refine j_getI (pc := 85) fl_X12_292 dX12_findPlan_85 (a_88 hM) rfl ?_
          refine j_topV (show σ64 88 26 = τ 88 26 from (((hGσ64 88 26 (show ¬ ((88 = 88 ∧ (26 = 19 ∨ 26 = 20 ∨ 26 = 21 ∨ 26 = 22 ∨ 26 = 23))) from by omega))).trans (hGσ11 88 26 (show ¬ ((88 = 88 ∧ (26 = 24 ∨ 26 = 25))) from by omega))).trans (hGσ4 88 26 (show ¬ ((88 = 89 ∧ 300 ≤ 26)) from by omega))) ?_
          have f68 : (-4 : Int) ≤ τ 88 26 ∧ τ 88 26 ≤ 1023 := hIτ 88 26
          refine j_bipush (pc := 88) dX12_findPlan_88 rfl ?_
          refine j_icmpR_eq (pc := 90) (tgt := 123) ⟨by omega, by omega⟩ ⟨by omega, by omega⟩ dX12_findPlan_90 rfl (fun h69 => ?_) (fun h69 => ?_)
          · refine j_iconst (pc := 123) dX12_findPlan_123 ?_
            refine j_goto (pc := 124) (tgt := 128) dX12_findPlan_124 rfl ?_
            refine j_istore (pc := 128) (i := 4) (ls' := [(0, vR 88), (1, vI n), (2, vI s), (3, vI r66), (4, vI 1)]) [1, 2, 3, 4, 0] dX12_findPlan_128 (Nat.le_of_ble_eq_true rfl) rfl rfl ?_
            refine j_aload_n (pc := 130) dX12_findPlan_130 rfl rfl ?_
            refine j_iload (pc := 131) dX12_findPlan_131 rfl ?_
            refine j_ifR_eq (pc := 133) (tgt := 140) ⟨by omega, by omega⟩ dX12_findPlan_133 rfl (fun h70 => by exfalso; omega) (fun h70 => ?_)
            refine j_iload_n (pc := 136) dX12_findPlan_136 rfl rfl ?_
            refine j_goto (pc := 137) (tgt := 144) dX12_findPlan_137 rfl ?_
            refine j_putI (pc := 144) fl_X12_292 fp_X12_26 dX12_findPlan_144 (a_88 hM) rfl (j_nm (fun σ71 (eσ71 : σ71 = tw_up σ64 88 26 s) => ?_))
            have hIσ71 : tw_I σ71 := tw_I_up hIσ64 eσ71 (show (-4 : Int) ≤ s ∧ s ≤ 1023 from ⟨by omega, by omega⟩)
            have hFσ71 : tw_F (fun c j => (c = 88 ∧ (j = 19 ∨ j = 20 ∨ j = 21 ∨ j = 22 ∨ j = 23 ∨ j = 24 ∨ j = 25 ∨ j = 26 ∨ j = 27)) ∨ (c = 89 ∧ 300 ≤ j)) σ σ71 := tw_F_up hFσ64 eσ71 (show (88 = 88 ∧ (26 = 19 ∨ 26 = 20 ∨ 26 = 21 ∨ 26 = 22 ∨ 26 = 23 ∨ 26 = 24 ∨ 26 = 25 ∨ 26 = 26 ∨ 26 = 27)) ∨ (88 = 89 ∧ 300 ≤ 26) from by omega)
            refine j_aload_n (pc := 147) dX12_findPlan_147 rfl rfl ?_
            refine j_iload (pc := 148) dX12_findPlan_148 rfl ?_
            refine j_ifR_eq (pc := 150) (tgt := 157) ⟨by omega, by omega⟩ dX12_findPlan_150 rfl (fun h72 => by exfalso; omega) (fun h72 => ?_)
            refine j_iload_n (pc := 153) dX12_findPlan_153 rfl rfl ?_
            refine j_goto (pc := 154) (tgt := 161) dX12_findPlan_154 rfl ?_
            refine j_putI (pc := 161) fl_X12_295 fp_X12_27 dX12_findPlan_161 (a_88 hM) rfl (j_nm (fun σ73 (eσ73 : σ73 = tw_up σ71 88 27 r66) => ?_))
            have hIσ73 : tw_I σ73 := tw_I_up hIσ71 eσ73 (show (-2147483648 : Int) ≤ r66 ∧ r66 ≤ 2147483647 from ⟨by omega, by omega⟩)
            have hFσ73 : tw_F (fun c j => (c = 88 ∧ (j = 19 ∨ j = 20 ∨ j = 21 ∨ j = 22 ∨ j = 23 ∨ j = 24 ∨ j = 25 ∨ j = 26 ∨ j = 27)) ∨ (c = 89 ∧ 300 ≤ j)) σ σ73 := tw_F_up hFσ71 eσ73 (show (88 = 88 ∧ (27 = 19 ∨ 27 = 20 ∨ 27 = 21 ∨ 27 = 22 ∨ 27 = 23 ∨ 27 = 24 ∨ 27 = 25 ∨ 27 = 26 ∨ 27 = 27)) ∨ (88 = 89 ∧ 300 ≤ 27) from by omega)
            refine j_iinc (pc := 164) (i := 2) (n := 1) (ls' := [(0, vR 88), (1, vI n), (2, vI (s + 1))]) [1, 2, 0] dX12_findPlan_164 rfl (Nat.le_of_ble_eq_true rfl) rfl rfl ?_
            refine j_goto (pc := 167) (tgt := 32) dX12_findPlan_167 rfl ?_
            refine j_ls (ls' := [(0, vR 88), (1, vI n), (2, vI (s + 1))]) [0, 1, 2] rfl ?_
            have y74 : σ73 88 26 = s := ((tw_ne1 eσ73 (by omega))).trans (tw_eq1 eσ71)
            exact ih n ⟨by omega, by omega⟩ (s + 1) ⟨by omega, by omega⟩ σ73 hIσ73 hFσ73 (show n = mK σ from i0) (show PS σ (σ73 88 26) (s + 1) from (by first | exact PS_old i1 (by assumption) | exact PS_old i1 rfl | exact PS_new (by omega) g9 (by assumption))) (show (s + 1) ≤ p2 n from (by omega)) (show (1024 - (s + 1)).toNat < N_ from by omega)
          · refine j_iload_n (pc := 93) dX12_findPlan_93 rfl rfl ?_
            refine j_aload_n (pc := 94) dX12_findPlan_94 rfl rfl ?_
            refine j_getI (pc := 95) fl_X12_295 dX12_findPlan_95 (a_88 hM) rfl ?_
            refine j_topV (show σ64 88 27 = τ 88 27 from (((hGσ64 88 27 (show ¬ ((88 = 88 ∧ (27 = 19 ∨ 27 = 20 ∨ 27 = 21 ∨ 27 = 22 ∨ 27 = 23))) from by omega))).trans (hGσ11 88 27 (show ¬ ((88 = 88 ∧ (27 = 24 ∨ 27 = 25))) from by omega))).trans (hGσ4 88 27 (show ¬ ((88 = 89 ∧ 300 ≤ 27)) from by omega))) ?_
            have f75 : (-2147483648 : Int) ≤ τ 88 27 ∧ τ 88 27 ≤ 2147483647 := hIτ 88 27
            refine j_icmpR_lt (pc := 98) (tgt := 123) ⟨by omega, by omega⟩ ⟨by omega, by omega⟩ dX12_findPlan_98 rfl (fun h76 => ?_) (fun h76 => ?_)
            · refine j_iconst (pc := 123) dX12_findPlan_123 ?_
              refine j_goto (pc := 124) (tgt := 128) dX12_findPlan_124 rfl ?_
              refine j_istore (pc := 128) (i := 4) (ls' := [(0, vR 88), (1, vI n), (2, vI s), (3, vI r66), (4, vI 1)]) [1, 2, 3, 4, 0] dX12_findPlan_128 (Nat.le_of_ble_eq_true rfl) rfl rfl ?_
              refine j_aload_n (pc := 130) dX12_findPlan_130 rfl rfl ?_
              refine j_iload (pc := 131) dX12_findPlan_131 rfl ?_
              refine j_ifR_eq (pc := 133) (tgt := 140) ⟨by omega, by omega⟩ dX12_findPlan_133 rfl (fun h77 => by exfalso; omega) (fun h77 => ?_)
              refine j_iload_n (pc := 136) dX12_findPlan_136 rfl rfl ?_
              refine j_goto (pc := 137) (tgt := 144) dX12_findPlan_137 rfl ?_
              refine j_putI (pc := 144) fl_X12_292 fp_X12_26 dX12_findPlan_144 (a_88 hM) rfl (j_nm (fun σ78 (eσ78 : σ78 = tw_up σ64 88 26 s) => ?_))
              have hIσ78 : tw_I σ78 := tw_I_up hIσ64 eσ78 (show (-4 : Int) ≤ s ∧ s ≤ 1023 from ⟨by omega, by omega⟩)
              have hFσ78 : tw_F (fun c j => (c = 88 ∧ (j = 19 ∨ j = 20 ∨ j = 21 ∨ j = 22 ∨ j = 23 ∨ j = 24 ∨ j = 25 ∨ j = 26 ∨ j = 27)) ∨ (c = 89 ∧ 300 ≤ j)) σ σ78 := tw_F_up hFσ64 eσ78 (show (88 = 88 ∧ (26 = 19 ∨ 26 = 20 ∨ 26 = 21 ∨ 26 = 22 ∨ 26 = 23 ∨ 26 = 24 ∨ 26 = 25 ∨ 26 = 26 ∨ 26 = 27)) ∨ (88 = 89 ∧ 300 ≤ 26) from by omega)
              refine j_aload_n (pc := 147) dX12_findPlan_147 rfl rfl ?_
              refine j_iload (pc := 148) dX12_findPlan_148 rfl ?_
              refine j_ifR_eq (pc := 150) (tgt := 157) ⟨by omega, by omega⟩ dX12_findPlan_150 rfl (fun h79 => by exfalso; omega) (fun h79 => ?_)
              refine j_iload_n (pc := 153) dX12_findPlan_153 rfl rfl ?_
              refine j_goto (pc := 154) (tgt := 161) dX12_findPlan_154 rfl ?_
              refine j_putI (pc := 161) fl_X12_295 fp_X12_27 dX12_findPlan_161 (a_88 hM) rfl (j_nm (fun σ80 (eσ80 : σ80 = tw_up σ78 88 27 r66) => ?_))
              have hIσ80 : tw_I σ80 := tw_I_up hIσ78 eσ80 (show (-2147483648 : Int) ≤ r66 ∧ r66 ≤ 2147483647 from ⟨by omega, by omega⟩)
              have hFσ80 : tw_F (fun c j => (c = 88 ∧ (j = 19 ∨ j = 20 ∨ j = 21 ∨ j = 22 ∨ j = 23 ∨ j = 24 ∨ j = 25 ∨ j = 26 ∨ j = 27)) ∨ (c = 89 ∧ 300 ≤ j)) σ σ80 := tw_F_up hFσ78 eσ80 (show (88 = 88 ∧ (27 = 19 ∨ 27 = 20 ∨ 27 = 21 ∨ 27 = 22 ∨ 27 = 23 ∨ 27 = 24 ∨ 27 = 25 ∨ 27 = 26 ∨ 27 = 27)) ∨ (88 = 89 ∧ 300 ≤ 27) from by omega)
              refine j_iinc (pc := 164) (i := 2) (n := 1) (ls' := [(0, vR 88), (1, vI n), (2, vI (s + 1))]) [1, 2, 0] dX12_findPlan_164 rfl (Nat.le_of_ble_eq_true rfl) rfl rfl ?_
              refine j_goto (pc := 167) (tgt := 32) dX12_findPlan_167 rfl ?_
              refine j_ls (ls' := [(0, vR 88), (1, vI n), (2, vI (s + 1))]) [0, 1, 2] rfl ?_
              have y81 : σ80 88 26 = s := ((tw_ne1 eσ80 (by omega))).trans (tw_eq1 eσ78)
              exact ih n ⟨by omega, by omega⟩ (s + 1) ⟨by omega, by omega⟩ σ80 hIσ80 hFσ80 (show n = mK σ from i0) (show PS σ (σ80 88 26) (s + 1) from (by first | exact PS_old i1 (by assumption) | exact PS_old i1 rfl | exact PS_new (by omega) g9 (by assumption))) (show (s + 1) ≤ p2 n from (by omega)) (show (1024 - (s + 1)).toNat < N_ from by omega)
            · refine j_iload_n (pc := 101) dX12_findPlan_101 rfl rfl ?_
              refine j_aload_n (pc := 102) dX12_findPlan_102 rfl rfl ?_
              refine j_getI (pc := 103) fl_X12_295 dX12_findPlan_103 (a_88 hM) rfl ?_
              refine j_topV (show σ64 88 27 = τ 88 27 from (((hGσ64 88 27 (show ¬ ((88 = 88 ∧ (27 = 19 ∨ 27 = 20 ∨ 27 = 21 ∨ 27 = 22 ∨ 27 = 23))) from by omega))).trans (hGσ11 88 27 (show ¬ ((88 = 88 ∧ (27 = 24 ∨ 27 = 25))) from by omega))).trans (hGσ4 88 27 (show ¬ ((88 = 89 ∧ 300 ≤ 27)) from by omega))) ?_
              refine j_icmpR_ne (pc := 106) (tgt := 127) ⟨by omega, by omega⟩ ⟨by omega, by omega⟩ dX12_findPlan_106 rfl (fun h82 => ?_) (fun h82 => ?_)
              · refine j_iconst (pc := 127) dX12_findPlan_127 ?_
                refine j_istore (pc := 128) (i := 4) (ls' := [(0, vR 88), (1, vI n), (2, vI s), (3, vI r66), (4, vI 0)]) [1, 2, 3, 4, 0] dX12_findPlan_128 (Nat.le_of_ble_eq_true rfl) rfl rfl ?_
                refine j_aload_n (pc := 130) dX12_findPlan_130 rfl rfl ?_
                refine j_iload (pc := 131) dX12_findPlan_131 rfl ?_
                refine j_ifR_eq (pc := 133) (tgt := 140) ⟨by omega, by omega⟩ dX12_findPlan_133 rfl (fun h83 => ?_) (fun h83 => by exfalso; omega)
                refine j_aload_n (pc := 140) dX12_findPlan_140 rfl rfl ?_
                refine j_getI (pc := 141) fl_X12_292 dX12_findPlan_141 (a_88 hM) rfl ?_
                refine j_topV (show σ64 88 26 = τ 88 26 from (((hGσ64 88 26 (show ¬ ((88 = 88 ∧ (26 = 19 ∨ 26 = 20 ∨ 26 = 21 ∨ 26 = 22 ∨ 26 = 23))) from by omega))).trans (hGσ11 88 26 (show ¬ ((88 = 88 ∧ (26 = 24 ∨ 26 = 25))) from by omega))).trans (hGσ4 88 26 (show ¬ ((88 = 89 ∧ 300 ≤ 26)) from by omega))) ?_
                refine j_putI (pc := 144) fl_X12_292 fp_X12_26 dX12_findPlan_144 (a_88 hM) rfl (j_nm (fun σ84 (eσ84 : σ84 = tw_up σ64 88 26 (τ 88 26)) => ?_))
                have hIσ84 : tw_I σ84 := tw_I_up hIσ64 eσ84 (show (-4 : Int) ≤ τ 88 26 ∧ τ 88 26 ≤ 1023 from ⟨by omega, by omega⟩)
                have hFσ84 : tw_F (fun c j => (c = 88 ∧ (j = 19 ∨ j = 20 ∨ j = 21 ∨ j = 22 ∨ j = 23 ∨ j = 24 ∨ j = 25 ∨ j = 26 ∨ j = 27)) ∨ (c = 89 ∧ 300 ≤ j)) σ σ84 := tw_F_up hFσ64 eσ84 (show (88 = 88 ∧ (26 = 19 ∨ 26 = 20 ∨ 26 = 21 ∨ 26 = 22 ∨ 26 = 23 ∨ 26 = 24 ∨ 26 = 25 ∨ 26 = 26 ∨ 26 = 27)) ∨ (88 = 89 ∧ 300 ≤ 26) from by omega)
                refine j_aload_n (pc := 147) dX12_findPlan_147 rfl rfl ?_
                refine j_iload (pc := 148) dX12_findPlan_148 rfl ?_
                refine j_ifR_eq (pc := 150) (tgt := 157) ⟨by omega, by omega⟩ dX12_findPlan_150 rfl (fun h85 => ?_) (fun h85 => by exfalso; omega)
                refine j_aload_n (pc := 157) dX12_findPlan_157 rfl rfl ?_
                refine j_getI (pc := 158) fl_X12_295 dX12_findPlan_158 (a_88 hM) rfl ?_
                refine j_topV (show σ84 88 27 = τ 88 27 from ((((tw_ne1 eσ84 (by omega))).trans (hGσ64 88 27 (show ¬ ((88 = 88 ∧ (27 = 19 ∨ 27 = 20 ∨ 27 = 21 ∨ 27 = 22 ∨ 27 = 23))) from by omega))).trans (hGσ11 88 27 (show ¬ ((88 = 88 ∧ (27 = 24 ∨ 27 = 25))) from by omega))).trans (hGσ4 88 27 (show ¬ ((88 = 89 ∧ 300 ≤ 27)) from by omega))) ?_
                refine j_putI (pc := 161) fl_X12_295 fp_X12_27 dX12_findPlan_161 (a_88 hM) rfl (j_nm (fun σ86 (eσ86 : σ86 = tw_up σ84 88 27 (τ 88 27)) => ?_))
                have hIσ86 : tw_I σ86 := tw_I_up hIσ84 eσ86 (show (-2147483648 : Int) ≤ τ 88 27 ∧ τ 88 27 ≤ 2147483647 from ⟨by omega, by omega⟩)
                have hFσ86 : tw_F (fun c j => (c = 88 ∧ (j = 19 ∨ j = 20 ∨ j = 21 ∨ j = 22 ∨ j = 23 ∨ j = 24 ∨ j = 25 ∨ j = 26 ∨ j = 27)) ∨ (c = 89 ∧ 300 ≤ j)) σ σ86 := tw_F_up hFσ84 eσ86 (show (88 = 88 ∧ (27 = 19 ∨ 27 = 20 ∨ 27 = 21 ∨ 27 = 22 ∨ 27 = 23 ∨ 27 = 24 ∨ 27 = 25 ∨ 27 = 26 ∨ 27 = 27)) ∨ (88 = 89 ∧ 300 ≤ 27) from by omega)
                refine j_iinc (pc := 164) (i := 2) (n := 1) (ls' := [(0, vR 88), (1, vI n), (2, vI (s + 1))]) [1, 2, 0] dX12_findPlan_164 rfl (Nat.le_of_ble_eq_true rfl) rfl rfl ?_
                refine j_goto (pc := 167) (tgt := 32) dX12_findPlan_167 rfl ?_
                refine j_ls (ls' := [(0, vR 88), (1, vI n), (2, vI (s + 1))]) [0, 1, 2] rfl ?_
                have y87 : σ86 88 26 = τ 88 26 := ((tw_ne1 eσ86 (by omega))).trans (tw_eq1 eσ84)
                exact ih n ⟨by omega, by omega⟩ (s + 1) ⟨by omega, by omega⟩ σ86 hIσ86 hFσ86 (show n = mK σ from i0) (show PS σ (σ86 88 26) (s + 1) from (by first | exact PS_old i1 (by assumption) | exact PS_old i1 rfl | exact PS_new (by omega) g9 (by assumption))) (show (s + 1) ≤ p2 n from (by omega)) (show (1024 - (s + 1)).toNat < N_ from by omega)
              · refine j_iload_n (pc := 109) dX12_findPlan_109 rfl rfl ?_
                refine j_callS (pc := 110) (As := [vI s]) (st := []) (c_X12_countOf s ⟨by omega, by omega⟩ σ64 hIσ64) ms_X12_304 rfl dX12_findPlan_110 ⟨Nat.le_of_ble_eq_true rfl, Nat.le_of_ble_eq_true rfl⟩ ⟨Nat.le_refl _, Nat.le_refl _⟩ rfl (Nat.le_of_ble_eq_true rfl) rfl (fun z88 σ89 hz88 => ?_)
                obtain ⟨r91, rfl, hr91, rfl, q90_0⟩ := hz88
                replace q90_0 : r91 = mPop s 12 := q90_0
                refine j_st (st' := [vI r91]) rfl ?_
                refine j_aload_n (pc := 113) dX12_findPlan_113 rfl rfl ?_
                refine j_getI (pc := 114) fl_X12_292 dX12_findPlan_114 (a_88 hM) rfl ?_
                refine j_topV (show σ64 88 26 = τ 88 26 from (((hGσ64 88 26 (show ¬ ((88 = 88 ∧ (26 = 19 ∨ 26 = 20 ∨ 26 = 21 ∨ 26 = 22 ∨ 26 = 23))) from by omega))).trans (hGσ11 88 26 (show ¬ ((88 = 88 ∧ (26 = 24 ∨ 26 = 25))) from by omega))).trans (hGσ4 88 26 (show ¬ ((88 = 89 ∧ 300 ≤ 26)) from by omega))) ?_
                refine j_callS (pc := 117) (As := [vI (τ 88 26)]) (st := [vI r91]) (c_X12_countOf (τ 88 26) ⟨by omega, by omega⟩ σ64 hIσ64) ms_X12_304 rfl dX12_findPlan_117 ⟨Nat.le_of_ble_eq_true rfl, Nat.le_of_ble_eq_true rfl⟩ ⟨Nat.le_refl _, Nat.le_refl _⟩ rfl (Nat.le_of_ble_eq_true rfl) rfl (fun z92 σ93 hz92 => ?_)
                obtain ⟨r95, rfl, hr95, rfl, q94_0⟩ := hz92
                replace q94_0 : r95 = mPop (τ 88 26) 12 := q94_0
                refine j_st (st' := [vI r95, vI r91]) rfl ?_
                refine j_icmpR_ge (pc := 120) (tgt := 127) ⟨by omega, by omega⟩ ⟨by omega, by omega⟩ dX12_findPlan_120 rfl (fun h96 => ?_) (fun h96 => ?_)
                · refine j_iconst (pc := 127) dX12_findPlan_127 ?_
                  refine j_istore (pc := 128) (i := 4) (ls' := [(0, vR 88), (1, vI n), (2, vI s), (3, vI r66), (4, vI 0)]) [1, 2, 3, 4, 0] dX12_findPlan_128 (Nat.le_of_ble_eq_true rfl) rfl rfl ?_
                  refine j_aload_n (pc := 130) dX12_findPlan_130 rfl rfl ?_
                  refine j_iload (pc := 131) dX12_findPlan_131 rfl ?_
                  refine j_ifR_eq (pc := 133) (tgt := 140) ⟨by omega, by omega⟩ dX12_findPlan_133 rfl (fun h97 => ?_) (fun h97 => by exfalso; omega)
                  refine j_aload_n (pc := 140) dX12_findPlan_140 rfl rfl ?_
                  refine j_getI (pc := 141) fl_X12_292 dX12_findPlan_141 (a_88 hM) rfl ?_
                  refine j_topV (show σ64 88 26 = τ 88 26 from (((hGσ64 88 26 (show ¬ ((88 = 88 ∧ (26 = 19 ∨ 26 = 20 ∨ 26 = 21 ∨ 26 = 22 ∨ 26 = 23))) from by omega))).trans (hGσ11 88 26 (show ¬ ((88 = 88 ∧ (26 = 24 ∨ 26 = 25))) from by omega))).trans (hGσ4 88 26 (show ¬ ((88 = 89 ∧ 300 ≤ 26)) from by omega))) ?_
                  refine j_putI (pc := 144) fl_X12_292 fp_X12_26 dX12_findPlan_144 (a_88 hM) rfl (j_nm (fun σ98 (eσ98 : σ98 = tw_up σ64 88 26 (τ 88 26)) => ?_))
                  have hIσ98 : tw_I σ98 := tw_I_up hIσ64 eσ98 (show (-4 : Int) ≤ τ 88 26 ∧ τ 88 26 ≤ 1023 from ⟨by omega, by omega⟩)
                  have hFσ98 : tw_F (fun c j => (c = 88 ∧ (j = 19 ∨ j = 20 ∨ j = 21 ∨ j = 22 ∨ j = 23 ∨ j = 24 ∨ j = 25 ∨ j = 26 ∨ j = 27)) ∨ (c = 89 ∧ 300 ≤ j)) σ σ98 := tw_F_up hFσ64 eσ98 (show (88 = 88 ∧ (26 = 19 ∨ 26 = 20 ∨ 26 = 21 ∨ 26 = 22 ∨ 26 = 23 ∨ 26 = 24 ∨ 26 = 25 ∨ 26 = 26 ∨ 26 = 27)) ∨ (88 = 89 ∧ 300 ≤ 26) from by omega)
                  refine j_aload_n (pc := 147) dX12_findPlan_147 rfl rfl ?_
                  refine j_iload (pc := 148) dX12_findPlan_148 rfl ?_
                  refine j_ifR_eq (pc := 150) (tgt := 157) ⟨by omega, by omega⟩ dX12_findPlan_150 rfl (fun h99 => ?_) (fun h99 => by exfalso; omega)
                  refine j_aload_n (pc := 157) dX12_findPlan_157 rfl rfl ?_
                  refine j_getI (pc := 158) fl_X12_295 dX12_findPlan_158 (a_88 hM) rfl ?_
                  refine j_topV (show σ98 88 27 = τ 88 27 from ((((tw_ne1 eσ98 (by omega))).trans (hGσ64 88 27 (show ¬ ((88 = 88 ∧ (27 = 19 ∨ 27 = 20 ∨ 27 = 21 ∨ 27 = 22 ∨ 27 = 23))) from by omega))).trans (hGσ11 88 27 (show ¬ ((88 = 88 ∧ (27 = 24 ∨ 27 = 25))) from by omega))).trans (hGσ4 88 27 (show ¬ ((88 = 89 ∧ 300 ≤ 27)) from by omega))) ?_
                  refine j_putI (pc := 161) fl_X12_295 fp_X12_27 dX12_findPlan_161 (a_88 hM) rfl (j_nm (fun σ100 (eσ100 : σ100 = tw_up σ98 88 27 (τ 88 27)) => ?_))
                  have hIσ100 : tw_I σ100 := tw_I_up hIσ98 eσ100 (show (-2147483648 : Int) ≤ τ 88 27 ∧ τ 88 27 ≤ 2147483647 from ⟨by omega, by omega⟩)
                  have hFσ100 : tw_F (fun c j => (c = 88 ∧ (j = 19 ∨ j = 20 ∨ j = 21 ∨ j = 22 ∨ j = 23 ∨ j = 24 ∨ j = 25 ∨ j = 26 ∨ j = 27)) ∨ (c = 89 ∧ 300 ≤ j)) σ σ100 := tw_F_up hFσ98 eσ100 (show (88 = 88 ∧ (27 = 19 ∨ 27 = 20 ∨ 27 = 21 ∨ 27 = 22 ∨ 27 = 23 ∨ 27 = 24 ∨ 27 = 25 ∨ 27 = 26 ∨ 27 = 27)) ∨ (88 = 89 ∧ 300 ≤ 27) from by omega)
                  refine j_iinc (pc := 164) (i := 2) (n := 1) (ls' := [(0, vR 88), (1, vI n), (2, vI (s + 1))]) [1, 2, 0] dX12_findPlan_164 rfl (Nat.le_of_ble_eq_true rfl) rfl rfl ?_
                  refine j_goto (pc := 167) (tgt := 32) dX12_findPlan_167 rfl ?_
                  refine j_ls (ls' := [(0, vR 88), (1, vI n), (2, vI (s + 1))]) [0, 1, 2] rfl ?_
                  have y101 : σ100 88 26 = τ 88 26 := ((tw_ne1 eσ100 (by omega))).trans (tw_eq1 eσ98)
                  exact ih n ⟨by omega, by omega⟩ (s + 1) ⟨by omega, by omega⟩ σ100 hIσ100 hFσ100 (show n = mK σ from i0) (show PS σ (σ100 88 26) (s + 1) from (by first | exact PS_old i1 (by assumption) | exact PS_old i1 rfl | exact PS_new (by omega) g9 (by assumption))) (show (s + 1) ≤ p2 n from (by omega)) (show (1024 - (s + 1)).toNat < N_ from by omega)
                · refine j_iconst (pc := 123) dX12_findPlan_123 ?_
                  refine j_goto (pc := 124) (tgt := 128) dX12_findPlan_124 rfl ?_
                  refine j_istore (pc := 128) (i := 4) (ls' := [(0, vR 88), (1, vI n), (2, vI s), (3, vI r66), (4, vI 1)]) [1, 2, 3, 4, 0] dX12_findPlan_128 (Nat.le_of_ble_eq_true rfl) rfl rfl ?_
                  refine j_aload_n (pc := 130) dX12_findPlan_130 rfl rfl ?_
                  refine j_iload (pc := 131) dX12_findPlan_131 rfl ?_
                  refine j_ifR_eq (pc := 133) (tgt := 140) ⟨by omega, by omega⟩ dX12_findPlan_133 rfl (fun h102 => by exfalso; omega) (fun h102 => ?_)
                  refine j_iload_n (pc := 136) dX12_findPlan_136 rfl rfl ?_
                  refine j_goto (pc := 137) (tgt := 144) dX12_findPlan_137 rfl ?_
                  refine j_putI (pc := 144) fl_X12_292 fp_X12_26 dX12_findPlan_144 (a_88 hM) rfl (j_nm (fun σ103 (eσ103 : σ103 = tw_up σ64 88 26 s) => ?_))
                  have hIσ103 : tw_I σ103 := tw_I_up hIσ64 eσ103 (show (-4 : Int) ≤ s ∧ s ≤ 1023 from ⟨by omega, by omega⟩)
                  have hFσ103 : tw_F (fun c j => (c = 88 ∧ (j = 19 ∨ j = 20 ∨ j = 21 ∨ j = 22 ∨ j = 23 ∨ j = 24 ∨ j = 25 ∨ j = 26 ∨ j = 27)) ∨ (c = 89 ∧ 300 ≤ j)) σ σ103 := tw_F_up hFσ64 eσ103 (show (88 = 88 ∧ (26 = 19 ∨ 26 = 20 ∨ 26 = 21 ∨ 26 = 22 ∨ 26 = 23 ∨ 26 = 24 ∨ 26 = 25 ∨ 26 = 26 ∨ 26 = 27)) ∨ (88 = 89 ∧ 300 ≤ 26) from by omega)
                  refine j_aload_n (pc := 147) dX12_findPlan_147 rfl rfl ?_
                  refine j_iload (pc := 148) dX12_findPlan_148 rfl ?_
                  refine j_ifR_eq (pc := 150) (tgt := 157) ⟨by omega, by omega⟩ dX12_findPlan_150 rfl (fun h104 => by exfalso; omega) (fun h104 => ?_)
                  refine j_iload_n (pc := 153) dX12_findPlan_153 rfl rfl ?_
                  refine j_goto (pc := 154) (tgt := 161) dX12_findPlan_154 rfl ?_
                  refine j_putI (pc := 161) fl_X12_295 fp_X12_27 dX12_findPlan_161 (a_88 hM) rfl (j_nm (fun σ105 (eσ105 : σ105 = tw_up σ103 88 27 r66) => ?_))
                  have hIσ105 : tw_I σ105 := tw_I_up hIσ103 eσ105 (show (-2147483648 : Int) ≤ r66 ∧ r66 ≤ 2147483647 from ⟨by omega, by omega⟩)
                  have hFσ105 : tw_F (fun c j => (c = 88 ∧ (j = 19 ∨ j = 20 ∨ j = 21 ∨ j = 22 ∨ j = 23 ∨ j = 24 ∨ j = 25 ∨ j = 26 ∨ j = 27)) ∨ (c = 89 ∧ 300 ≤ j)) σ σ105 := tw_F_up hFσ103 eσ105 (show (88 = 88 ∧ (27 = 19 ∨ 27 = 20 ∨ 27 = 21 ∨ 27 = 22 ∨ 27 = 23 ∨ 27 = 24 ∨ 27 = 25 ∨ 27 = 26 ∨ 27 = 27)) ∨ (88 = 89 ∧ 300 ≤ 27) from by omega)
                  refine j_iinc (pc := 164) (i := 2) (n := 1) (ls' := [(0, vR 88), (1, vI n), (2, vI (s + 1))]) [1, 2, 0] dX12_findPlan_164 rfl (Nat.le_of_ble_eq_true rfl) rfl rfl ?_
                  refine j_goto (pc := 167) (tgt := 32) dX12_findPlan_167 rfl ?_
                  refine j_ls (ls' := [(0, vR 88), (1, vI n), (2, vI (s + 1))]) [0, 1, 2] rfl ?_
                  have y106 : σ105 88 26 = s := ((tw_ne1 eσ105 (by omega))).trans (tw_eq1 eσ103)
                  exact ih n ⟨by omega, by omega⟩ (s + 1) ⟨by omega, by omega⟩ σ105 hIσ105 hFσ105 (show n = mK σ from i0) (show PS σ (σ105 88 26) (s + 1) from (by first | exact PS_old i1 (by assumption) | exact PS_old i1 rfl | exact PS_new (by omega) g9 (by assumption))) (show (s + 1) ≤ p2 n from (by omega)) (show (1024 - (s + 1)).toNat < N_ from by omega)
set_option maxHeartbeats 4000000 in
set_option maxRecDepth 100000 in
theorem c_X12_findPlan {G : tw_G} (hM : tw_isM G) (σ : tw_M) (hI : tw_I σ) : tw_C G yX12_findPlan cX12_findPlan 5 none 4 [vR 88] σ (q_X12_findPlan σ) := by
  refine tw_met [(0, vR 88)] (by decide +kernel) rfl (Nat.le_of_ble_eq_true rfl) ?_
  refine j_aload_n (pc := 0) dX12_findPlan_0 rfl rfl ?_
  refine j_bipush (pc := 1) dX12_findPlan_1 rfl ?_
  refine j_putI (pc := 3) fl_X12_292 fp_X12_26 dX12_findPlan_3 (a_88 hM) rfl (j_nm (fun σ107 (eσ107 : σ107 = tw_up σ 88 26 (-4)) => ?_))
  have hIσ107 : tw_I σ107 := tw_I_up hI eσ107 (show (-4 : Int) ≤ -4 ∧ -4 ≤ 1023 from ⟨by omega, by omega⟩)
  have hFσ107 : tw_F (fun c j => (c = 88 ∧ (j = 19 ∨ j = 20 ∨ j = 21 ∨ j = 22 ∨ j = 23 ∨ j = 24 ∨ j = 25 ∨ j = 26 ∨ j = 27)) ∨ (c = 89 ∧ 300 ≤ j)) σ σ107 := tw_F_up (tw_F_rf) eσ107 (show (88 = 88 ∧ (26 = 19 ∨ 26 = 20 ∨ 26 = 21 ∨ 26 = 22 ∨ 26 = 23 ∨ 26 = 24 ∨ 26 = 25 ∨ 26 = 26 ∨ 26 = 27)) ∨ (88 = 89 ∧ 300 ≤ 26) from by omega)
  refine j_aload_n (pc := 6) dX12_findPlan_6 rfl rfl ?_
  refine j_iconst (pc := 7) dX12_findPlan_7 ?_
  refine j_putI (pc := 8) fl_X12_295 fp_X12_27 dX12_findPlan_8 (a_88 hM) rfl (j_nm (fun σ108 (eσ108 : σ108 = tw_up σ107 88 27 0) => ?_))
  have hIσ108 : tw_I σ108 := tw_I_up hIσ107 eσ108 (show (-2147483648 : Int) ≤ 0 ∧ 0 ≤ 2147483647 from ⟨by omega, by omega⟩)
  have hFσ108 : tw_F (fun c j => (c = 88 ∧ (j = 19 ∨ j = 20 ∨ j = 21 ∨ j = 22 ∨ j = 23 ∨ j = 24 ∨ j = 25 ∨ j = 26 ∨ j = 27)) ∨ (c = 89 ∧ 300 ≤ j)) σ σ108 := tw_F_up hFσ107 eσ108 (show (88 = 88 ∧ (27 = 19 ∨ 27 = 20 ∨ 27 = 21 ∨ 27 = 22 ∨ 27 = 23 ∨ 27 = 24 ∨ 27 = 25 ∨ 27 = 26 ∨ 27 = 27)) ∨ (88 = 89 ∧ 300 ≤ 27) from by omega)
  refine j_aload_n (pc := 11) dX12_findPlan_11 rfl rfl ?_
  refine j_callV (pc := 12) (As := []) (st := []) (c_X12_cracks hM σ108 hIσ108) mv_X12_298 rfl rfl rfl (a_88 hM) dX12_findPlan_12 ⟨Nat.le_of_ble_eq_true rfl, Nat.le_of_ble_eq_true rfl⟩ ⟨Nat.le_refl _, Nat.le_refl _⟩ rfl (Nat.le_of_ble_eq_true rfl) rfl (fun z109 σ110 hz109 => ?_)
  obtain ⟨r112, rfl, hr112, rfl, q111_0⟩ := hz109
  replace q111_0 : r112 = nc σ108 (σ108 91 0).toNat := q111_0
  have y113 : σ108 91 0 = σ 91 0 := ((tw_ne1 eσ108 (by omega))).trans (tw_ne1 eσ107 (by omega))
  have f114 : (1 : Int) ≤ σ 91 0 ∧ σ 91 0 ≤ 40 := hI 91 0
  refine j_st (st' := [vI r112]) rfl ?_
  refine j_bipush (pc := 15) dX12_findPlan_15 rfl ?_
  refine j_icmpR_le (pc := 17) (tgt := 25) ⟨by omega, by omega⟩ ⟨by omega, by omega⟩ dX12_findPlan_17 rfl (fun h115 => ?_) (fun h115 => ?_)
  · refine j_aload_n (pc := 25) dX12_findPlan_25 rfl rfl ?_
    refine j_callV (pc := 26) (As := []) (st := []) (c_X12_cracks hM σ108 hIσ108) mv_X12_298 rfl rfl rfl (a_88 hM) dX12_findPlan_26 ⟨Nat.le_of_ble_eq_true rfl, Nat.le_of_ble_eq_true rfl⟩ ⟨Nat.le_refl _, Nat.le_refl _⟩ rfl (Nat.le_of_ble_eq_true rfl) rfl (fun z116 σ117 hz116 => ?_)
    obtain ⟨r119, rfl, hr119, rfl, q118_0⟩ := hz116
    replace q118_0 : r119 = nc σ108 (σ108 91 0).toNat := q118_0
    have y120 : σ108 91 0 = σ 91 0 := ((tw_ne1 eσ108 (by omega))).trans (tw_ne1 eσ107 (by omega))
    refine j_st (st' := [vI r119]) rfl ?_
    refine j_istore_n (pc := 29) (i := 1) (ls' := [(0, vR 88), (1, vI r119)]) [1, 0] dX12_findPlan_29 rfl (Nat.le_of_ble_eq_true rfl) rfl rfl ?_
    refine j_iconst (pc := 30) dX12_findPlan_30 ?_
    refine j_istore_n (pc := 31) (i := 2) (ls' := [(0, vR 88), (1, vI r119), (2, vI 0)]) [1, 2, 0] dX12_findPlan_31 rfl (Nat.le_of_ble_eq_true rfl) rfl rfl ?_
    refine j_ls (ls' := [(0, vR 88), (1, vI r119), (2, vI 0)]) [0, 1, 2] rfl ?_
    have y121 : σ108 88 26 = -4 := ((tw_ne1 eσ108 (by omega))).trans (tw_eq1 eσ107)
    exact (l_X12_findPlan hM σ hI (((1024 - (0 : Int)).toNat) + 1)) r119 ⟨by omega, by omega⟩ 0 ⟨by omega, by omega⟩ σ108 hIσ108 hFσ108 (show r119 = mK σ from (by have e9 := (nc_F hFσ108 (fun j => (show ¬ ((92 = 88 ∧ (j = 19 ∨ j = 20 ∨ j = 21 ∨ j = 22 ∨ j = 23 ∨ j = 24 ∨ j = 25 ∨ j = 26 ∨ j = 27)) ∨ (92 = 89 ∧ 300 ≤ j)) from by omega)) (show ¬ ((91 = 88 ∧ (0 = 19 ∨ 0 = 20 ∨ 0 = 21 ∨ 0 = 22 ∨ 0 = 23 ∨ 0 = 24 ∨ 0 = 25 ∨ 0 = 26 ∨ 0 = 27)) ∨ (91 = 89 ∧ 300 ≤ 0)) from by omega)); unfold mK; split <;> omega)) (show PS σ (σ108 88 26) (0 : Int) from (Or.inl (by omega))) (show (0 : Int) ≤ p2 r119 from p2_nn) (Nat.lt_succ_self _)
  · refine j_bipush (pc := 20) dX12_findPlan_20 rfl ?_
    refine j_goto (pc := 22) (tgt := 29) dX12_findPlan_22 rfl ?_
    refine j_istore_n (pc := 29) (i := 1) (ls' := [(0, vR 88), (1, vI 10)]) [1, 0] dX12_findPlan_29 rfl (Nat.le_of_ble_eq_true rfl) rfl rfl ?_
    refine j_iconst (pc := 30) dX12_findPlan_30 ?_
    refine j_istore_n (pc := 31) (i := 2) (ls' := [(0, vR 88), (1, vI 10), (2, vI 0)]) [1, 2, 0] dX12_findPlan_31 rfl (Nat.le_of_ble_eq_true rfl) rfl rfl ?_
    refine j_ls (ls' := [(0, vR 88), (1, vI 10), (2, vI 0)]) [0, 1, 2] rfl ?_
    have y122 : σ108 88 26 = -4 := ((tw_ne1 eσ108 (by omega))).trans (tw_eq1 eσ107)
    exact (l_X12_findPlan hM σ hI (((1024 - (0 : Int)).toNat) + 1)) 10 ⟨by omega, by omega⟩ 0 ⟨by omega, by omega⟩ σ108 hIσ108 hFσ108 (show (10 : Int) = mK σ from (by have e9 := (nc_F hFσ108 (fun j => (show ¬ ((92 = 88 ∧ (j = 19 ∨ j = 20 ∨ j = 21 ∨ j = 22 ∨ j = 23 ∨ j = 24 ∨ j = 25 ∨ j = 26 ∨ j = 27)) ∨ (92 = 89 ∧ 300 ≤ j)) from by omega)) (show ¬ ((91 = 88 ∧ (0 = 19 ∨ 0 = 20 ∨ 0 = 21 ∨ 0 = 22 ∨ 0 = 23 ∨ 0 = 24 ∨ 0 = 25 ∨ 0 = 26 ∨ 0 = 27)) ∨ (91 = 89 ∧ 300 ≤ 0)) from by omega)); unfold mK; split <;> omega)) (show PS σ (σ108 88 26) (0 : Int) from (Or.inl (by omega))) (show (0 : Int) ≤ p2 (10 : Int) from p2_nn) (Nat.lt_succ_self _)
