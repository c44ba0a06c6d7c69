/-! 27.model -/
theorem dX12_findPlan_0 : decode cX12_findPlan 0 = .ok (.aload_n 0, 1) := by decide +kernel
theorem dX12_findPlan_1 : decode cX12_findPlan 1 = .ok (.bipush (-4), 2) := by decide +kernel
theorem dX12_findPlan_3 : decode cX12_findPlan 3 = .ok (.putfield 292, 3) := by decide +kernel
theorem dX12_findPlan_6 : decode cX12_findPlan 6 = .ok (.aload_n 0, 1) := by decide +kernel
theorem dX12_findPlan_7 : decode cX12_findPlan 7 = .ok (.iconst 0, 1) := by decide +kernel
theorem dX12_findPlan_8 : decode cX12_findPlan 8 = .ok (.putfield 295, 3) := by decide +kernel
theorem dX12_findPlan_11 : decode cX12_findPlan 11 = .ok (.aload_n 0, 1) := by decide +kernel
theorem dX12_findPlan_12 : decode cX12_findPlan 12 = .ok (.invokevirtual 298, 3) := by decide +kernel
theorem dX12_findPlan_15 : decode cX12_findPlan 15 = .ok (.bipush 10, 2) := by decide +kernel
theorem dX12_findPlan_17 : decode cX12_findPlan 17 = .ok (.if_icmp .le 8, 3) := by decide +kernel
theorem dX12_findPlan_20 : decode cX12_findPlan 20 = .ok (.bipush 10, 2) := by decide +kernel
theorem dX12_findPlan_22 : decode cX12_findPlan 22 = .ok (.goto 7, 3) := by decide +kernel
theorem dX12_findPlan_25 : decode cX12_findPlan 25 = .ok (.aload_n 0, 1) := by decide +kernel
theorem dX12_findPlan_26 : decode cX12_findPlan 26 = .ok (.invokevirtual 298, 3) := by decide +kernel
theorem dX12_findPlan_29 : decode cX12_findPlan 29 = .ok (.istore_n 1, 1) := by decide +kernel
theorem dX12_findPlan_30 : decode cX12_findPlan 30 = .ok (.iconst 0, 1) := by decide +kernel
theorem dX12_findPlan_31 : decode cX12_findPlan 31 = .ok (.istore_n 2, 1) := by decide +kernel
theorem dX12_findPlan_32 : decode cX12_findPlan 32 = .ok (.iload_n 2, 1) := by decide +kernel
theorem dX12_findPlan_33 : decode cX12_findPlan 33 = .ok (.iconst 1, 1) := by decide +kernel
theorem dX12_findPlan_34 : decode cX12_findPlan 34 = .ok (.iload_n 1, 1) := by decide +kernel
theorem dX12_findPlan_35 : decode cX12_findPlan 35 = .ok (.ishl, 1) := by decide +kernel
theorem dX12_findPlan_36 : decode cX12_findPlan 36 = .ok (.if_icmp .ge 134, 3) := by decide +kernel
theorem dX12_findPlan_39 : decode cX12_findPlan 39 = .ok (.aload_n 0, 1) := by decide +kernel
theorem dX12_findPlan_40 : decode cX12_findPlan 40 = .ok (.iload_n 2, 1) := by decide +kernel
theorem dX12_findPlan_41 : decode cX12_findPlan 41 = .ok (.invokevirtual 301, 3) := by decide +kernel
theorem dX12_findPlan_44 : decode cX12_findPlan 44 = .ok (.ifCond .eq 120, 3) := by decide +kernel
theorem dX12_findPlan_47 : decode cX12_findPlan 47 = .ok (.aload_n 0, 1) := by decide +kernel
theorem dX12_findPlan_48 : decode cX12_findPlan 48 = .ok (.sipush 300, 3) := by decide +kernel
theorem dX12_findPlan_51 : decode cX12_findPlan 51 = .ok (.invokevirtual 277, 3) := by decide +kernel
theorem dX12_findPlan_54 : decode cX12_findPlan 54 = .ok (.aload_n 0, 1) := by decide +kernel
theorem dX12_findPlan_55 : decode cX12_findPlan 55 = .ok (.getfield 274, 3) := by decide +kernel
theorem dX12_findPlan_58 : decode cX12_findPlan 58 = .ok (.bipush (-4), 2) := by decide +kernel
theorem dX12_findPlan_60 : decode cX12_findPlan 60 = .ok (.if_icmp .ne 13, 3) := by decide +kernel
theorem dX12_findPlan_63 : decode cX12_findPlan 63 = .ok (.aload_n 0, 1) := by decide +kernel
theorem dX12_findPlan_64 : decode cX12_findPlan 64 = .ok (.sipush 300, 3) := by decide +kernel
theorem dX12_findPlan_67 : decode cX12_findPlan 67 = .ok (.invokevirtual 280, 3) := by decide +kernel
theorem dX12_findPlan_70 : decode cX12_findPlan 70 = .ok (.goto 4, 3) := by decide +kernel
theorem dX12_findPlan_73 : decode cX12_findPlan 73 = .ok (.iconst 0, 1) := by decide +kernel
theorem dX12_findPlan_74 : decode cX12_findPlan 74 = .ok (.istore_n 3, 1) := by decide +kernel
theorem dX12_findPlan_75 : decode cX12_findPlan 75 = .ok (.aload_n 0, 1) := by decide +kernel
theorem dX12_findPlan_76 : decode cX12_findPlan 76 = .ok (.getfield 274, 3) := by decide +kernel
theorem dX12_findPlan_79 : decode cX12_findPlan 79 = .ok (.bipush (-4), 2) := by decide +kernel
theorem dX12_findPlan_81 : decode cX12_findPlan 81 = .ok (.if_icmp .ne 46, 3) := by decide +kernel
theorem dX12_findPlan_84 : decode cX12_findPlan 84 = .ok (.aload_n 0, 1) := by decide +kernel
theorem dX12_findPlan_85 : decode cX12_findPlan 85 = .ok (.getfield 292, 3) := by decide +kernel
theorem dX12_findPlan_88 : decode cX12_findPlan 88 = .ok (.bipush (-4), 2) := by decide +kernel
theorem dX12_findPlan_90 : decode cX12_findPlan 90 = .ok (.if_icmp .eq 33, 3) := by decide +kernel
theorem dX12_findPlan_93 : decode cX12_findPlan 93 = .ok (.iload_n 3, 1) := by decide +kernel
theorem dX12_findPlan_94 : decode cX12_findPlan 94 = .ok (.aload_n 0, 1) := by decide +kernel
theorem dX12_findPlan_95 : decode cX12_findPlan 95 = .ok (.getfield 295, 3) := by decide +kernel
theorem dX12_findPlan_98 : decode cX12_findPlan 98 = .ok (.if_icmp .lt 25, 3) := by decide +kernel
theorem dX12_findPlan_101 : decode cX12_findPlan 101 = .ok (.iload_n 3, 1) := by decide +kernel
theorem dX12_findPlan_102 : decode cX12_findPlan 102 = .ok (.aload_n 0, 1) := by decide +kernel
theorem dX12_findPlan_103 : decode cX12_findPlan 103 = .ok (.getfield 295, 3) := by decide +kernel
theorem dX12_findPlan_106 : decode cX12_findPlan 106 = .ok (.if_icmp .ne 21, 3) := by decide +kernel
theorem dX12_findPlan_109 : decode cX12_findPlan 109 = .ok (.iload_n 2, 1) := by decide +kernel
theorem dX12_findPlan_110 : decode cX12_findPlan 110 = .ok (.invokestatic 304, 3) := by decide +kernel
theorem dX12_findPlan_113 : decode cX12_findPlan 113 = .ok (.aload_n 0, 1) := by decide +kernel
theorem dX12_findPlan_114 : decode cX12_findPlan 114 = .ok (.getfield 292, 3) := by decide +kernel
theorem dX12_findPlan_117 : decode cX12_findPlan 117 = .ok (.invokestatic 304, 3) := by decide +kernel
theorem dX12_findPlan_120 : decode cX12_findPlan 120 = .ok (.if_icmp .ge 7, 3) := by decide +kernel
theorem dX12_findPlan_123 : decode cX12_findPlan 123 = .ok (.iconst 1, 1) := by decide +kernel
theorem dX12_findPlan_124 : decode cX12_findPlan 124 = .ok (.goto 4, 3) := by decide +kernel
theorem dX12_findPlan_127 : decode cX12_findPlan 127 = .ok (.iconst 0, 1) := by decide +kernel
theorem dX12_findPlan_128 : decode cX12_findPlan 128 = .ok (.istore 4, 2) := by decide +kernel
theorem dX12_findPlan_130 : decode cX12_findPlan 130 = .ok (.aload_n 0, 1) := by decide +kernel
theorem dX12_findPlan_131 : decode cX12_findPlan 131 = .ok (.iload 4, 2) := by decide +kernel
theorem dX12_findPlan_133 : decode cX12_findPlan 133 = .ok (.ifCond .eq 7, 3) := by decide +kernel
theorem dX12_findPlan_136 : decode cX12_findPlan 136 = .ok (.iload_n 2, 1) := by decide +kernel
theorem dX12_findPlan_137 : decode cX12_findPlan 137 = .ok (.goto 7, 3) := by decide +kernel
theorem dX12_findPlan_140 : decode cX12_findPlan 140 = .ok (.aload_n 0, 1) := by decide +kernel
theorem dX12_findPlan_141 : decode cX12_findPlan 141 = .ok (.getfield 292, 3) := by decide +kernel
theorem dX12_findPlan_144 : decode cX12_findPlan 144 = .ok (.putfield 292, 3) := by decide +kernel
theorem dX12_findPlan_147 : decode cX12_findPlan 147 = .ok (.aload_n 0, 1) := by decide +kernel
theorem dX12_findPlan_148 : decode cX12_findPlan 148 = .ok (.iload 4, 2) := by decide +kernel
theorem dX12_findPlan_150 : decode cX12_findPlan 150 = .ok (.ifCond .eq 7, 3) := by decide +kernel
theorem dX12_findPlan_153 : decode cX12_findPlan 153 = .ok (.iload_n 3, 1) := by decide +kernel
theorem dX12_findPlan_154 : decode cX12_findPlan 154 = .ok (.goto 7, 3) := by decide +kernel
theorem dX12_findPlan_157 : decode cX12_findPlan 157 = .ok (.aload_n 0, 1) := by decide +kernel
theorem dX12_findPlan_158 : decode cX12_findPlan 158 = .ok (.getfield 295, 3) := by decide +kernel
theorem dX12_findPlan_161 : decode cX12_findPlan 161 = .ok (.putfield 295, 3) := by decide +kernel
theorem dX12_findPlan_164 : decode cX12_findPlan 164 = .ok (.iinc 2 1, 3) := by decide +kernel
theorem dX12_findPlan_167 : decode cX12_findPlan 167 = .ok (.goto (-135), 3) := by decide +kernel
theorem dX12_findPlan_170 : decode cX12_findPlan 170 = .ok (.return_, 1) := by decide +kernel
abbrev q_X12_findPlan  (σ : tw_M) : Option tw_V → tw_M → Prop := fun z τ => z = none ∧ tw_I τ ∧ tw_F (fun c j => (c = 88 ∧ (j = 19 ∨ j = 20 ∨ j = 21 ∨ j = 22 ∨ j = 23 ∨ j = 24 ∨ j = 25 ∨ j = 26 ∨ j = 27)) ∨ (c = 89 ∧ 300 ≤ j)) σ τ ∧ (PS σ (τ 88 26) (p2 (mK σ))) ∧ (∀ rk : Nat → Int, MOK rk σ → WOK (wM σ) → BMS (wM σ) rk (pt (kk (wM σ))) (τ 88 26) (τ 88 27))
set_option maxHeartbeats 4000000 in
set_option maxRecDepth 100000 in
theorem l_X12_findPlan {G : tw_G} (hM : tw_isM G) (σ : tw_M) (hI : tw_I σ) : ∀ N_ : Nat, (∀ (n : Int) (hn : 0 ≤ n ∧ n ≤ 10) (s : Int) (hs : 0 ≤ s ∧ s ≤ 1024) (τ : tw_M) (hIτ : tw_I τ) (hFτ : tw_F (fun c j => (c = 88 ∧ (j = 19 ∨ j = 20 ∨ j = 21 ∨ j = 22 ∨ j = 23 ∨ j = 24 ∨ j = 25 ∨ j = 26 ∨ j = 27)) ∨ (c = 89 ∧ 300 ≤ j)) σ τ) (i0 : n = mK σ) (i1 : PS σ (τ 88 26) s) (i2 : s ≤ p2 n) (i3 : ∀ rk : Nat → Int, MOK rk σ → WOK (wM σ) → BMS (wM σ) rk s (τ 88 26) (τ 88 27)) (hm : (1024 - s).toNat < N_), tw_J G (tw_mt RX12 cX12_findPlan 5 none 4) (tw_E G (q_X12_findPlan σ)) 32 [(0, vR 88), (1, vI n), (2, vI s)] [] τ) := by
  intro N_
  induction N_ with
  | zero => exact fun n hn s hs τ hIτ hFτ i0 i1 i2 i3 hm => absurd hm (Nat.not_lt_zero _)
  | succ N_ ih =>
    intro n hn s hs τ hIτ hFτ i0 i1 i2 i3 hm
    have sh := shl10 (k := n) ⟨by omega, by omega⟩
    have ml : ∀ x, mLay τ x = mLay σ x := mLay_congr (fun j hj => hFτ 89 j (show ¬ ((89 = 88 ∧ (j = 19 ∨ j = 20 ∨ j = 21 ∨ j = 22 ∨ j = 23 ∨ j = 24 ∨ j = 25 ∨ j = 26 ∨ j = 27)) ∨ (89 = 89 ∧ 300 ≤ j)) from by omega)) (fun j => hFτ 92 j (show ¬ ((92 = 88 ∧ (j = 19 ∨ j = 20 ∨ j = 21 ∨ j = 22 ∨ j = 23 ∨ j = 24 ∨ j = 25 ∨ j = 26 ∨ j = 27)) ∨ (92 = 89 ∧ 300 ≤ j)) from fun h => h.elim (fun h => absurd h.1 (by decide)) (fun h => absurd h.1 (by decide)))) (hFτ 91 0 (show ¬ ((91 = 88 ∧ (0 = 19 ∨ 0 = 20 ∨ 0 = 21 ∨ 0 = 22 ∨ 0 = 23 ∨ 0 = 24 ∨ 0 = 25 ∨ 0 = 26 ∨ 0 = 27)) ∨ (91 = 89 ∧ 300 ≤ 0)) from by decide)) (hI 91 0).2
    have MT : wM τ = wM σ := wM_F (fun j a b => hFτ 91 j (show ¬ ((91 = 88 ∧ (j = 19 ∨ j = 20 ∨ j = 21 ∨ j = 22 ∨ j = 23 ∨ j = 24 ∨ j = 25 ∨ j = 26 ∨ j = 27)) ∨ (91 = 89 ∧ 300 ≤ j)) from fun h => h.elim (fun h => absurd h.1 (by decide)) (fun h => absurd h.1 (by decide)))) (fun j => hFτ 92 j (show ¬ ((92 = 88 ∧ (j = 19 ∨ j = 20 ∨ j = 21 ∨ j = 22 ∨ j = 23 ∨ j = 24 ∨ j = 25 ∨ j = 26 ∨ j = 27)) ∨ (92 = 89 ∧ 300 ≤ j)) from fun h => h.elim (fun h => absurd h.1 (by decide)) (fun h => absurd h.1 (by decide))))
    have r0 : wM σ 100 = σ 91 0 := wM_r (j := 0) (by decide)
    have ft : (1 : Int) ≤ σ 91 0 ∧ σ 91 0 ≤ 40 := hI 91 0
    have ek : pt (kk (wM σ)) = pt n := by rw [← mK_kk (σ := σ) ft, ← i0]
    have ep : pt n = p2 n := rfl
    refine j_iload_n (pc := 32) dX12_findPlan_32 rfl rfl ?_
    refine j_iconst (pc := 33) dX12_findPlan_33 ?_
    refine j_iload_n (pc := 34) dX12_findPlan_34 rfl rfl ?_
    refine j_ishl (pc := 35) dX12_findPlan_35 (fun z1 ez1 => ?_)
    have hz1 : (-2147483648 : Int) ≤ z1 ∧ z1 ≤ 2147483647 := by rw [ez1]; exact shl_in _ _
    have gz1 : (0 : Int) ≤ z1 ∧ z1 ≤ 1024 := (by rw [ez1]; omega)
    refine j_icmpR_ge (pc := 36) (tgt := 170) ⟨by omega, by omega⟩ ⟨by omega, by omega⟩ dX12_findPlan_36 rfl (fun h2 => ?_) (fun h2 => ?_)
    · exact j_vret (pc := 170) ⟨rfl, rfl⟩ dX12_findPlan_170 rfl ⟨rfl, hIτ, hFτ, by rw [← i0]; exact PS_le i1 (by omega), (fun rk M hW => by (have B := i3 rk M hW); rw [show pt (kk (wM σ)) = s from by omega]; exact B)⟩
    · refine j_aload_n (pc := 39) dX12_findPlan_39 rfl rfl ?_
      refine j_iload_n (pc := 40) dX12_findPlan_40 rfl rfl ?_
      refine j_callV (pc := 41) (As := [vI s]) (st := []) (c_X12_lays hM s ⟨by omega, by omega⟩ τ hIτ) mv_X12_301 rfl rfl rfl (a_88 hM) dX12_findPlan_41 ⟨Nat.le_of_ble_eq_true rfl, Nat.le_of_ble_eq_true rfl⟩ ⟨Nat.le_refl _, Nat.le_refl _⟩ rfl (Nat.le_of_ble_eq_true rfl) rfl (fun z3 σ4 hz3 => ?_)
      obtain ⟨r6, rfl, hr6, hIσ4, hGσ4, q5_0, q5_1⟩ := hz3
      replace q5_0 : LZ τ σ4 s r6 := q5_0
      replace q5_1 : ∀ rk : Nat → Int, MOK rk τ → LJZ (wM τ) rk s r6 σ4 := q5_1
      have hFσ4 : tw_F (fun c j => (c = 88 ∧ (j = 19 ∨ j = 20 ∨ j = 21 ∨ j = 22 ∨ j = 23 ∨ j = 24 ∨ j = 25 ∨ j = 26 ∨ j = 27)) ∨ (c = 89 ∧ 300 ≤ j)) σ σ4 := tw_F_tr hFτ hGσ4 (fun c j q => (show (c = 88 ∧ (j = 19 ∨ j = 20 ∨ j = 21 ∨ j = 22 ∨ j = 23 ∨ j = 24 ∨ j = 25 ∨ j = 26 ∨ j = 27)) ∨ (c = 89 ∧ 300 ≤ j) from by replace q : (c = 89 ∧ 300 ≤ j) := q; exact (Or.inr q)))
      refine j_st (st' := [vI r6]) rfl ?_
      have g8 : r6 = mLay σ s := q5_0.2.2.1.trans (ml s)
      have ly := q5_1; rw [MT] at ly
      refine j_ifR_eq (pc := 44) (tgt := 164) ⟨by omega, by omega⟩ dX12_findPlan_44 rfl (fun h7 => ?_) (fun h7 => ?_)
      · refine j_iinc (pc := 164) (i := 2) (n := 1) (ls' := [(0, vR 88), (1, vI n), (2, vI (s + 1))]) [1, 2, 0] dX12_findPlan_164 rfl (Nat.le_of_ble_eq_true rfl) rfl rfl ?_
        refine j_goto (pc := 167) (tgt := 32) dX12_findPlan_167 rfl ?_
        refine j_ls (ls' := [(0, vR 88), (1, vI n), (2, vI (s + 1))]) [0, 1, 2] rfl ?_
        have y8 : σ4 88 26 = τ 88 26 := (hGσ4 88 26 (show ¬ ((88 = 89 ∧ 300 ≤ 26)) from by decide))
        have f9 : (-4 : Int) ≤ τ 88 26 ∧ τ 88 26 ≤ 1023 := hIτ 88 26
        have y10 : σ4 88 26 = τ 88 26 := (hGσ4 88 26 (show ¬ ((88 = 89 ∧ 300 ≤ 26)) from by decide))
        have y11 : σ4 88 27 = τ 88 27 := (hGσ4 88 27 (show ¬ ((88 = 89 ∧ 300 ≤ 27)) from by decide))
        have f12 : (-2147483648 : Int) ≤ τ 88 27 ∧ τ 88 27 ≤ 2147483647 := hIτ 88 27
        exact ih n ⟨by omega, by omega⟩ (s + 1) ⟨by omega, by omega⟩ σ4 hIσ4 hFσ4 (show n = mK σ from i0) (show PS σ (σ4 88 26) (s + 1) from (by first | exact PS_old i1 (by assumption) | exact PS_old i1 rfl | exact PS_new (by omega) g9 (by assumption))) (show (s + 1) ≤ p2 n from (by omega)) (show ∀ rk : Nat → Int, MOK rk σ → WOK (wM σ) → BMS (wM σ) rk (s + 1) (σ4 88 26) (σ4 88 27) from (fun rk M hW => by
                                                              have B := i3 rk M hW
                                                              have Y := ly rk (MOK_F M (fun j hj => hFτ 89 j (show ¬ ((89 = 88 ∧ (j = 19 ∨ j = 20 ∨ j = 21 ∨ j = 22 ∨ j = 23 ∨ j = 24 ∨ j = 25 ∨ j = 26 ∨ j = 27)) ∨ (89 = 89 ∧ 300 ≤ j)) from by omega)) (hFτ 91 0 (show ¬ ((91 = 88 ∧ (0 = 19 ∨ 0 = 20 ∨ 0 = 21 ∨ 0 = 22 ∨ 0 = 23 ∨ 0 = 24 ∨ 0 = 25 ∨ 0 = 26 ∨ 0 = 27)) ∨ (91 = 89 ∧ 300 ≤ 0)) from by decide)))
                                                              first
                                                              | (rw [show σ4 88 26 = _ from (hGσ4 88 26 (show ¬ ((88 = 89 ∧ 300 ≤ 26)) from by decide)), show σ4 88 27 = _ from (hGσ4 88 27 (show ¬ ((88 = 89 ∧ 300 ≤ 27)) from by decide))]; exact BM_no0 B Y (by omega))
                                                              | (rw [show σ4 88 26 = _ from (hGσ4 88 26 (show ¬ ((88 = 89 ∧ 300 ≤ 26)) from by decide)), show σ4 88 27 = _ from (hGσ4 88 27 (show ¬ ((88 = 89 ∧ 300 ≤ 27)) from by decide))]; exact BM_s hW B Y (by omega) ⟨by omega, by omega⟩ te (fun _ => xe) (by omega))
                                                              | (rw [show σ4 88 26 = _ from (hGσ4 88 26 (show ¬ ((88 = 89 ∧ 300 ≤ 26)) from by decide)), show σ4 88 27 = _ from (hGσ4 88 27 (show ¬ ((88 = 89 ∧ 300 ≤ 27)) from by decide))]; exact BM_s (x := 0) hW B Y (by omega) ⟨by omega, by omega⟩ te (fun z => by exfalso; omega) (by omega)))) (show (1024 - (s + 1)).toNat < N_ from by omega)
      · have g9 : mLay σ s = 1 := by omega
        refine j_aload_n (pc := 47) dX12_findPlan_47 rfl rfl ?_
        refine j_sipush (pc := 48) dX12_findPlan_48 rfl ?_
        refine j_callV (pc := 51) (As := [vI 300]) (st := []) (c_X12_findEffort hM 300 (by (first | decide | exact ⟨by omega, by omega⟩)) σ4 hIσ4) mv_X12_277 rfl rfl rfl (a_88 hM) dX12_findPlan_51 ⟨Nat.le_of_ble_eq_true rfl, Nat.le_of_ble_eq_true rfl⟩ ⟨Nat.le_refl _, Nat.le_refl _⟩ rfl (Nat.le_of_ble_eq_true rfl) rfl (fun z13 σ14 hz13 => ?_)
        obtain ⟨rfl, hIσ14, hGσ14, q15_0, q15_1⟩ := hz13
        replace q15_0 : σ14 88 24 = eff (wM σ4) (gM (300 : Int) σ4) (σ4 91 0).toNat := q15_0
        have y17 : σ4 91 0 = τ 91 0 := (hGσ4 91 0 (show ¬ ((91 = 89 ∧ 300 ≤ 0)) from by decide))
        have f18 : (1 : Int) ≤ τ 91 0 ∧ τ 91 0 ≤ 40 := hIτ 91 0
        replace q15_1 : TMs (wM σ4) (gM (300 : Int) σ4) (-4) 1 (σ4 91 0 + 1) (σ14 88 25) := q15_1
        have y19 : σ4 91 0 = τ 91 0 := (hGσ4 91 0 (show ¬ ((91 = 89 ∧ 300 ≤ 0)) from by decide))
        have hFσ14 : tw_F (fun c j => (c = 88 ∧ (j = 19 ∨ j = 20 ∨ j = 21 ∨ j = 22 ∨ j = 23 ∨ j = 24 ∨ j = 25 ∨ j = 26 ∨ j = 27)) ∨ (c = 89 ∧ 300 ≤ j)) σ σ14 := tw_F_tr hFσ4 hGσ14 (fun c j q => (show (c = 88 ∧ (j = 19 ∨ j = 20 ∨ j = 21 ∨ j = 22 ∨ j = 23 ∨ j = 24 ∨ j = 25 ∨ j = 26 ∨ j = 27)) ∨ (c = 89 ∧ 300 ≤ j) from by replace q : (c = 88 ∧ (j = 24 ∨ j = 25)) := q; exact (Or.inl ⟨q.1, (q.2.elim (fun z => (Or.inr (Or.inr (Or.inr (Or.inr (Or.inr (Or.inl z))))))) (fun z => (Or.inr (Or.inr (Or.inr (Or.inr (Or.inr (Or.inr (Or.inl z)))))))))⟩)))
        refine j_st (st' := []) rfl ?_
        have WL9 : wM σ4 = wM σ := (wM_F (fun j a b => hGσ4 91 j (show ¬ ((91 = 89 ∧ 300 ≤ j)) from fun h => absurd h.1 (by decide))) (fun j => hGσ4 92 j (show ¬ ((92 = 89 ∧ 300 ≤ j)) from fun h => absurd h.1 (by decide)))).trans MT
        have te := q15_1; rw [WL9, show σ4 91 0 = wM σ 100 from (by rw [r0]; exact (hGσ4 91 0 (show ¬ ((91 = 89 ∧ 300 ≤ 0)) from by decide)).trans (hFτ 91 0 (show ¬ ((91 = 88 ∧ (0 = 19 ∨ 0 = 20 ∨ 0 = 21 ∨ 0 = 22 ∨ 0 = 23 ∨ 0 = 24 ∨ 0 = 25 ∨ 0 = 26 ∨ 0 = 27)) ∨ (91 = 89 ∧ 300 ≤ 0)) from by decide)))] at te
        have WF9 : wM σ14 = wM σ := wM_F (fun j a b => hFσ14 91 j (show ¬ ((91 = 88 ∧ (j = 19 ∨ j = 20 ∨ j = 21 ∨ j = 22 ∨ j = 23 ∨ j = 24 ∨ j = 25 ∨ j = 26 ∨ j = 27)) ∨ (91 = 89 ∧ 300 ≤ j)) from fun h => h.elim (fun h => absurd h.1 (by decide)) (fun h => absurd h.1 (by decide)))) (fun j => hFσ14 92 j (show ¬ ((92 = 88 ∧ (j = 19 ∨ j = 20 ∨ j = 21 ∨ j = 22 ∨ j = 23 ∨ j = 24 ∨ j = 25 ∨ j = 26 ∨ j = 27)) ∨ (92 = 89 ∧ 300 ≤ j)) from fun h => h.elim (fun h => absurd h.1 (by decide)) (fun h => absurd h.1 (by decide))))
        have GF9 : gM 300 σ14 = gM 300 σ4 := gM_F (fun f x1 x2 => hGσ14 89 _ (show ¬ ((89 = 88 ∧ ((300 + f).toNat = 24 ∨ (300 + f).toNat = 25))) from fun h => absurd h.1 (by decide)))
        have n9 : σ14 91 0 = wM σ 100 := by rw [r0]; exact hFσ14 91 0 (show ¬ ((91 = 88 ∧ (0 = 19 ∨ 0 = 20 ∨ 0 = 21 ∨ 0 = 22 ∨ 0 = 23 ∨ 0 = 24 ∨ 0 = 25 ∨ 0 = 26 ∨ 0 = 27)) ∨ (91 = 89 ∧ 300 ≤ 0)) from by decide)
        refine j_aload_n (pc := 54) dX12_findPlan_54 rfl rfl ?_
        refine j_getI (pc := 55) fl_X12_274 dX12_findPlan_55 (a_88 hM) rfl ?_
        have f20 : (-2147483648 : Int) ≤ σ14 88 25 ∧ σ14 88 25 ≤ 2147483647 := hIσ14 88 25
        refine j_bipush (pc := 58) dX12_findPlan_58 rfl ?_
        refine j_icmpR_ne (pc := 60) (tgt := 73) ⟨by omega, by omega⟩ ⟨by omega, by omega⟩ dX12_findPlan_60 rfl (fun h21 => ?_) (fun h21 => ?_)
        · refine j_iconst (pc := 73) dX12_findPlan_73 ?_
          refine j_istore_n (pc := 74) (i := 3) (ls' := [(0, vR 88), (1, vI n), (2, vI s), (3, vI 0)]) [1, 2, 3, 0] dX12_findPlan_74 rfl (Nat.le_of_ble_eq_true rfl) rfl rfl ?_
          refine j_aload_n (pc := 75) dX12_findPlan_75 rfl rfl ?_
          refine j_getI (pc := 76) fl_X12_274 dX12_findPlan_76 (a_88 hM) rfl ?_
          refine j_bipush (pc := 79) dX12_findPlan_79 rfl ?_
          refine j_icmpR_ne (pc := 81) (tgt := 127) ⟨by omega, by omega⟩ ⟨by omega, by omega⟩ dX12_findPlan_81 rfl (fun h22 => ?_) (fun h22 => ?_)
          · refine j_iconst (pc := 127) dX12_findPlan_127 ?_
            refine j_istore (pc := 128) (i := 4) (ls' := [(0, vR 88), (1, vI n), (2, vI s), (3, vI 0), (4, vI 0)]) [1, 2, 3, 4, 0] dX12_findPlan_128 (Nat.le_of_ble_eq_true rfl) rfl rfl ?_
            refine j_aload_n (pc := 130) dX12_findPlan_130 rfl rfl ?_
            refine j_iload (pc := 131) dX12_findPlan_131 rfl ?_
            refine j_ifR_eq (pc := 133) (tgt := 140) ⟨by omega, by omega⟩ dX12_findPlan_133 rfl (fun h23 => ?_) (fun h23 => by exfalso; omega)
            refine j_aload_n (pc := 140) dX12_findPlan_140 rfl rfl ?_
            refine j_getI (pc := 141) fl_X12_292 dX12_findPlan_141 (a_88 hM) rfl ?_
            refine j_topV (show σ14 88 26 = τ 88 26 from ((hGσ14 88 26 (show ¬ ((88 = 88 ∧ (26 = 24 ∨ 26 = 25))) from by decide))).trans (hGσ4 88 26 (show ¬ ((88 = 89 ∧ 300 ≤ 26)) from by decide))) ?_
            have f24 : (-4 : Int) ≤ τ 88 26 ∧ τ 88 26 ≤ 1023 := hIτ 88 26
            refine j_putI (pc := 144) fl_X12_292 fp_X12_26 dX12_findPlan_144 (a_88 hM) rfl (j_nm (fun σ25 (eσ25 : σ25 = tw_up σ14 88 26 (τ 88 26)) => ?_))
            have hIσ25 : tw_I σ25 := tw_I_up hIσ14 eσ25 (show (-4 : Int) ≤ τ 88 26 ∧ τ 88 26 ≤ 1023 from ⟨by omega, by omega⟩)
            have hFσ25 : tw_F (fun c j => (c = 88 ∧ (j = 19 ∨ j = 20 ∨ j = 21 ∨ j = 22 ∨ j = 23 ∨ j = 24 ∨ j = 25 ∨ j = 26 ∨ j = 27)) ∨ (c = 89 ∧ 300 ≤ j)) σ σ25 := tw_F_up hFσ14 eσ25 (show (88 = 88 ∧ (26 = 19 ∨ 26 = 20 ∨ 26 = 21 ∨ 26 = 22 ∨ 26 = 23 ∨ 26 = 24 ∨ 26 = 25 ∨ 26 = 26 ∨ 26 = 27)) ∨ (88 = 89 ∧ 300 ≤ 26) from (Or.inl ⟨rfl, (Or.inr (Or.inr (Or.inr (Or.inr (Or.inr (Or.inr (Or.inr (Or.inl rfl))))))))⟩))
            refine j_aload_n (pc := 147) dX12_findPlan_147 rfl rfl ?_
            refine j_iload (pc := 148) dX12_findPlan_148 rfl ?_
            refine j_ifR_eq (pc := 150) (tgt := 157) ⟨by omega, by omega⟩ dX12_findPlan_150 rfl (fun h26 => ?_) (fun h26 => by exfalso; omega)
            refine j_aload_n (pc := 157) dX12_findPlan_157 rfl rfl ?_
            refine j_getI (pc := 158) fl_X12_295 dX12_findPlan_158 (a_88 hM) rfl ?_
            refine j_topV (show σ25 88 27 = τ 88 27 from (((tw_ne1 eσ25 (by (first | decide | omega)))).trans (hGσ14 88 27 (show ¬ ((88 = 88 ∧ (27 = 24 ∨ 27 = 25))) from by decide))).trans (hGσ4 88 27 (show ¬ ((88 = 89 ∧ 300 ≤ 27)) from by decide))) ?_
            have f27 : (-2147483648 : Int) ≤ τ 88 27 ∧ τ 88 27 ≤ 2147483647 := hIτ 88 27
            refine j_putI (pc := 161) fl_X12_295 fp_X12_27 dX12_findPlan_161 (a_88 hM) rfl (j_nm (fun σ28 (eσ28 : σ28 = tw_up σ25 88 27 (τ 88 27)) => ?_))
            have hIσ28 : tw_I σ28 := tw_I_up hIσ25 eσ28 (show (-2147483648 : Int) ≤ τ 88 27 ∧ τ 88 27 ≤ 2147483647 from ⟨by omega, by omega⟩)
            have hFσ28 : tw_F (fun c j => (c = 88 ∧ (j = 19 ∨ j = 20 ∨ j = 21 ∨ j = 22 ∨ j = 23 ∨ j = 24 ∨ j = 25 ∨ j = 26 ∨ j = 27)) ∨ (c = 89 ∧ 300 ≤ j)) σ σ28 := tw_F_up hFσ25 eσ28 (show (88 = 88 ∧ (27 = 19 ∨ 27 = 20 ∨ 27 = 21 ∨ 27 = 22 ∨ 27 = 23 ∨ 27 = 24 ∨ 27 = 25 ∨ 27 = 26 ∨ 27 = 27)) ∨ (88 = 89 ∧ 300 ≤ 27) from (Or.inl ⟨rfl, (Or.inr (Or.inr (Or.inr (Or.inr (Or.inr (Or.inr (Or.inr (Or.inr rfl))))))))⟩))
            refine j_iinc (pc := 164) (i := 2) (n := 1) (ls' := [(0, vR 88), (1, vI n), (2, vI (s + 1))]) [1, 2, 0] dX12_findPlan_164 rfl (Nat.le_of_ble_eq_true rfl) rfl rfl ?_
            refine j_goto (pc := 167) (tgt := 32) dX12_findPlan_167 rfl ?_
            refine j_ls (ls' := [(0, vR 88), (1, vI n), (2, vI (s + 1))]) [0, 1, 2] rfl ?_
            have y29 : σ28 88 26 = τ 88 26 := ((tw_ne1 eσ28 (by (first | decide | omega)))).trans (tw_eq1 eσ25)
            have y30 : σ28 88 26 = τ 88 26 := ((tw_ne1 eσ28 (by (first | decide | omega)))).trans (tw_eq1 eσ25)
            have y31 : σ28 88 27 = τ 88 27 := (tw_eq1 eσ28)
            exact ih n ⟨by omega, by omega⟩ (s + 1) ⟨by omega, by omega⟩ σ28 hIσ28 hFσ28 (show n = mK σ from i0) (show PS σ (σ28 88 26) (s + 1) from (by first | exact PS_old i1 (by assumption) | exact PS_old i1 rfl | exact PS_new (by omega) g9 (by assumption))) (show (s + 1) ≤ p2 n from (by omega)) (show ∀ rk : Nat → Int, MOK rk σ → WOK (wM σ) → BMS (wM σ) rk (s + 1) (σ28 88 26) (σ28 88 27) from (fun rk M hW => by
                                                              have B := i3 rk M hW
                                                              have Y := ly rk (MOK_F M (fun j hj => hFτ 89 j (show ¬ ((89 = 88 ∧ (j = 19 ∨ j = 20 ∨ j = 21 ∨ j = 22 ∨ j = 23 ∨ j = 24 ∨ j = 25 ∨ j = 26 ∨ j = 27)) ∨ (89 = 89 ∧ 300 ≤ j)) from by omega)) (hFτ 91 0 (show ¬ ((91 = 88 ∧ (0 = 19 ∨ 0 = 20 ∨ 0 = 21 ∨ 0 = 22 ∨ 0 = 23 ∨ 0 = 24 ∨ 0 = 25 ∨ 0 = 26 ∨ 0 = 27)) ∨ (91 = 89 ∧ 300 ≤ 0)) from by decide)))
                                                              first
                                                              | (rw [show σ28 88 26 = _ from ((tw_ne1 eσ28 (by (first | decide | omega)))).trans (tw_eq1 eσ25), show σ28 88 27 = _ from (tw_eq1 eσ28)]; exact BM_no0 B Y (by omega))
                                                              | (rw [show σ28 88 26 = _ from ((tw_ne1 eσ28 (by (first | decide | omega)))).trans (tw_eq1 eσ25), show σ28 88 27 = _ from (tw_eq1 eσ28)]; exact BM_s hW B Y (by omega) ⟨by omega, by omega⟩ te (fun _ => xe) (by omega))
                                                              | (rw [show σ28 88 26 = _ from ((tw_ne1 eσ28 (by (first | decide | omega)))).trans (tw_eq1 eσ25), show σ28 88 27 = _ from (tw_eq1 eσ28)]; exact BM_s (x := 0) hW B Y (by omega) ⟨by omega, by omega⟩ te (fun z => by exfalso; omega) (by omega)))) (show (1024 - (s + 1)).toNat < N_ from by omega)
          · refine j_aload_n (pc := 84) dX12_findPlan_84 rfl rfl ?_
            refine j_getI (pc := 85) fl_X12_292 dX12_findPlan_85 (a_88 hM) rfl ?_
            refine j_topV (show σ14 88 26 = τ 88 26 from ((hGσ14 88 26 (show ¬ ((88 = 88 ∧ (26 = 24 ∨ 26 = 25))) from by decide))).trans (hGσ4 88 26 (show ¬ ((88 = 89 ∧ 300 ≤ 26)) from by decide))) ?_
            have f32 : (-4 : Int) ≤ τ 88 26 ∧ τ 88 26 ≤ 1023 := hIτ 88 26
            refine j_bipush (pc := 88) dX12_findPlan_88 rfl ?_
            refine j_icmpR_eq (pc := 90) (tgt := 123) ⟨by omega, by omega⟩ ⟨by omega, by omega⟩ dX12_findPlan_90 rfl (fun h33 => ?_) (fun h33 => ?_)
            · refine j_iconst (pc := 123) dX12_findPlan_123 ?_
              refine j_goto (pc := 124) (tgt := 128) dX12_findPlan_124 rfl ?_
              refine j_istore (pc := 128) (i := 4) (ls' := [(0, vR 88), (1, vI n), (2, vI s), (3, vI 0), (4, vI 1)]) [1, 2, 3, 4, 0] dX12_findPlan_128 (Nat.le_of_ble_eq_true rfl) rfl rfl ?_
              refine j_aload_n (pc := 130) dX12_findPlan_130 rfl rfl ?_
              refine j_iload (pc := 131) dX12_findPlan_131 rfl ?_
              refine j_ifR_eq (pc := 133) (tgt := 140) ⟨by omega, by omega⟩ dX12_findPlan_133 rfl (fun h34 => by exfalso; omega) (fun h34 => ?_)
              refine j_iload_n (pc := 136) dX12_findPlan_136 rfl rfl ?_
              refine j_goto (pc := 137) (tgt := 144) dX12_findPlan_137 rfl ?_
              refine j_putI (pc := 144) fl_X12_292 fp_X12_26 dX12_findPlan_144 (a_88 hM) rfl (j_nm (fun σ35 (eσ35 : σ35 = tw_up σ14 88 26 s) => ?_))
              have hIσ35 : tw_I σ35 := tw_I_up hIσ14 eσ35 (show (-4 : Int) ≤ s ∧ s ≤ 1023 from ⟨by omega, by omega⟩)
              have hFσ35 : tw_F (fun c j => (c = 88 ∧ (j = 19 ∨ j = 20 ∨ j = 21 ∨ j = 22 ∨ j = 23 ∨ j = 24 ∨ j = 25 ∨ j = 26 ∨ j = 27)) ∨ (c = 89 ∧ 300 ≤ j)) σ σ35 := tw_F_up hFσ14 eσ35 (show (88 = 88 ∧ (26 = 19 ∨ 26 = 20 ∨ 26 = 21 ∨ 26 = 22 ∨ 26 = 23 ∨ 26 = 24 ∨ 26 = 25 ∨ 26 = 26 ∨ 26 = 27)) ∨ (88 = 89 ∧ 300 ≤ 26) from (Or.inl ⟨rfl, (Or.inr (Or.inr (Or.inr (Or.inr (Or.inr (Or.inr (Or.inr (Or.inl rfl))))))))⟩))
              refine j_aload_n (pc := 147) dX12_findPlan_147 rfl rfl ?_
              refine j_iload (pc := 148) dX12_findPlan_148 rfl ?_
              refine j_ifR_eq (pc := 150) (tgt := 157) ⟨by omega, by omega⟩ dX12_findPlan_150 rfl (fun h36 => by exfalso; omega) (fun h36 => ?_)
              refine j_iload_n (pc := 153) dX12_findPlan_153 rfl rfl ?_
              refine j_goto (pc := 154) (tgt := 161) dX12_findPlan_154 rfl ?_
              refine j_putI (pc := 161) fl_X12_295 fp_X12_27 dX12_findPlan_161 (a_88 hM) rfl (j_nm (fun σ37 (eσ37 : σ37 = tw_up σ35 88 27 0) => ?_))
              have hIσ37 : tw_I σ37 := tw_I_up hIσ35 eσ37 (show (-2147483648 : Int) ≤ 0 ∧ 0 ≤ 2147483647 from by decide)
              have hFσ37 : tw_F (fun c j => (c = 88 ∧ (j = 19 ∨ j = 20 ∨ j = 21 ∨ j = 22 ∨ j = 23 ∨ j = 24 ∨ j = 25 ∨ j = 26 ∨ j = 27)) ∨ (c = 89 ∧ 300 ≤ j)) σ σ37 := tw_F_up hFσ35 eσ37 (show (88 = 88 ∧ (27 = 19 ∨ 27 = 20 ∨ 27 = 21 ∨ 27 = 22 ∨ 27 = 23 ∨ 27 = 24 ∨ 27 = 25 ∨ 27 = 26 ∨ 27 = 27)) ∨ (88 = 89 ∧ 300 ≤ 27) from (Or.inl ⟨rfl, (Or.inr (Or.inr (Or.inr (Or.inr (Or.inr (Or.inr (Or.inr (Or.inr rfl))))))))⟩))
              refine j_iinc (pc := 164) (i := 2) (n := 1) (ls' := [(0, vR 88), (1, vI n), (2, vI (s + 1))]) [1, 2, 0] dX12_findPlan_164 rfl (Nat.le_of_ble_eq_true rfl) rfl rfl ?_
              refine j_goto (pc := 167) (tgt := 32) dX12_findPlan_167 rfl ?_
              refine j_ls (ls' := [(0, vR 88), (1, vI n), (2, vI (s + 1))]) [0, 1, 2] rfl ?_
              have y38 : σ37 88 26 = s := ((tw_ne1 eσ37 (by (first | decide | omega)))).trans (tw_eq1 eσ35)
              have y39 : σ37 88 26 = s := ((tw_ne1 eσ37 (by (first | decide | omega)))).trans (tw_eq1 eσ35)
              have y40 : σ37 88 27 = 0 := (tw_eq1 eσ37)
              exact ih n ⟨by omega, by omega⟩ (s + 1) ⟨by omega, by omega⟩ σ37 hIσ37 hFσ37 (show n = mK σ from i0) (show PS σ (σ37 88 26) (s + 1) from (by first | exact PS_old i1 (by assumption) | exact PS_old i1 rfl | exact PS_new (by omega) g9 (by assumption))) (show (s + 1) ≤ p2 n from (by omega)) (show ∀ rk : Nat → Int, MOK rk σ → WOK (wM σ) → BMS (wM σ) rk (s + 1) (σ37 88 26) (σ37 88 27) from (fun rk M hW => by
                                                              have B := i3 rk M hW
                                                              have Y := ly rk (MOK_F M (fun j hj => hFτ 89 j (show ¬ ((89 = 88 ∧ (j = 19 ∨ j = 20 ∨ j = 21 ∨ j = 22 ∨ j = 23 ∨ j = 24 ∨ j = 25 ∨ j = 26 ∨ j = 27)) ∨ (89 = 89 ∧ 300 ≤ j)) from by omega)) (hFτ 91 0 (show ¬ ((91 = 88 ∧ (0 = 19 ∨ 0 = 20 ∨ 0 = 21 ∨ 0 = 22 ∨ 0 = 23 ∨ 0 = 24 ∨ 0 = 25 ∨ 0 = 26 ∨ 0 = 27)) ∨ (91 = 89 ∧ 300 ≤ 0)) from by decide)))
                                                              first
                                                              | (rw [show σ37 88 26 = _ from ((tw_ne1 eσ37 (by (first | decide | omega)))).trans (tw_eq1 eσ35), show σ37 88 27 = _ from (tw_eq1 eσ37)]; exact BM_no0 B Y (by omega))
                                                              | (rw [show σ37 88 26 = _ from ((tw_ne1 eσ37 (by (first | decide | omega)))).trans (tw_eq1 eσ35), show σ37 88 27 = _ from (tw_eq1 eσ37)]; exact BM_s hW B Y (by omega) ⟨by omega, by omega⟩ te (fun _ => xe) (by omega))
                                                              | (rw [show σ37 88 26 = _ from ((tw_ne1 eσ37 (by (first | decide | omega)))).trans (tw_eq1 eσ35), show σ37 88 27 = _ from (tw_eq1 eσ37)]; exact BM_s (x := 0) hW B Y (by omega) ⟨by omega, by omega⟩ te (fun z => by exfalso; omega) (by omega)))) (show (1024 - (s + 1)).toNat < N_ from by omega)
            · refine j_iload_n (pc := 93) dX12_findPlan_93 rfl rfl ?_
              refine j_aload_n (pc := 94) dX12_findPlan_94 rfl rfl ?_
              refine j_getI (pc := 95) fl_X12_295 dX12_findPlan_95 (a_88 hM) rfl ?_
              refine j_topV (show σ14 88 27 = τ 88 27 from ((hGσ14 88 27 (show ¬ ((88 = 88 ∧ (27 = 24 ∨ 27 = 25))) from by decide))).trans (hGσ4 88 27 (show ¬ ((88 = 89 ∧ 300 ≤ 27)) from by decide))) ?_
              have f41 : (-2147483648 : Int) ≤ τ 88 27 ∧ τ 88 27 ≤ 2147483647 := hIτ 88 27
              refine j_icmpR_lt (pc := 98) (tgt := 123) ⟨by omega, by omega⟩ ⟨by omega, by omega⟩ dX12_findPlan_98 rfl (fun h42 => ?_) (fun h42 => ?_)
              · refine j_iconst (pc := 123) dX12_findPlan_123 ?_
                refine j_goto (pc := 124) (tgt := 128) dX12_findPlan_124 rfl ?_
                refine j_istore (pc := 128) (i := 4) (ls' := [(0, vR 88), (1, vI n), (2, vI s), (3, vI 0), (4, vI 1)]) [1, 2, 3, 4, 0] dX12_findPlan_128 (Nat.le_of_ble_eq_true rfl) rfl rfl ?_
                refine j_aload_n (pc := 130) dX12_findPlan_130 rfl rfl ?_
                refine j_iload (pc := 131) dX12_findPlan_131 rfl ?_
                refine j_ifR_eq (pc := 133) (tgt := 140) ⟨by omega, by omega⟩ dX12_findPlan_133 rfl (fun h43 => by exfalso; omega) (fun h43 => ?_)
                refine j_iload_n (pc := 136) dX12_findPlan_136 rfl rfl ?_
                refine j_goto (pc := 137) (tgt := 144) dX12_findPlan_137 rfl ?_
                refine j_putI (pc := 144) fl_X12_292 fp_X12_26 dX12_findPlan_144 (a_88 hM) rfl (j_nm (fun σ44 (eσ44 : σ44 = tw_up σ14 88 26 s) => ?_))
                have hIσ44 : tw_I σ44 := tw_I_up hIσ14 eσ44 (show (-4 : Int) ≤ s ∧ s ≤ 1023 from ⟨by omega, by omega⟩)
                have hFσ44 : tw_F (fun c j => (c = 88 ∧ (j = 19 ∨ j = 20 ∨ j = 21 ∨ j = 22 ∨ j = 23 ∨ j = 24 ∨ j = 25 ∨ j = 26 ∨ j = 27)) ∨ (c = 89 ∧ 300 ≤ j)) σ σ44 := tw_F_up hFσ14 eσ44 (show (88 = 88 ∧ (26 = 19 ∨ 26 = 20 ∨ 26 = 21 ∨ 26 = 22 ∨ 26 = 23 ∨ 26 = 24 ∨ 26 = 25 ∨ 26 = 26 ∨ 26 = 27)) ∨ (88 = 89 ∧ 300 ≤ 26) from (Or.inl ⟨rfl, (Or.inr (Or.inr (Or.inr (Or.inr (Or.inr (Or.inr (Or.inr (Or.inl rfl))))))))⟩))
                refine j_aload_n (pc := 147) dX12_findPlan_147 rfl rfl ?_
                refine j_iload (pc := 148) dX12_findPlan_148 rfl ?_
                refine j_ifR_eq (pc := 150) (tgt := 157) ⟨by omega, by omega⟩ dX12_findPlan_150 rfl (fun h45 => by exfalso; omega) (fun h45 => ?_)
                refine j_iload_n (pc := 153) dX12_findPlan_153 rfl rfl ?_
                refine j_goto (pc := 154) (tgt := 161) dX12_findPlan_154 rfl ?_
                refine j_putI (pc := 161) fl_X12_295 fp_X12_27 dX12_findPlan_161 (a_88 hM) rfl (j_nm (fun σ46 (eσ46 : σ46 = tw_up σ44 88 27 0) => ?_))
                have hIσ46 : tw_I σ46 := tw_I_up hIσ44 eσ46 (show (-2147483648 : Int) ≤ 0 ∧ 0 ≤ 2147483647 from by decide)
                have hFσ46 : tw_F (fun c j => (c = 88 ∧ (j = 19 ∨ j = 20 ∨ j = 21 ∨ j = 22 ∨ j = 23 ∨ j = 24 ∨ j = 25 ∨ j = 26 ∨ j = 27)) ∨ (c = 89 ∧ 300 ≤ j)) σ σ46 := tw_F_up hFσ44 eσ46 (show (88 = 88 ∧ (27 = 19 ∨ 27 = 20 ∨ 27 = 21 ∨ 27 = 22 ∨ 27 = 23 ∨ 27 = 24 ∨ 27 = 25 ∨ 27 = 26 ∨ 27 = 27)) ∨ (88 = 89 ∧ 300 ≤ 27) from (Or.inl ⟨rfl, (Or.inr (Or.inr (Or.inr (Or.inr (Or.inr (Or.inr (Or.inr (Or.inr rfl))))))))⟩))
                refine j_iinc (pc := 164) (i := 2) (n := 1) (ls' := [(0, vR 88), (1, vI n), (2, vI (s + 1))]) [1, 2, 0] dX12_findPlan_164 rfl (Nat.le_of_ble_eq_true rfl) rfl rfl ?_
                refine j_goto (pc := 167) (tgt := 32) dX12_findPlan_167 rfl ?_
                refine j_ls (ls' := [(0, vR 88), (1, vI n), (2, vI (s + 1))]) [0, 1, 2] rfl ?_
                have y47 : σ46 88 26 = s := ((tw_ne1 eσ46 (by (first | decide | omega)))).trans (tw_eq1 eσ44)
                have y48 : σ46 88 26 = s := ((tw_ne1 eσ46 (by (first | decide | omega)))).trans (tw_eq1 eσ44)
                have y49 : σ46 88 27 = 0 := (tw_eq1 eσ46)
                exact ih n ⟨by omega, by omega⟩ (s + 1) ⟨by omega, by omega⟩ σ46 hIσ46 hFσ46 (show n = mK σ from i0) (show PS σ (σ46 88 26) (s + 1) from (by first | exact PS_old i1 (by assumption) | exact PS_old i1 rfl | exact PS_new (by omega) g9 (by assumption))) (show (s + 1) ≤ p2 n from (by omega)) (show ∀ rk : Nat → Int, MOK rk σ → WOK (wM σ) → BMS (wM σ) rk (s + 1) (σ46 88 26) (σ46 88 27) from (fun rk M hW => by
                                                              have B := i3 rk M hW
                                                              have Y := ly rk (MOK_F M (fun j hj => hFτ 89 j (show ¬ ((89 = 88 ∧ (j = 19 ∨ j = 20 ∨ j = 21 ∨ j = 22 ∨ j = 23 ∨ j = 24 ∨ j = 25 ∨ j = 26 ∨ j = 27)) ∨ (89 = 89 ∧ 300 ≤ j)) from by omega)) (hFτ 91 0 (show ¬ ((91 = 88 ∧ (0 = 19 ∨ 0 = 20 ∨ 0 = 21 ∨ 0 = 22 ∨ 0 = 23 ∨ 0 = 24 ∨ 0 = 25 ∨ 0 = 26 ∨ 0 = 27)) ∨ (91 = 89 ∧ 300 ≤ 0)) from by decide)))
                                                              first
                                                              | (rw [show σ46 88 26 = _ from ((tw_ne1 eσ46 (by (first | decide | omega)))).trans (tw_eq1 eσ44), show σ46 88 27 = _ from (tw_eq1 eσ46)]; exact BM_no0 B Y (by omega))
                                                              | (rw [show σ46 88 26 = _ from ((tw_ne1 eσ46 (by (first | decide | omega)))).trans (tw_eq1 eσ44), show σ46 88 27 = _ from (tw_eq1 eσ46)]; exact BM_s hW B Y (by omega) ⟨by omega, by omega⟩ te (fun _ => xe) (by omega))
                                                              | (rw [show σ46 88 26 = _ from ((tw_ne1 eσ46 (by (first | decide | omega)))).trans (tw_eq1 eσ44), show σ46 88 27 = _ from (tw_eq1 eσ46)]; exact BM_s (x := 0) hW B Y (by omega) ⟨by omega, by omega⟩ te (fun z => by exfalso; omega) (by omega)))) (show (1024 - (s + 1)).toNat < N_ from by omega)
              · refine j_iload_n (pc := 101) dX12_findPlan_101 rfl rfl ?_
                refine j_aload_n (pc := 102) dX12_findPlan_102 rfl rfl ?_
                refine j_getI (pc := 103) fl_X12_295 dX12_findPlan_103 (a_88 hM) rfl ?_
                refine j_topV (show σ14 88 27 = τ 88 27 from ((hGσ14 88 27 (show ¬ ((88 = 88 ∧ (27 = 24 ∨ 27 = 25))) from by decide))).trans (hGσ4 88 27 (show ¬ ((88 = 89 ∧ 300 ≤ 27)) from by decide))) ?_
                refine j_icmpR_ne (pc := 106) (tgt := 127) ⟨by omega, by omega⟩ ⟨by omega, by omega⟩ dX12_findPlan_106 rfl (fun h50 => ?_) (fun h50 => ?_)
                · refine j_iconst (pc := 127) dX12_findPlan_127 ?_
                  refine j_istore (pc := 128) (i := 4) (ls' := [(0, vR 88), (1, vI n), (2, vI s), (3, vI 0), (4, vI 0)]) [1, 2, 3, 4, 0] dX12_findPlan_128 (Nat.le_of_ble_eq_true rfl) rfl rfl ?_
                  refine j_aload_n (pc := 130) dX12_findPlan_130 rfl rfl ?_
                  refine j_iload (pc := 131) dX12_findPlan_131 rfl ?_
                  refine j_ifR_eq (pc := 133) (tgt := 140) ⟨by omega, by omega⟩ dX12_findPlan_133 rfl (fun h51 => ?_) (fun h51 => by exfalso; omega)
                  refine j_aload_n (pc := 140) dX12_findPlan_140 rfl rfl ?_
                  refine j_getI (pc := 141) fl_X12_292 dX12_findPlan_141 (a_88 hM) rfl ?_
                  refine j_topV (show σ14 88 26 = τ 88 26 from ((hGσ14 88 26 (show ¬ ((88 = 88 ∧ (26 = 24 ∨ 26 = 25))) from by decide))).trans (hGσ4 88 26 (show ¬ ((88 = 89 ∧ 300 ≤ 26)) from by decide))) ?_
                  refine j_putI (pc := 144) fl_X12_292 fp_X12_26 dX12_findPlan_144 (a_88 hM) rfl (j_nm (fun σ52 (eσ52 : σ52 = tw_up σ14 88 26 (τ 88 26)) => ?_))
                  have hIσ52 : tw_I σ52 := tw_I_up hIσ14 eσ52 (show (-4 : Int) ≤ τ 88 26 ∧ τ 88 26 ≤ 1023 from ⟨by omega, by omega⟩)
                  have hFσ52 : tw_F (fun c j => (c = 88 ∧ (j = 19 ∨ j = 20 ∨ j = 21 ∨ j = 22 ∨ j = 23 ∨ j = 24 ∨ j = 25 ∨ j = 26 ∨ j = 27)) ∨ (c = 89 ∧ 300 ≤ j)) σ σ52 := tw_F_up hFσ14 eσ52 (show (88 = 88 ∧ (26 = 19 ∨ 26 = 20 ∨ 26 = 21 ∨ 26 = 22 ∨ 26 = 23 ∨ 26 = 24 ∨ 26 = 25 ∨ 26 = 26 ∨ 26 = 27)) ∨ (88 = 89 ∧ 300 ≤ 26) from (Or.inl ⟨rfl, (Or.inr (Or.inr (Or.inr (Or.inr (Or.inr (Or.inr (Or.inr (Or.inl rfl))))))))⟩))
                  refine j_aload_n (pc := 147) dX12_findPlan_147 rfl rfl ?_
                  refine j_iload (pc := 148) dX12_findPlan_148 rfl ?_
                  refine j_ifR_eq (pc := 150) (tgt := 157) ⟨by omega, by omega⟩ dX12_findPlan_150 rfl (fun h53 => ?_) (fun h53 => by exfalso; omega)
                  refine j_aload_n (pc := 157) dX12_findPlan_157 rfl rfl ?_
                  refine j_getI (pc := 158) fl_X12_295 dX12_findPlan_158 (a_88 hM) rfl ?_
                  refine j_topV (show σ52 88 27 = τ 88 27 from (((tw_ne1 eσ52 (by (first | decide | omega)))).trans (hGσ14 88 27 (show ¬ ((88 = 88 ∧ (27 = 24 ∨ 27 = 25))) from by decide))).trans (hGσ4 88 27 (show ¬ ((88 = 89 ∧ 300 ≤ 27)) from by decide))) ?_
                  refine j_putI (pc := 161) fl_X12_295 fp_X12_27 dX12_findPlan_161 (a_88 hM) rfl (j_nm (fun σ54 (eσ54 : σ54 = tw_up σ52 88 27 (τ 88 27)) => ?_))
                  have hIσ54 : tw_I σ54 := tw_I_up hIσ52 eσ54 (show (-2147483648 : Int) ≤ τ 88 27 ∧ τ 88 27 ≤ 2147483647 from ⟨by omega, by omega⟩)
                  have hFσ54 : tw_F (fun c j => (c = 88 ∧ (j = 19 ∨ j = 20 ∨ j = 21 ∨ j = 22 ∨ j = 23 ∨ j = 24 ∨ j = 25 ∨ j = 26 ∨ j = 27)) ∨ (c = 89 ∧ 300 ≤ j)) σ σ54 := tw_F_up hFσ52 eσ54 (show (88 = 88 ∧ (27 = 19 ∨ 27 = 20 ∨ 27 = 21 ∨ 27 = 22 ∨ 27 = 23 ∨ 27 = 24 ∨ 27 = 25 ∨ 27 = 26 ∨ 27 = 27)) ∨ (88 = 89 ∧ 300 ≤ 27) from (Or.inl ⟨rfl, (Or.inr (Or.inr (Or.inr (Or.inr (Or.inr (Or.inr (Or.inr (Or.inr rfl))))))))⟩))
                  refine j_iinc (pc := 164) (i := 2) (n := 1) (ls' := [(0, vR 88), (1, vI n), (2, vI (s + 1))]) [1, 2, 0] dX12_findPlan_164 rfl (Nat.le_of_ble_eq_true rfl) rfl rfl ?_
                  refine j_goto (pc := 167) (tgt := 32) dX12_findPlan_167 rfl ?_
                  refine j_ls (ls' := [(0, vR 88), (1, vI n), (2, vI (s + 1))]) [0, 1, 2] rfl ?_
                  have y55 : σ54 88 26 = τ 88 26 := ((tw_ne1 eσ54 (by (first | decide | omega)))).trans (tw_eq1 eσ52)
                  have y56 : σ54 88 26 = τ 88 26 := ((tw_ne1 eσ54 (by (first | decide | omega)))).trans (tw_eq1 eσ52)
                  have y57 : σ54 88 27 = τ 88 27 := (tw_eq1 eσ54)
                  exact ih n ⟨by omega, by omega⟩ (s + 1) ⟨by omega, by omega⟩ σ54 hIσ54 hFσ54 (show n = mK σ from i0) (show PS σ (σ54 88 26) (s + 1) from (by first | exact PS_old i1 (by assumption) | exact PS_old i1 rfl | exact PS_new (by omega) g9 (by assumption))) (show (s + 1) ≤ p2 n from (by omega)) (show ∀ rk : Nat → Int, MOK rk σ → WOK (wM σ) → BMS (wM σ) rk (s + 1) (σ54 88 26) (σ54 88 27) from (fun rk M hW => by
                                                              have B := i3 rk M hW
                                                              have Y := ly rk (MOK_F M (fun j hj => hFτ 89 j (show ¬ ((89 = 88 ∧ (j = 19 ∨ j = 20 ∨ j = 21 ∨ j = 22 ∨ j = 23 ∨ j = 24 ∨ j = 25 ∨ j = 26 ∨ j = 27)) ∨ (89 = 89 ∧ 300 ≤ j)) from by omega)) (hFτ 91 0 (show ¬ ((91 = 88 ∧ (0 = 19 ∨ 0 = 20 ∨ 0 = 21 ∨ 0 = 22 ∨ 0 = 23 ∨ 0 = 24 ∨ 0 = 25 ∨ 0 = 26 ∨ 0 = 27)) ∨ (91 = 89 ∧ 300 ≤ 0)) from by decide)))
                                                              first
                                                              | (rw [show σ54 88 26 = _ from ((tw_ne1 eσ54 (by (first | decide | omega)))).trans (tw_eq1 eσ52), show σ54 88 27 = _ from (tw_eq1 eσ54)]; exact BM_no0 B Y (by omega))
                                                              | (rw [show σ54 88 26 = _ from ((tw_ne1 eσ54 (by (first | decide | omega)))).trans (tw_eq1 eσ52), show σ54 88 27 = _ from (tw_eq1 eσ54)]; exact BM_s hW B Y (by omega) ⟨by omega, by omega⟩ te (fun _ => xe) (by omega))
                                                              | (rw [show σ54 88 26 = _ from ((tw_ne1 eσ54 (by (first | decide | omega)))).trans (tw_eq1 eσ52), show σ54 88 27 = _ from (tw_eq1 eσ54)]; exact BM_s (x := 0) hW B Y (by omega) ⟨by omega, by omega⟩ te (fun z => by exfalso; omega) (by omega)))) (show (1024 - (s + 1)).toNat < N_ from by omega)
                · refine j_iload_n (pc := 109) dX12_findPlan_109 rfl rfl ?_
                  refine j_callS (pc := 110) (As := [vI s]) (st := []) (c_X12_countOf s ⟨by omega, by omega⟩ σ14 hIσ14) ms_X12_304 rfl dX12_findPlan_110 ⟨Nat.le_of_ble_eq_true rfl, Nat.le_of_ble_eq_true rfl⟩ ⟨Nat.le_refl _, Nat.le_refl _⟩ rfl (Nat.le_of_ble_eq_true rfl) rfl (fun z58 σ59 hz58 => ?_)
                  obtain ⟨r61, rfl, hr61, rfl, q60_0⟩ := hz58
                  replace q60_0 : r61 = mPop s 12 := q60_0
                  refine j_st (st' := [vI r61]) rfl ?_
                  refine j_aload_n (pc := 113) dX12_findPlan_113 rfl rfl ?_
                  refine j_getI (pc := 114) fl_X12_292 dX12_findPlan_114 (a_88 hM) rfl ?_
                  refine j_topV (show σ14 88 26 = τ 88 26 from ((hGσ14 88 26 (show ¬ ((88 = 88 ∧ (26 = 24 ∨ 26 = 25))) from by decide))).trans (hGσ4 88 26 (show ¬ ((88 = 89 ∧ 300 ≤ 26)) from by decide))) ?_
                  refine j_callS (pc := 117) (As := [vI (τ 88 26)]) (st := [vI r61]) (c_X12_countOf (τ 88 26) ⟨by omega, by omega⟩ σ14 hIσ14) ms_X12_304 rfl dX12_findPlan_117 ⟨Nat.le_of_ble_eq_true rfl, Nat.le_of_ble_eq_true rfl⟩ ⟨Nat.le_refl _, Nat.le_refl _⟩ rfl (Nat.le_of_ble_eq_true rfl) rfl (fun z62 σ63 hz62 => ?_)
                  obtain ⟨r65, rfl, hr65, rfl, q64_0⟩ := hz62
                  replace q64_0 : r65 = mPop (τ 88 26) 12 := q64_0
                  refine j_st (st' := [vI r65, vI r61]) rfl ?_
                  refine j_icmpR_ge (pc := 120) (tgt := 127) ⟨by omega, by omega⟩ ⟨by omega, by omega⟩ dX12_findPlan_120 rfl (fun h66 => ?_) (fun h66 => ?_)
                  · refine j_iconst (pc := 127) dX12_findPlan_127 ?_
                    refine j_istore (pc := 128) (i := 4) (ls' := [(0, vR 88), (1, vI n), (2, vI s), (3, vI 0), (4, vI 0)]) [1, 2, 3, 4, 0] dX12_findPlan_128 (Nat.le_of_ble_eq_true rfl) rfl rfl ?_
                    refine j_aload_n (pc := 130) dX12_findPlan_130 rfl rfl ?_
                    refine j_iload (pc := 131) dX12_findPlan_131 rfl ?_
                    refine j_ifR_eq (pc := 133) (tgt := 140) ⟨by omega, by omega⟩ dX12_findPlan_133 rfl (fun h67 => ?_) (fun h67 => by exfalso; omega)
                    refine j_aload_n (pc := 140) dX12_findPlan_140 rfl rfl ?_
                    refine j_getI (pc := 141) fl_X12_292 dX12_findPlan_141 (a_88 hM) rfl ?_
                    refine j_topV (show σ14 88 26 = τ 88 26 from ((hGσ14 88 26 (show ¬ ((88 = 88 ∧ (26 = 24 ∨ 26 = 25))) from by decide))).trans (hGσ4 88 26 (show ¬ ((88 = 89 ∧ 300 ≤ 26)) from by decide))) ?_
                    refine j_putI (pc := 144) fl_X12_292 fp_X12_26 dX12_findPlan_144 (a_88 hM) rfl (j_nm (fun σ68 (eσ68 : σ68 = tw_up σ14 88 26 (τ 88 26)) => ?_))
                    have hIσ68 : tw_I σ68 := tw_I_up hIσ14 eσ68 (show (-4 : Int) ≤ τ 88 26 ∧ τ 88 26 ≤ 1023 from ⟨by omega, by omega⟩)
                    have hFσ68 : tw_F (fun c j => (c = 88 ∧ (j = 19 ∨ j = 20 ∨ j = 21 ∨ j = 22 ∨ j = 23 ∨ j = 24 ∨ j = 25 ∨ j = 26 ∨ j = 27)) ∨ (c = 89 ∧ 300 ≤ j)) σ σ68 := tw_F_up hFσ14 eσ68 (show (88 = 88 ∧ (26 = 19 ∨ 26 = 20 ∨ 26 = 21 ∨ 26 = 22 ∨ 26 = 23 ∨ 26 = 24 ∨ 26 = 25 ∨ 26 = 26 ∨ 26 = 27)) ∨ (88 = 89 ∧ 300 ≤ 26) from (Or.inl ⟨rfl, (Or.inr (Or.inr (Or.inr (Or.inr (Or.inr (Or.inr (Or.inr (Or.inl rfl))))))))⟩))
                    refine j_aload_n (pc := 147) dX12_findPlan_147 rfl rfl ?_
                    refine j_iload (pc := 148) dX12_findPlan_148 rfl ?_
                    refine j_ifR_eq (pc := 150) (tgt := 157) ⟨by omega, by omega⟩ dX12_findPlan_150 rfl (fun h69 => ?_) (fun h69 => by exfalso; omega)
                    refine j_aload_n (pc := 157) dX12_findPlan_157 rfl rfl ?_
                    refine j_getI (pc := 158) fl_X12_295 dX12_findPlan_158 (a_88 hM) rfl ?_
                    refine j_topV (show σ68 88 27 = τ 88 27 from (((tw_ne1 eσ68 (by (first | decide | omega)))).trans (hGσ14 88 27 (show ¬ ((88 = 88 ∧ (27 = 24 ∨ 27 = 25))) from by decide))).trans (hGσ4 88 27 (show ¬ ((88 = 89 ∧ 300 ≤ 27)) from by decide))) ?_
                    refine j_putI (pc := 161) fl_X12_295 fp_X12_27 dX12_findPlan_161 (a_88 hM) rfl (j_nm (fun σ70 (eσ70 : σ70 = tw_up σ68 88 27 (τ 88 27)) => ?_))
                    have hIσ70 : tw_I σ70 := tw_I_up hIσ68 eσ70 (show (-2147483648 : Int) ≤ τ 88 27 ∧ τ 88 27 ≤ 2147483647 from ⟨by omega, by omega⟩)
                    have hFσ70 : tw_F (fun c j => (c = 88 ∧ (j = 19 ∨ j = 20 ∨ j = 21 ∨ j = 22 ∨ j = 23 ∨ j = 24 ∨ j = 25 ∨ j = 26 ∨ j = 27)) ∨ (c = 89 ∧ 300 ≤ j)) σ σ70 := tw_F_up hFσ68 eσ70 (show (88 = 88 ∧ (27 = 19 ∨ 27 = 20 ∨ 27 = 21 ∨ 27 = 22 ∨ 27 = 23 ∨ 27 = 24 ∨ 27 = 25 ∨ 27 = 26 ∨ 27 = 27)) ∨ (88 = 89 ∧ 300 ≤ 27) from (Or.inl ⟨rfl, (Or.inr (Or.inr (Or.inr (Or.inr (Or.inr (Or.inr (Or.inr (Or.inr rfl))))))))⟩))
                    refine j_iinc (pc := 164) (i := 2) (n := 1) (ls' := [(0, vR 88), (1, vI n), (2, vI (s + 1))]) [1, 2, 0] dX12_findPlan_164 rfl (Nat.le_of_ble_eq_true rfl) rfl rfl ?_
                    refine j_goto (pc := 167) (tgt := 32) dX12_findPlan_167 rfl ?_
                    refine j_ls (ls' := [(0, vR 88), (1, vI n), (2, vI (s + 1))]) [0, 1, 2] rfl ?_
                    have y71 : σ70 88 26 = τ 88 26 := ((tw_ne1 eσ70 (by (first | decide | omega)))).trans (tw_eq1 eσ68)
                    have y72 : σ70 88 26 = τ 88 26 := ((tw_ne1 eσ70 (by (first | decide | omega)))).trans (tw_eq1 eσ68)
                    have y73 : σ70 88 27 = τ 88 27 := (tw_eq1 eσ70)
                    exact ih n ⟨by omega, by omega⟩ (s + 1) ⟨by omega, by omega⟩ σ70 hIσ70 hFσ70 (show n = mK σ from i0) (show PS σ (σ70 88 26) (s + 1) from (by first | exact PS_old i1 (by assumption) | exact PS_old i1 rfl | exact PS_new (by omega) g9 (by assumption))) (show (s + 1) ≤ p2 n from (by omega)) (show ∀ rk : Nat → Int, MOK rk σ → WOK (wM σ) → BMS (wM σ) rk (s + 1) (σ70 88 26) (σ70 88 27) from (fun rk M hW => by
                                                              have B := i3 rk M hW
                                                              have Y := ly rk (MOK_F M (fun j hj => hFτ 89 j (show ¬ ((89 = 88 ∧ (j = 19 ∨ j = 20 ∨ j = 21 ∨ j = 22 ∨ j = 23 ∨ j = 24 ∨ j = 25 ∨ j = 26 ∨ j = 27)) ∨ (89 = 89 ∧ 300 ≤ j)) from by omega)) (hFτ 91 0 (show ¬ ((91 = 88 ∧ (0 = 19 ∨ 0 = 20 ∨ 0 = 21 ∨ 0 = 22 ∨ 0 = 23 ∨ 0 = 24 ∨ 0 = 25 ∨ 0 = 26 ∨ 0 = 27)) ∨ (91 = 89 ∧ 300 ≤ 0)) from by decide)))
                                                              first
                                                              | (rw [show σ70 88 26 = _ from ((tw_ne1 eσ70 (by (first | decide | omega)))).trans (tw_eq1 eσ68), show σ70 88 27 = _ from (tw_eq1 eσ70)]; exact BM_no0 B Y (by omega))
                                                              | (rw [show σ70 88 26 = _ from ((tw_ne1 eσ70 (by (first | decide | omega)))).trans (tw_eq1 eσ68), show σ70 88 27 = _ from (tw_eq1 eσ70)]; exact BM_s hW B Y (by omega) ⟨by omega, by omega⟩ te (fun _ => xe) (by omega))
                                                              | (rw [show σ70 88 26 = _ from ((tw_ne1 eσ70 (by (first | decide | omega)))).trans (tw_eq1 eσ68), show σ70 88 27 = _ from (tw_eq1 eσ70)]; exact BM_s (x := 0) hW B Y (by omega) ⟨by omega, by omega⟩ te (fun z => by exfalso; omega) (by omega)))) (show (1024 - (s + 1)).toNat < N_ from by omega)
                  · refine j_iconst (pc := 123) dX12_findPlan_123 ?_
                    refine j_goto (pc := 124) (tgt := 128) dX12_findPlan_124 rfl ?_
                    refine j_istore (pc := 128) (i := 4) (ls' := [(0, vR 88), (1, vI n), (2, vI s), (3, vI 0), (4, vI 1)]) [1, 2, 3, 4, 0] dX12_findPlan_128 (Nat.le_of_ble_eq_true rfl) rfl rfl ?_
                    refine j_aload_n (pc := 130) dX12_findPlan_130 rfl rfl ?_
                    refine j_iload (pc := 131) dX12_findPlan_131 rfl ?_
                    refine j_ifR_eq (pc := 133) (tgt := 140) ⟨by omega, by omega⟩ dX12_findPlan_133 rfl (fun h74 => by exfalso; omega) (fun h74 => ?_)
                    refine j_iload_n (pc := 136) dX12_findPlan_136 rfl rfl ?_
                    refine j_goto (pc := 137) (tgt := 144) dX12_findPlan_137 rfl ?_
                    refine j_putI (pc := 144) fl_X12_292 fp_X12_26 dX12_findPlan_144 (a_88 hM) rfl (j_nm (fun σ75 (eσ75 : σ75 = tw_up σ14 88 26 s) => ?_))
                    have hIσ75 : tw_I σ75 := tw_I_up hIσ14 eσ75 (show (-4 : Int) ≤ s ∧ s ≤ 1023 from ⟨by omega, by omega⟩)
                    have hFσ75 : tw_F (fun c j => (c = 88 ∧ (j = 19 ∨ j = 20 ∨ j = 21 ∨ j = 22 ∨ j = 23 ∨ j = 24 ∨ j = 25 ∨ j = 26 ∨ j = 27)) ∨ (c = 89 ∧ 300 ≤ j)) σ σ75 := tw_F_up hFσ14 eσ75 (show (88 = 88 ∧ (26 = 19 ∨ 26 = 20 ∨ 26 = 21 ∨ 26 = 22 ∨ 26 = 23 ∨ 26 = 24 ∨ 26 = 25 ∨ 26 = 26 ∨ 26 = 27)) ∨ (88 = 89 ∧ 300 ≤ 26) from (Or.inl ⟨rfl, (Or.inr (Or.inr (Or.inr (Or.inr (Or.inr (Or.inr (Or.inr (Or.inl rfl))))))))⟩))
                    refine j_aload_n (pc := 147) dX12_findPlan_147 rfl rfl ?_
                    refine j_iload (pc := 148) dX12_findPlan_148 rfl ?_
                    refine j_ifR_eq (pc := 150) (tgt := 157) ⟨by omega, by omega⟩ dX12_findPlan_150 rfl (fun h76 => by exfalso; omega) (fun h76 => ?_)
                    refine j_iload_n (pc := 153) dX12_findPlan_153 rfl rfl ?_
                    refine j_goto (pc := 154) (tgt := 161) dX12_findPlan_154 rfl ?_
                    refine j_putI (pc := 161) fl_X12_295 fp_X12_27 dX12_findPlan_161 (a_88 hM) rfl (j_nm (fun σ77 (eσ77 : σ77 = tw_up σ75 88 27 0) => ?_))
                    have hIσ77 : tw_I σ77 := tw_I_up hIσ75 eσ77 (show (-2147483648 : Int) ≤ 0 ∧ 0 ≤ 2147483647 from by decide)
                    have hFσ77 : tw_F (fun c j => (c = 88 ∧ (j = 19 ∨ j = 20 ∨ j = 21 ∨ j = 22 ∨ j = 23 ∨ j = 24 ∨ j = 25 ∨ j = 26 ∨ j = 27)) ∨ (c = 89 ∧ 300 ≤ j)) σ σ77 := tw_F_up hFσ75 eσ77 (show (88 = 88 ∧ (27 = 19 ∨ 27 = 20 ∨ 27 = 21 ∨ 27 = 22 ∨ 27 = 23 ∨ 27 = 24 ∨ 27 = 25 ∨ 27 = 26 ∨ 27 = 27)) ∨ (88 = 89 ∧ 300 ≤ 27) from (Or.inl ⟨rfl, (Or.inr (Or.inr (Or.inr (Or.inr (Or.inr (Or.inr (Or.inr (Or.inr rfl))))))))⟩))
                    refine j_iinc (pc := 164) (i := 2) (n := 1) (ls' := [(0, vR 88), (1, vI n), (2, vI (s + 1))]) [1, 2, 0] dX12_findPlan_164 rfl (Nat.le_of_ble_eq_true rfl) rfl rfl ?_
                    refine j_goto (pc := 167) (tgt := 32) dX12_findPlan_167 rfl ?_
                    refine j_ls (ls' := [(0, vR 88), (1, vI n), (2, vI (s + 1))]) [0, 1, 2] rfl ?_
                    have y78 : σ77 88 26 = s := ((tw_ne1 eσ77 (by (first | decide | omega)))).trans (tw_eq1 eσ75)
                    have y79 : σ77 88 26 = s := ((tw_ne1 eσ77 (by (first | decide | omega)))).trans (tw_eq1 eσ75)
                    have y80 : σ77 88 27 = 0 := (tw_eq1 eσ77)
                    exact ih n ⟨by omega, by omega⟩ (s + 1) ⟨by omega, by omega⟩ σ77 hIσ77 hFσ77 (show n = mK σ from i0) (show PS σ (σ77 88 26) (s + 1) from (by first | exact PS_old i1 (by assumption) | exact PS_old i1 rfl | exact PS_new (by omega) g9 (by assumption))) (show (s + 1) ≤ p2 n from (by omega)) (show ∀ rk : Nat → Int, MOK rk σ → WOK (wM σ) → BMS (wM σ) rk (s + 1) (σ77 88 26) (σ77 88 27) from (fun rk M hW => by
                                                              have B := i3 rk M hW
                                                              have Y := ly rk (MOK_F M (fun j hj => hFτ 89 j (show ¬ ((89 = 88 ∧ (j = 19 ∨ j = 20 ∨ j = 21 ∨ j = 22 ∨ j = 23 ∨ j = 24 ∨ j = 25 ∨ j = 26 ∨ j = 27)) ∨ (89 = 89 ∧ 300 ≤ j)) from by omega)) (hFτ 91 0 (show ¬ ((91 = 88 ∧ (0 = 19 ∨ 0 = 20 ∨ 0 = 21 ∨ 0 = 22 ∨ 0 = 23 ∨ 0 = 24 ∨ 0 = 25 ∨ 0 = 26 ∨ 0 = 27)) ∨ (91 = 89 ∧ 300 ≤ 0)) from by decide)))
                                                              first
                                                              | (rw [show σ77 88 26 = _ from ((tw_ne1 eσ77 (by (first | decide | omega)))).trans (tw_eq1 eσ75), show σ77 88 27 = _ from (tw_eq1 eσ77)]; exact BM_no0 B Y (by omega))
                                                              | (rw [show σ77 88 26 = _ from ((tw_ne1 eσ77 (by (first | decide | omega)))).trans (tw_eq1 eσ75), show σ77 88 27 = _ from (tw_eq1 eσ77)]; exact BM_s hW B Y (by omega) ⟨by omega, by omega⟩ te (fun _ => xe) (by omega))
                                                              | (rw [show σ77 88 26 = _ from ((tw_ne1 eσ77 (by (first | decide | omega)))).trans (tw_eq1 eσ75), show σ77 88 27 = _ from (tw_eq1 eσ77)]; exact BM_s (x := 0) hW B Y (by omega) ⟨by omega, by omega⟩ te (fun z => by exfalso; omega) (by omega)))) (show (1024 - (s + 1)).toNat < N_ from by omega)
        · refine j_aload_n (pc := 63) dX12_findPlan_63 rfl rfl ?_
          refine j_sipush (pc := 64) dX12_findPlan_64 rfl ?_
          refine j_callV (pc := 67) (As := [vI 300]) (st := []) (c_X12_riskOf hM 300 (by (first | decide | exact ⟨by omega, by omega⟩)) σ14 hIσ14 (by omega)) mv_X12_280 rfl rfl rfl (a_88 hM) dX12_findPlan_67 ⟨Nat.le_of_ble_eq_true rfl, Nat.le_of_ble_eq_true rfl⟩ ⟨Nat.le_refl _, Nat.le_refl _⟩ rfl (Nat.le_of_ble_eq_true rfl) rfl (fun z81 σ82 hz81 => ?_)
          obtain ⟨r84, rfl, hr84, hIσ82, hGσ82, q83_0⟩ := hz81
          replace q83_0 : r84 = rsk (wM σ14) (gM (300 : Int) σ14) 1023 (σ14 91 0).toNat := q83_0
          have y85 : σ14 91 0 = τ 91 0 := ((hGσ14 91 0 (show ¬ ((91 = 88 ∧ (0 = 24 ∨ 0 = 25))) from by decide))).trans (hGσ4 91 0 (show ¬ ((91 = 89 ∧ 300 ≤ 0)) from by decide))
          have hFσ82 : tw_F (fun c j => (c = 88 ∧ (j = 19 ∨ j = 20 ∨ j = 21 ∨ j = 22 ∨ j = 23 ∨ j = 24 ∨ j = 25 ∨ j = 26 ∨ j = 27)) ∨ (c = 89 ∧ 300 ≤ j)) σ σ82 := tw_F_tr hFσ14 hGσ82 (fun c j q => (show (c = 88 ∧ (j = 19 ∨ j = 20 ∨ j = 21 ∨ j = 22 ∨ j = 23 ∨ j = 24 ∨ j = 25 ∨ j = 26 ∨ j = 27)) ∨ (c = 89 ∧ 300 ≤ j) from by replace q : (c = 88 ∧ (j = 19 ∨ j = 20 ∨ j = 21 ∨ j = 22 ∨ j = 23)) := q; exact (Or.inl ⟨q.1, (q.2.elim (fun z => (Or.inl z)) (fun z => (z.elim (fun z => (Or.inr (Or.inl z))) (fun z => (z.elim (fun z => (Or.inr (Or.inr (Or.inl z)))) (fun z => (z.elim (fun z => (Or.inr (Or.inr (Or.inr (Or.inl z))))) (fun z => (Or.inr (Or.inr (Or.inr (Or.inr (Or.inl z)))))))))))))⟩)))
          refine j_st (st' := [vI r84]) rfl ?_
          have xe := q83_0; rw [WF9, GF9, n9] at xe
          refine j_goto (pc := 70) (tgt := 74) dX12_findPlan_70 rfl ?_
          refine j_istore_n (pc := 74) (i := 3) (ls' := [(0, vR 88), (1, vI n), (2, vI s), (3, vI r84)]) [1, 2, 3, 0] dX12_findPlan_74 rfl (Nat.le_of_ble_eq_true rfl) rfl rfl ?_
          refine j_aload_n (pc := 75) dX12_findPlan_75 rfl rfl ?_
          refine j_getI (pc := 76) fl_X12_274 dX12_findPlan_76 (a_88 hM) rfl ?_
          refine j_topV (show σ82 88 25 = σ14 88 25 from (hGσ82 88 25 (show ¬ ((88 = 88 ∧ (25 = 19 ∨ 25 = 20 ∨ 25 = 21 ∨ 25 = 22 ∨ 25 = 23))) from by decide))) ?_
          refine j_bipush (pc := 79) dX12_findPlan_79 rfl ?_
          refine j_icmpR_ne (pc := 81) (tgt := 127) ⟨by omega, by omega⟩ ⟨by omega, by omega⟩ dX12_findPlan_81 rfl (fun h86 => by exfalso; omega) (fun h86 => ?_)
          refine j_aload_n (pc := 84) dX12_findPlan_84 rfl rfl ?_
          refine j_getI (pc := 85) fl_X12_292 dX12_findPlan_85 (a_88 hM) rfl ?_
          refine j_topV (show σ82 88 26 = τ 88 26 from (((hGσ82 88 26 (show ¬ ((88 = 88 ∧ (26 = 19 ∨ 26 = 20 ∨ 26 = 21 ∨ 26 = 22 ∨ 26 = 23))) from by decide))).trans (hGσ14 88 26 (show ¬ ((88 = 88 ∧ (26 = 24 ∨ 26 = 25))) from by decide))).trans (hGσ4 88 26 (show ¬ ((88 = 89 ∧ 300 ≤ 26)) from by decide))) ?_
          have f87 : (-4 : Int) ≤ τ 88 26 ∧ τ 88 26 ≤ 1023 := hIτ 88 26
          refine j_bipush (pc := 88) dX12_findPlan_88 rfl ?_
          refine j_icmpR_eq (pc := 90) (tgt := 123) ⟨by omega, by omega⟩ ⟨by omega, by omega⟩ dX12_findPlan_90 rfl (fun h88 => ?_) (fun h88 => ?_)
          · refine j_iconst (pc := 123) dX12_findPlan_123 ?_
            refine j_goto (pc := 124) (tgt := 128) dX12_findPlan_124 rfl ?_
            refine j_istore (pc := 128) (i := 4) (ls' := [(0, vR 88), (1, vI n), (2, vI s), (3, vI r84), (4, vI 1)]) [1, 2, 3, 4, 0] dX12_findPlan_128 (Nat.le_of_ble_eq_true rfl) rfl rfl ?_
            refine j_aload_n (pc := 130) dX12_findPlan_130 rfl rfl ?_
            refine j_iload (pc := 131) dX12_findPlan_131 rfl ?_
            refine j_ifR_eq (pc := 133) (tgt := 140) ⟨by omega, by omega⟩ dX12_findPlan_133 rfl (fun h89 => by exfalso; omega) (fun h89 => ?_)
            refine j_iload_n (pc := 136) dX12_findPlan_136 rfl rfl ?_
            refine j_goto (pc := 137) (tgt := 144) dX12_findPlan_137 rfl ?_
            refine j_putI (pc := 144) fl_X12_292 fp_X12_26 dX12_findPlan_144 (a_88 hM) rfl (j_nm (fun σ90 (eσ90 : σ90 = tw_up σ82 88 26 s) => ?_))
            have hIσ90 : tw_I σ90 := tw_I_up hIσ82 eσ90 (show (-4 : Int) ≤ s ∧ s ≤ 1023 from ⟨by omega, by omega⟩)
            have hFσ90 : tw_F (fun c j => (c = 88 ∧ (j = 19 ∨ j = 20 ∨ j = 21 ∨ j = 22 ∨ j = 23 ∨ j = 24 ∨ j = 25 ∨ j = 26 ∨ j = 27)) ∨ (c = 89 ∧ 300 ≤ j)) σ σ90 := tw_F_up hFσ82 eσ90 (show (88 = 88 ∧ (26 = 19 ∨ 26 = 20 ∨ 26 = 21 ∨ 26 = 22 ∨ 26 = 23 ∨ 26 = 24 ∨ 26 = 25 ∨ 26 = 26 ∨ 26 = 27)) ∨ (88 = 89 ∧ 300 ≤ 26) from (Or.inl ⟨rfl, (Or.inr (Or.inr (Or.inr (Or.inr (Or.inr (Or.inr (Or.inr (Or.inl rfl))))))))⟩))
            refine j_aload_n (pc := 147) dX12_findPlan_147 rfl rfl ?_
            refine j_iload (pc := 148) dX12_findPlan_148 rfl ?_
            refine j_ifR_eq (pc := 150) (tgt := 157) ⟨by omega, by omega⟩ dX12_findPlan_150 rfl (fun h91 => by exfalso; omega) (fun h91 => ?_)
            refine j_iload_n (pc := 153) dX12_findPlan_153 rfl rfl ?_
            refine j_goto (pc := 154) (tgt := 161) dX12_findPlan_154 rfl ?_
            refine j_putI (pc := 161) fl_X12_295 fp_X12_27 dX12_findPlan_161 (a_88 hM) rfl (j_nm (fun σ92 (eσ92 : σ92 = tw_up σ90 88 27 r84) => ?_))
            have hIσ92 : tw_I σ92 := tw_I_up hIσ90 eσ92 (show (-2147483648 : Int) ≤ r84 ∧ r84 ≤ 2147483647 from ⟨by omega, by omega⟩)
            have hFσ92 : tw_F (fun c j => (c = 88 ∧ (j = 19 ∨ j = 20 ∨ j = 21 ∨ j = 22 ∨ j = 23 ∨ j = 24 ∨ j = 25 ∨ j = 26 ∨ j = 27)) ∨ (c = 89 ∧ 300 ≤ j)) σ σ92 := tw_F_up hFσ90 eσ92 (show (88 = 88 ∧ (27 = 19 ∨ 27 = 20 ∨ 27 = 21 ∨ 27 = 22 ∨ 27 = 23 ∨ 27 = 24 ∨ 27 = 25 ∨ 27 = 26 ∨ 27 = 27)) ∨ (88 = 89 ∧ 300 ≤ 27) from (Or.inl ⟨rfl, (Or.inr (Or.inr (Or.inr (Or.inr (Or.inr (Or.inr (Or.inr (Or.inr rfl))))))))⟩))
            refine j_iinc (pc := 164) (i := 2) (n := 1) (ls' := [(0, vR 88), (1, vI n), (2, vI (s + 1))]) [1, 2, 0] dX12_findPlan_164 rfl (Nat.le_of_ble_eq_true rfl) rfl rfl ?_
            refine j_goto (pc := 167) (tgt := 32) dX12_findPlan_167 rfl ?_
            refine j_ls (ls' := [(0, vR 88), (1, vI n), (2, vI (s + 1))]) [0, 1, 2] rfl ?_
            have y93 : σ92 88 26 = s := ((tw_ne1 eσ92 (by (first | decide | omega)))).trans (tw_eq1 eσ90)
            have y94 : σ92 88 26 = s := ((tw_ne1 eσ92 (by (first | decide | omega)))).trans (tw_eq1 eσ90)
            have y95 : σ92 88 27 = r84 := (tw_eq1 eσ92)
            exact ih n ⟨by omega, by omega⟩ (s + 1) ⟨by omega, by omega⟩ σ92 hIσ92 hFσ92 (show n = mK σ from i0) (show PS σ (σ92 88 26) (s + 1) from (by first | exact PS_old i1 (by assumption) | exact PS_old i1 rfl | exact PS_new (by omega) g9 (by assumption))) (show (s + 1) ≤ p2 n from (by omega)) (show ∀ rk : Nat → Int, MOK rk σ → WOK (wM σ) → BMS (wM σ) rk (s + 1) (σ92 88 26) (σ92 88 27) from (fun rk M hW => by
                                                              have B := i3 rk M hW
                                                              have Y := ly rk (MOK_F M (fun j hj => hFτ 89 j (show ¬ ((89 = 88 ∧ (j = 19 ∨ j = 20 ∨ j = 21 ∨ j = 22 ∨ j = 23 ∨ j = 24 ∨ j = 25 ∨ j = 26 ∨ j = 27)) ∨ (89 = 89 ∧ 300 ≤ j)) from by omega)) (hFτ 91 0 (show ¬ ((91 = 88 ∧ (0 = 19 ∨ 0 = 20 ∨ 0 = 21 ∨ 0 = 22 ∨ 0 = 23 ∨ 0 = 24 ∨ 0 = 25 ∨ 0 = 26 ∨ 0 = 27)) ∨ (91 = 89 ∧ 300 ≤ 0)) from by decide)))
                                                              first
                                                              | (rw [show σ92 88 26 = _ from ((tw_ne1 eσ92 (by (first | decide | omega)))).trans (tw_eq1 eσ90), show σ92 88 27 = _ from (tw_eq1 eσ92)]; exact BM_no0 B Y (by omega))
                                                              | (rw [show σ92 88 26 = _ from ((tw_ne1 eσ92 (by (first | decide | omega)))).trans (tw_eq1 eσ90), show σ92 88 27 = _ from (tw_eq1 eσ92)]; exact BM_s hW B Y (by omega) ⟨by omega, by omega⟩ te (fun _ => xe) (by omega))
                                                              | (rw [show σ92 88 26 = _ from ((tw_ne1 eσ92 (by (first | decide | omega)))).trans (tw_eq1 eσ90), show σ92 88 27 = _ from (tw_eq1 eσ92)]; exact BM_s (x := 0) hW B Y (by omega) ⟨by omega, by omega⟩ te (fun z => by exfalso; omega) (by omega)))) (show (1024 - (s + 1)).toNat < N_ from by omega)
          · refine j_iload_n (pc := 93) dX12_findPlan_93 rfl rfl ?_
            refine j_aload_n (pc := 94) dX12_findPlan_94 rfl rfl ?_
            refine j_getI (pc := 95) fl_X12_295 dX12_findPlan_95 (a_88 hM) rfl ?_
            refine j_topV (show σ82 88 27 = τ 88 27 from (((hGσ82 88 27 (show ¬ ((88 = 88 ∧ (27 = 19 ∨ 27 = 20 ∨ 27 = 21 ∨ 27 = 22 ∨ 27 = 23))) from by decide))).trans (hGσ14 88 27 (show ¬ ((88 = 88 ∧ (27 = 24 ∨ 27 = 25))) from by decide))).trans (hGσ4 88 27 (show ¬ ((88 = 89 ∧ 300 ≤ 27)) from by decide))) ?_
            have f96 : (-2147483648 : Int) ≤ τ 88 27 ∧ τ 88 27 ≤ 2147483647 := hIτ 88 27
            refine j_icmpR_lt (pc := 98) (tgt := 123) ⟨by omega, by omega⟩ ⟨by omega, by omega⟩ dX12_findPlan_98 rfl (fun h97 => ?_) (fun h97 => ?_)
            · refine j_iconst (pc := 123) dX12_findPlan_123 ?_
              refine j_goto (pc := 124) (tgt := 128) dX12_findPlan_124 rfl ?_
              refine j_istore (pc := 128) (i := 4) (ls' := [(0, vR 88), (1, vI n), (2, vI s), (3, vI r84), (4, vI 1)]) [1, 2, 3, 4, 0] dX12_findPlan_128 (Nat.le_of_ble_eq_true rfl) rfl rfl ?_
              refine j_aload_n (pc := 130) dX12_findPlan_130 rfl rfl ?_
              refine j_iload (pc := 131) dX12_findPlan_131 rfl ?_
              refine j_ifR_eq (pc := 133) (tgt := 140) ⟨by omega, by omega⟩ dX12_findPlan_133 rfl (fun h98 => by exfalso; omega) (fun h98 => ?_)
              refine j_iload_n (pc := 136) dX12_findPlan_136 rfl rfl ?_
              refine j_goto (pc := 137) (tgt := 144) dX12_findPlan_137 rfl ?_
              refine j_putI (pc := 144) fl_X12_292 fp_X12_26 dX12_findPlan_144 (a_88 hM) rfl (j_nm (fun σ99 (eσ99 : σ99 = tw_up σ82 88 26 s) => ?_))
              have hIσ99 : tw_I σ99 := tw_I_up hIσ82 eσ99 (show (-4 : Int) ≤ s ∧ s ≤ 1023 from ⟨by omega, by omega⟩)
              have hFσ99 : tw_F (fun c j => (c = 88 ∧ (j = 19 ∨ j = 20 ∨ j = 21 ∨ j = 22 ∨ j = 23 ∨ j = 24 ∨ j = 25 ∨ j = 26 ∨ j = 27)) ∨ (c = 89 ∧ 300 ≤ j)) σ σ99 := tw_F_up hFσ82 eσ99 (show (88 = 88 ∧ (26 = 19 ∨ 26 = 20 ∨ 26 = 21 ∨ 26 = 22 ∨ 26 = 23 ∨ 26 = 24 ∨ 26 = 25 ∨ 26 = 26 ∨ 26 = 27)) ∨ (88 = 89 ∧ 300 ≤ 26) from (Or.inl ⟨rfl, (Or.inr (Or.inr (Or.inr (Or.inr (Or.inr (Or.inr (Or.inr (Or.inl rfl))))))))⟩))
              refine j_aload_n (pc := 147) dX12_findPlan_147 rfl rfl ?_
              refine j_iload (pc := 148) dX12_findPlan_148 rfl ?_
              refine j_ifR_eq (pc := 150) (tgt := 157) ⟨by omega, by omega⟩ dX12_findPlan_150 rfl (fun h100 => by exfalso; omega) (fun h100 => ?_)
              refine j_iload_n (pc := 153) dX12_findPlan_153 rfl rfl ?_
              refine j_goto (pc := 154) (tgt := 161) dX12_findPlan_154 rfl ?_
              refine j_putI (pc := 161) fl_X12_295 fp_X12_27 dX12_findPlan_161 (a_88 hM) rfl (j_nm (fun σ101 (eσ101 : σ101 = tw_up σ99 88 27 r84) => ?_))
              have hIσ101 : tw_I σ101 := tw_I_up hIσ99 eσ101 (show (-2147483648 : Int) ≤ r84 ∧ r84 ≤ 2147483647 from ⟨by omega, by omega⟩)
              have hFσ101 : tw_F (fun c j => (c = 88 ∧ (j = 19 ∨ j = 20 ∨ j = 21 ∨ j = 22 ∨ j = 23 ∨ j = 24 ∨ j = 25 ∨ j = 26 ∨ j = 27)) ∨ (c = 89 ∧ 300 ≤ j)) σ σ101 := tw_F_up hFσ99 eσ101 (show (88 = 88 ∧ (27 = 19 ∨ 27 = 20 ∨ 27 = 21 ∨ 27 = 22 ∨ 27 = 23 ∨ 27 = 24 ∨ 27 = 25 ∨ 27 = 26 ∨ 27 = 27)) ∨ (88 = 89 ∧ 300 ≤ 27) from (Or.inl ⟨rfl, (Or.inr (Or.inr (Or.inr (Or.inr (Or.inr (Or.inr (Or.inr (Or.inr rfl))))))))⟩))
              refine j_iinc (pc := 164) (i := 2) (n := 1) (ls' := [(0, vR 88), (1, vI n), (2, vI (s + 1))]) [1, 2, 0] dX12_findPlan_164 rfl (Nat.le_of_ble_eq_true rfl) rfl rfl ?_
              refine j_goto (pc := 167) (tgt := 32) dX12_findPlan_167 rfl ?_
              refine j_ls (ls' := [(0, vR 88), (1, vI n), (2, vI (s + 1))]) [0, 1, 2] rfl ?_
              have y102 : σ101 88 26 = s := ((tw_ne1 eσ101 (by (first | decide | omega)))).trans (tw_eq1 eσ99)
              have y103 : σ101 88 26 = s := ((tw_ne1 eσ101 (by (first | decide | omega)))).trans (tw_eq1 eσ99)
              have y104 : σ101 88 27 = r84 := (tw_eq1 eσ101)
              exact ih n ⟨by omega, by omega⟩ (s + 1) ⟨by omega, by omega⟩ σ101 hIσ101 hFσ101 (show n = mK σ from i0) (show PS σ (σ101 88 26) (s + 1) from (by first | exact PS_old i1 (by assumption) | exact PS_old i1 rfl | exact PS_new (by omega) g9 (by assumption))) (show (s + 1) ≤ p2 n from (by omega)) (show ∀ rk : Nat → Int, MOK rk σ → WOK (wM σ) → BMS (wM σ) rk (s + 1) (σ101 88 26) (σ101 88 27) from (fun rk M hW => by
                                                              have B := i3 rk M hW
                                                              have Y := ly rk (MOK_F M (fun j hj => hFτ 89 j (show ¬ ((89 = 88 ∧ (j = 19 ∨ j = 20 ∨ j = 21 ∨ j = 22 ∨ j = 23 ∨ j = 24 ∨ j = 25 ∨ j = 26 ∨ j = 27)) ∨ (89 = 89 ∧ 300 ≤ j)) from by omega)) (hFτ 91 0 (show ¬ ((91 = 88 ∧ (0 = 19 ∨ 0 = 20 ∨ 0 = 21 ∨ 0 = 22 ∨ 0 = 23 ∨ 0 = 24 ∨ 0 = 25 ∨ 0 = 26 ∨ 0 = 27)) ∨ (91 = 89 ∧ 300 ≤ 0)) from by decide)))
                                                              first
                                                              | (rw [show σ101 88 26 = _ from ((tw_ne1 eσ101 (by (first | decide | omega)))).trans (tw_eq1 eσ99), show σ101 88 27 = _ from (tw_eq1 eσ101)]; exact BM_no0 B Y (by omega))
                                                              | (rw [show σ101 88 26 = _ from ((tw_ne1 eσ101 (by (first | decide | omega)))).trans (tw_eq1 eσ99), show σ101 88 27 = _ from (tw_eq1 eσ101)]; exact BM_s hW B Y (by omega) ⟨by omega, by omega⟩ te (fun _ => xe) (by omega))
                                                              | (rw [show σ101 88 26 = _ from ((tw_ne1 eσ101 (by (first | decide | omega)))).trans (tw_eq1 eσ99), show σ101 88 27 = _ from (tw_eq1 eσ101)]; exact BM_s (x := 0) hW B Y (by omega) ⟨by omega, by omega⟩ te (fun z => by exfalso; omega) (by omega)))) (show (1024 - (s + 1)).toNat < N_ from by omega)
            · refine j_iload_n (pc := 101) dX12_findPlan_101 rfl rfl ?_
              refine j_aload_n (pc := 102) dX12_findPlan_102 rfl rfl ?_
              refine j_getI (pc := 103) fl_X12_295 dX12_findPlan_103 (a_88 hM) rfl ?_
              refine j_topV (show σ82 88 27 = τ 88 27 from (((hGσ82 88 27 (show ¬ ((88 = 88 ∧ (27 = 19 ∨ 27 = 20 ∨ 27 = 21 ∨ 27 = 22 ∨ 27 = 23))) from by decide))).trans (hGσ14 88 27 (show ¬ ((88 = 88 ∧ (27 = 24 ∨ 27 = 25))) from by decide))).trans (hGσ4 88 27 (show ¬ ((88 = 89 ∧ 300 ≤ 27)) from by decide))) ?_
              refine j_icmpR_ne (pc := 106) (tgt := 127) ⟨by omega, by omega⟩ ⟨by omega, by omega⟩ dX12_findPlan_106 rfl (fun h105 => ?_) (fun h105 => ?_)
              · refine j_iconst (pc := 127) dX12_findPlan_127 ?_
                refine j_istore (pc := 128) (i := 4) (ls' := [(0, vR 88), (1, vI n), (2, vI s), (3, vI r84), (4, vI 0)]) [1, 2, 3, 4, 0] dX12_findPlan_128 (Nat.le_of_ble_eq_true rfl) rfl rfl ?_
                refine j_aload_n (pc := 130) dX12_findPlan_130 rfl rfl ?_
                refine j_iload (pc := 131) dX12_findPlan_131 rfl ?_
                refine j_ifR_eq (pc := 133) (tgt := 140) ⟨by omega, by omega⟩ dX12_findPlan_133 rfl (fun h106 => ?_) (fun h106 => by exfalso; omega)
                refine j_aload_n (pc := 140) dX12_findPlan_140 rfl rfl ?_
                refine j_getI (pc := 141) fl_X12_292 dX12_findPlan_141 (a_88 hM) rfl ?_
                refine j_topV (show σ82 88 26 = τ 88 26 from (((hGσ82 88 26 (show ¬ ((88 = 88 ∧ (26 = 19 ∨ 26 = 20 ∨ 26 = 21 ∨ 26 = 22 ∨ 26 = 23))) from by decide))).trans (hGσ14 88 26 (show ¬ ((88 = 88 ∧ (26 = 24 ∨ 26 = 25))) from by decide))).trans (hGσ4 88 26 (show ¬ ((88 = 89 ∧ 300 ≤ 26)) from by decide))) ?_
                refine j_putI (pc := 144) fl_X12_292 fp_X12_26 dX12_findPlan_144 (a_88 hM) rfl (j_nm (fun σ107 (eσ107 : σ107 = tw_up σ82 88 26 (τ 88 26)) => ?_))
                have hIσ107 : tw_I σ107 := tw_I_up hIσ82 eσ107 (show (-4 : Int) ≤ τ 88 26 ∧ τ 88 26 ≤ 1023 from ⟨by omega, by omega⟩)
                have hFσ107 : tw_F (fun c j => (c = 88 ∧ (j = 19 ∨ j = 20 ∨ j = 21 ∨ j = 22 ∨ j = 23 ∨ j = 24 ∨ j = 25 ∨ j = 26 ∨ j = 27)) ∨ (c = 89 ∧ 300 ≤ j)) σ σ107 := tw_F_up hFσ82 eσ107 (show (88 = 88 ∧ (26 = 19 ∨ 26 = 20 ∨ 26 = 21 ∨ 26 = 22 ∨ 26 = 23 ∨ 26 = 24 ∨ 26 = 25 ∨ 26 = 26 ∨ 26 = 27)) ∨ (88 = 89 ∧ 300 ≤ 26) from (Or.inl ⟨rfl, (Or.inr (Or.inr (Or.inr (Or.inr (Or.inr (Or.inr (Or.inr (Or.inl rfl))))))))⟩))
                refine j_aload_n (pc := 147) dX12_findPlan_147 rfl rfl ?_
                refine j_iload (pc := 148) dX12_findPlan_148 rfl ?_
                refine j_ifR_eq (pc := 150) (tgt := 157) ⟨by omega, by omega⟩ dX12_findPlan_150 rfl (fun h108 => ?_) (fun h108 => by exfalso; omega)
                refine j_aload_n (pc := 157) dX12_findPlan_157 rfl rfl ?_
                refine j_getI (pc := 158) fl_X12_295 dX12_findPlan_158 (a_88 hM) rfl ?_
                refine j_topV (show σ107 88 27 = τ 88 27 from ((((tw_ne1 eσ107 (by (first | decide | omega)))).trans (hGσ82 88 27 (show ¬ ((88 = 88 ∧ (27 = 19 ∨ 27 = 20 ∨ 27 = 21 ∨ 27 = 22 ∨ 27 = 23))) from by decide))).trans (hGσ14 88 27 (show ¬ ((88 = 88 ∧ (27 = 24 ∨ 27 = 25))) from by decide))).trans (hGσ4 88 27 (show ¬ ((88 = 89 ∧ 300 ≤ 27)) from by decide))) ?_
                refine j_putI (pc := 161) fl_X12_295 fp_X12_27 dX12_findPlan_161 (a_88 hM) rfl (j_nm (fun σ109 (eσ109 : σ109 = tw_up σ107 88 27 (τ 88 27)) => ?_))
                have hIσ109 : tw_I σ109 := tw_I_up hIσ107 eσ109 (show (-2147483648 : Int) ≤ τ 88 27 ∧ τ 88 27 ≤ 2147483647 from ⟨by omega, by omega⟩)
                have hFσ109 : tw_F (fun c j => (c = 88 ∧ (j = 19 ∨ j = 20 ∨ j = 21 ∨ j = 22 ∨ j = 23 ∨ j = 24 ∨ j = 25 ∨ j = 26 ∨ j = 27)) ∨ (c = 89 ∧ 300 ≤ j)) σ σ109 := tw_F_up hFσ107 eσ109 (show (88 = 88 ∧ (27 = 19 ∨ 27 = 20 ∨ 27 = 21 ∨ 27 = 22 ∨ 27 = 23 ∨ 27 = 24 ∨ 27 = 25 ∨ 27 = 26 ∨ 27 = 27)) ∨ (88 = 89 ∧ 300 ≤ 27) from (Or.inl ⟨rfl, (Or.inr (Or.inr (Or.inr (Or.inr (Or.inr (Or.inr (Or.inr (Or.inr rfl))))))))⟩))
                refine j_iinc (pc := 164) (i := 2) (n := 1) (ls' := [(0, vR 88), (1, vI n), (2, vI (s + 1))]) [1, 2, 0] dX12_findPlan_164 rfl (Nat.le_of_ble_eq_true rfl) rfl rfl ?_
                refine j_goto (pc := 167) (tgt := 32) dX12_findPlan_167 rfl ?_
                refine j_ls (ls' := [(0, vR 88), (1, vI n), (2, vI (s + 1))]) [0, 1, 2] rfl ?_
                have y110 : σ109 88 26 = τ 88 26 := ((tw_ne1 eσ109 (by (first | decide | omega)))).trans (tw_eq1 eσ107)
                have y111 : σ109 88 26 = τ 88 26 := ((tw_ne1 eσ109 (by (first | decide | omega)))).trans (tw_eq1 eσ107)
                have y112 : σ109 88 27 = τ 88 27 := (tw_eq1 eσ109)
                exact ih n ⟨by omega, by omega⟩ (s + 1) ⟨by omega, by omega⟩ σ109 hIσ109 hFσ109 (show n = mK σ from i0) (show PS σ (σ109 88 26) (s + 1) from (by first | exact PS_old i1 (by assumption) | exact PS_old i1 rfl | exact PS_new (by omega) g9 (by assumption))) (show (s + 1) ≤ p2 n from (by omega)) (show ∀ rk : Nat → Int, MOK rk σ → WOK (wM σ) → BMS (wM σ) rk (s + 1) (σ109 88 26) (σ109 88 27) from (fun rk M hW => by
                                                              have B := i3 rk M hW
                                                              have Y := ly rk (MOK_F M (fun j hj => hFτ 89 j (show ¬ ((89 = 88 ∧ (j = 19 ∨ j = 20 ∨ j = 21 ∨ j = 22 ∨ j = 23 ∨ j = 24 ∨ j = 25 ∨ j = 26 ∨ j = 27)) ∨ (89 = 89 ∧ 300 ≤ j)) from by omega)) (hFτ 91 0 (show ¬ ((91 = 88 ∧ (0 = 19 ∨ 0 = 20 ∨ 0 = 21 ∨ 0 = 22 ∨ 0 = 23 ∨ 0 = 24 ∨ 0 = 25 ∨ 0 = 26 ∨ 0 = 27)) ∨ (91 = 89 ∧ 300 ≤ 0)) from by decide)))
                                                              first
                                                              | (rw [show σ109 88 26 = _ from ((tw_ne1 eσ109 (by (first | decide | omega)))).trans (tw_eq1 eσ107), show σ109 88 27 = _ from (tw_eq1 eσ109)]; exact BM_no0 B Y (by omega))
                                                              | (rw [show σ109 88 26 = _ from ((tw_ne1 eσ109 (by (first | decide | omega)))).trans (tw_eq1 eσ107), show σ109 88 27 = _ from (tw_eq1 eσ109)]; exact BM_s hW B Y (by omega) ⟨by omega, by omega⟩ te (fun _ => xe) (by omega))
                                                              | (rw [show σ109 88 26 = _ from ((tw_ne1 eσ109 (by (first | decide | omega)))).trans (tw_eq1 eσ107), show σ109 88 27 = _ from (tw_eq1 eσ109)]; exact BM_s (x := 0) hW B Y (by omega) ⟨by omega, by omega⟩ te (fun z => by exfalso; omega) (by omega)))) (show (1024 - (s + 1)).toNat < N_ from by omega)
              · refine j_iload_n (pc := 109) dX12_findPlan_109 rfl rfl ?_
                refine j_callS (pc := 110) (As := [vI s]) (st := []) (c_X12_countOf s ⟨by omega, by omega⟩ σ82 hIσ82) ms_X12_304 rfl dX12_findPlan_110 ⟨Nat.le_of_ble_eq_true rfl, Nat.le_of_ble_eq_true rfl⟩ ⟨Nat.le_refl _, Nat.le_refl _⟩ rfl (Nat.le_of_ble_eq_true rfl) rfl (fun z113 σ114 hz113 => ?_)
                obtain ⟨r116, rfl, hr116, rfl, q115_0⟩ := hz113
                replace q115_0 : r116 = mPop s 12 := q115_0
                refine j_st (st' := [vI r116]) rfl ?_
                refine j_aload_n (pc := 113) dX12_findPlan_113 rfl rfl ?_
                refine j_getI (pc := 114) fl_X12_292 dX12_findPlan_114 (a_88 hM) rfl ?_
                refine j_topV (show σ82 88 26 = τ 88 26 from (((hGσ82 88 26 (show ¬ ((88 = 88 ∧ (26 = 19 ∨ 26 = 20 ∨ 26 = 21 ∨ 26 = 22 ∨ 26 = 23))) from by decide))).trans (hGσ14 88 26 (show ¬ ((88 = 88 ∧ (26 = 24 ∨ 26 = 25))) from by decide))).trans (hGσ4 88 26 (show ¬ ((88 = 89 ∧ 300 ≤ 26)) from by decide))) ?_
                refine j_callS (pc := 117) (As := [vI (τ 88 26)]) (st := [vI r116]) (c_X12_countOf (τ 88 26) ⟨by omega, by omega⟩ σ82 hIσ82) ms_X12_304 rfl dX12_findPlan_117 ⟨Nat.le_of_ble_eq_true rfl, Nat.le_of_ble_eq_true rfl⟩ ⟨Nat.le_refl _, Nat.le_refl _⟩ rfl (Nat.le_of_ble_eq_true rfl) rfl (fun z117 σ118 hz117 => ?_)
                obtain ⟨r120, rfl, hr120, rfl, q119_0⟩ := hz117
                replace q119_0 : r120 = mPop (τ 88 26) 12 := q119_0
                refine j_st (st' := [vI r120, vI r116]) rfl ?_
                refine j_icmpR_ge (pc := 120) (tgt := 127) ⟨by omega, by omega⟩ ⟨by omega, by omega⟩ dX12_findPlan_120 rfl (fun h121 => ?_) (fun h121 => ?_)
                · refine j_iconst (pc := 127) dX12_findPlan_127 ?_
                  refine j_istore (pc := 128) (i := 4) (ls' := [(0, vR 88), (1, vI n), (2, vI s), (3, vI r84), (4, vI 0)]) [1, 2, 3, 4, 0] dX12_findPlan_128 (Nat.le_of_ble_eq_true rfl) rfl rfl ?_
                  refine j_aload_n (pc := 130) dX12_findPlan_130 rfl rfl ?_
                  refine j_iload (pc := 131) dX12_findPlan_131 rfl ?_
                  refine j_ifR_eq (pc := 133) (tgt := 140) ⟨by omega, by omega⟩ dX12_findPlan_133 rfl (fun h122 => ?_) (fun h122 => by exfalso; omega)
                  refine j_aload_n (pc := 140) dX12_findPlan_140 rfl rfl ?_
                  refine j_getI (pc := 141) fl_X12_292 dX12_findPlan_141 (a_88 hM) rfl ?_
                  refine j_topV (show σ82 88 26 = τ 88 26 from (((hGσ82 88 26 (show ¬ ((88 = 88 ∧ (26 = 19 ∨ 26 = 20 ∨ 26 = 21 ∨ 26 = 22 ∨ 26 = 23))) from by decide))).trans (hGσ14 88 26 (show ¬ ((88 = 88 ∧ (26 = 24 ∨ 26 = 25))) from by decide))).trans (hGσ4 88 26 (show ¬ ((88 = 89 ∧ 300 ≤ 26)) from by decide))) ?_
                  refine j_putI (pc := 144) fl_X12_292 fp_X12_26 dX12_findPlan_144 (a_88 hM) rfl (j_nm (fun σ123 (eσ123 : σ123 = tw_up σ82 88 26 (τ 88 26)) => ?_))
                  have hIσ123 : tw_I σ123 := tw_I_up hIσ82 eσ123 (show (-4 : Int) ≤ τ 88 26 ∧ τ 88 26 ≤ 1023 from ⟨by omega, by omega⟩)
                  have hFσ123 : tw_F (fun c j => (c = 88 ∧ (j = 19 ∨ j = 20 ∨ j = 21 ∨ j = 22 ∨ j = 23 ∨ j = 24 ∨ j = 25 ∨ j = 26 ∨ j = 27)) ∨ (c = 89 ∧ 300 ≤ j)) σ σ123 := tw_F_up hFσ82 eσ123 (show (88 = 88 ∧ (26 = 19 ∨ 26 = 20 ∨ 26 = 21 ∨ 26 = 22 ∨ 26 = 23 ∨ 26 = 24 ∨ 26 = 25 ∨ 26 = 26 ∨ 26 = 27)) ∨ (88 = 89 ∧ 300 ≤ 26) from (Or.inl ⟨rfl, (Or.inr (Or.inr (Or.inr (Or.inr (Or.inr (Or.inr (Or.inr (Or.inl rfl))))))))⟩))
                  refine j_aload_n (pc := 147) dX12_findPlan_147 rfl rfl ?_
                  refine j_iload (pc := 148) dX12_findPlan_148 rfl ?_
                  refine j_ifR_eq (pc := 150) (tgt := 157) ⟨by omega, by omega⟩ dX12_findPlan_150 rfl (fun h124 => ?_) (fun h124 => by exfalso; omega)
                  refine j_aload_n (pc := 157) dX12_findPlan_157 rfl rfl ?_
                  refine j_getI (pc := 158) fl_X12_295 dX12_findPlan_158 (a_88 hM) rfl ?_
                  refine j_topV (show σ123 88 27 = τ 88 27 from ((((tw_ne1 eσ123 (by (first | decide | omega)))).trans (hGσ82 88 27 (show ¬ ((88 = 88 ∧ (27 = 19 ∨ 27 = 20 ∨ 27 = 21 ∨ 27 = 22 ∨ 27 = 23))) from by decide))).trans (hGσ14 88 27 (show ¬ ((88 = 88 ∧ (27 = 24 ∨ 27 = 25))) from by decide))).trans (hGσ4 88 27 (show ¬ ((88 = 89 ∧ 300 ≤ 27)) from by decide))) ?_
                  refine j_putI (pc := 161) fl_X12_295 fp_X12_27 dX12_findPlan_161 (a_88 hM) rfl (j_nm (fun σ125 (eσ125 : σ125 = tw_up σ123 88 27 (τ 88 27)) => ?_))
                  have hIσ125 : tw_I σ125 := tw_I_up hIσ123 eσ125 (show (-2147483648 : Int) ≤ τ 88 27 ∧ τ 88 27 ≤ 2147483647 from ⟨by omega, by omega⟩)
                  have hFσ125 : tw_F (fun c j => (c = 88 ∧ (j = 19 ∨ j = 20 ∨ j = 21 ∨ j = 22 ∨ j = 23 ∨ j = 24 ∨ j = 25 ∨ j = 26 ∨ j = 27)) ∨ (c = 89 ∧ 300 ≤ j)) σ σ125 := tw_F_up hFσ123 eσ125 (show (88 = 88 ∧ (27 = 19 ∨ 27 = 20 ∨ 27 = 21 ∨ 27 = 22 ∨ 27 = 23 ∨ 27 = 24 ∨ 27 = 25 ∨ 27 = 26 ∨ 27 = 27)) ∨ (88 = 89 ∧ 300 ≤ 27) from (Or.inl ⟨rfl, (Or.inr (Or.inr (Or.inr (Or.inr (Or.inr (Or.inr (Or.inr (Or.inr rfl))))))))⟩))
                  refine j_iinc (pc := 164) (i := 2) (n := 1) (ls' := [(0, vR 88), (1, vI n), (2, vI (s + 1))]) [1, 2, 0] dX12_findPlan_164 rfl (Nat.le_of_ble_eq_true rfl) rfl rfl ?_
                  refine j_goto (pc := 167) (tgt := 32) dX12_findPlan_167 rfl ?_
                  refine j_ls (ls' := [(0, vR 88), (1, vI n), (2, vI (s + 1))]) [0, 1, 2] rfl ?_
                  have y126 : σ125 88 26 = τ 88 26 := ((tw_ne1 eσ125 (by (first | decide | omega)))).trans (tw_eq1 eσ123)
                  have y127 : σ125 88 26 = τ 88 26 := ((tw_ne1 eσ125 (by (first | decide | omega)))).trans (tw_eq1 eσ123)
                  have y128 : σ125 88 27 = τ 88 27 := (tw_eq1 eσ125)
                  exact ih n ⟨by omega, by omega⟩ (s + 1) ⟨by omega, by omega⟩ σ125 hIσ125 hFσ125 (show n = mK σ from i0) (show PS σ (σ125 88 26) (s + 1) from (by first | exact PS_old i1 (by assumption) | exact PS_old i1 rfl | exact PS_new (by omega) g9 (by assumption))) (show (s + 1) ≤ p2 n from (by omega)) (show ∀ rk : Nat → Int, MOK rk σ → WOK (wM σ) → BMS (wM σ) rk (s + 1) (σ125 88 26) (σ125 88 27) from (fun rk M hW => by
                                                              have B := i3 rk M hW
                                                              have Y := ly rk (MOK_F M (fun j hj => hFτ 89 j (show ¬ ((89 = 88 ∧ (j = 19 ∨ j = 20 ∨ j = 21 ∨ j = 22 ∨ j = 23 ∨ j = 24 ∨ j = 25 ∨ j = 26 ∨ j = 27)) ∨ (89 = 89 ∧ 300 ≤ j)) from by omega)) (hFτ 91 0 (show ¬ ((91 = 88 ∧ (0 = 19 ∨ 0 = 20 ∨ 0 = 21 ∨ 0 = 22 ∨ 0 = 23 ∨ 0 = 24 ∨ 0 = 25 ∨ 0 = 26 ∨ 0 = 27)) ∨ (91 = 89 ∧ 300 ≤ 0)) from by decide)))
                                                              first
                                                              | (rw [show σ125 88 26 = _ from ((tw_ne1 eσ125 (by (first | decide | omega)))).trans (tw_eq1 eσ123), show σ125 88 27 = _ from (tw_eq1 eσ125)]; exact BM_no0 B Y (by omega))
                                                              | (rw [show σ125 88 26 = _ from ((tw_ne1 eσ125 (by (first | decide | omega)))).trans (tw_eq1 eσ123), show σ125 88 27 = _ from (tw_eq1 eσ125)]; exact BM_s hW B Y (by omega) ⟨by omega, by omega⟩ te (fun _ => xe) (by omega))
                                                              | (rw [show σ125 88 26 = _ from ((tw_ne1 eσ125 (by (first | decide | omega)))).trans (tw_eq1 eσ123), show σ125 88 27 = _ from (tw_eq1 eσ125)]; exact BM_s (x := 0) hW B Y (by omega) ⟨by omega, by omega⟩ te (fun z => by exfalso; omega) (by omega)))) (show (1024 - (s + 1)).toNat < N_ from by omega)
                · refine j_iconst (pc := 123) dX12_findPlan_123 ?_
                  refine j_goto (pc := 124) (tgt := 128) dX12_findPlan_124 rfl ?_
                  refine j_istore (pc := 128) (i := 4) (ls' := [(0, vR 88), (1, vI n), (2, vI s), (3, vI r84), (4, vI 1)]) [1, 2, 3, 4, 0] dX12_findPlan_128 (Nat.le_of_ble_eq_true rfl) rfl rfl ?_
                  refine j_aload_n (pc := 130) dX12_findPlan_130 rfl rfl ?_
                  refine j_iload (pc := 131) dX12_findPlan_131 rfl ?_
                  refine j_ifR_eq (pc := 133) (tgt := 140) ⟨by omega, by omega⟩ dX12_findPlan_133 rfl (fun h129 => by exfalso; omega) (fun h129 => ?_)
                  refine j_iload_n (pc := 136) dX12_findPlan_136 rfl rfl ?_
                  refine j_goto (pc := 137) (tgt := 144) dX12_findPlan_137 rfl ?_
                  refine j_putI (pc := 144) fl_X12_292 fp_X12_26 dX12_findPlan_144 (a_88 hM) rfl (j_nm (fun σ130 (eσ130 : σ130 = tw_up σ82 88 26 s) => ?_))
                  have hIσ130 : tw_I σ130 := tw_I_up hIσ82 eσ130 (show (-4 : Int) ≤ s ∧ s ≤ 1023 from ⟨by omega, by omega⟩)
                  have hFσ130 : tw_F (fun c j => (c = 88 ∧ (j = 19 ∨ j = 20 ∨ j = 21 ∨ j = 22 ∨ j = 23 ∨ j = 24 ∨ j = 25 ∨ j = 26 ∨ j = 27)) ∨ (c = 89 ∧ 300 ≤ j)) σ σ130 := tw_F_up hFσ82 eσ130 (show (88 = 88 ∧ (26 = 19 ∨ 26 = 20 ∨ 26 = 21 ∨ 26 = 22 ∨ 26 = 23 ∨ 26 = 24 ∨ 26 = 25 ∨ 26 = 26 ∨ 26 = 27)) ∨ (88 = 89 ∧ 300 ≤ 26) from (Or.inl ⟨rfl, (Or.inr (Or.inr (Or.inr (Or.inr (Or.inr (Or.inr (Or.inr (Or.inl rfl))))))))⟩))
                  refine j_aload_n (pc := 147) dX12_findPlan_147 rfl rfl ?_
                  refine j_iload (pc := 148) dX12_findPlan_148 rfl ?_
                  refine j_ifR_eq (pc := 150) (tgt := 157) ⟨by omega, by omega⟩ dX12_findPlan_150 rfl (fun h131 => by exfalso; omega) (fun h131 => ?_)
                  refine j_iload_n (pc := 153) dX12_findPlan_153 rfl rfl ?_
                  refine j_goto (pc := 154) (tgt := 161) dX12_findPlan_154 rfl ?_
                  refine j_putI (pc := 161) fl_X12_295 fp_X12_27 dX12_findPlan_161 (a_88 hM) rfl (j_nm (fun σ132 (eσ132 : σ132 = tw_up σ130 88 27 r84) => ?_))
                  have hIσ132 : tw_I σ132 := tw_I_up hIσ130 eσ132 (show (-2147483648 : Int) ≤ r84 ∧ r84 ≤ 2147483647 from ⟨by omega, by omega⟩)
                  have hFσ132 : tw_F (fun c j => (c = 88 ∧ (j = 19 ∨ j = 20 ∨ j = 21 ∨ j = 22 ∨ j = 23 ∨ j = 24 ∨ j = 25 ∨ j = 26 ∨ j = 27)) ∨ (c = 89 ∧ 300 ≤ j)) σ σ132 := tw_F_up hFσ130 eσ132 (show (88 = 88 ∧ (27 = 19 ∨ 27 = 20 ∨ 27 = 21 ∨ 27 = 22 ∨ 27 = 23 ∨ 27 = 24 ∨ 27 = 25 ∨ 27 = 26 ∨ 27 = 27)) ∨ (88 = 89 ∧ 300 ≤ 27) from (Or.inl ⟨rfl, (Or.inr (Or.inr (Or.inr (Or.inr (Or.inr (Or.inr (Or.inr (Or.inr rfl))))))))⟩))
                  refine j_iinc (pc := 164) (i := 2) (n := 1) (ls' := [(0, vR 88), (1, vI n), (2, vI (s + 1))]) [1, 2, 0] dX12_findPlan_164 rfl (Nat.le_of_ble_eq_true rfl) rfl rfl ?_
                  refine j_goto (pc := 167) (tgt := 32) dX12_findPlan_167 rfl ?_
                  refine j_ls (ls' := [(0, vR 88), (1, vI n), (2, vI (s + 1))]) [0, 1, 2] rfl ?_
                  have y133 : σ132 88 26 = s := ((tw_ne1 eσ132 (by (first | decide | omega)))).trans (tw_eq1 eσ130)
                  have y134 : σ132 88 26 = s := ((tw_ne1 eσ132 (by (first | decide | omega)))).trans (tw_eq1 eσ130)
                  have y135 : σ132 88 27 = r84 := (tw_eq1 eσ132)
                  exact ih n ⟨by omega, by omega⟩ (s + 1) ⟨by omega, by omega⟩ σ132 hIσ132 hFσ132 (show n = mK σ from i0) (show PS σ (σ132 88 26) (s + 1) from (by first | exact PS_old i1 (by assumption) | exact PS_old i1 rfl | exact PS_new (by omega) g9 (by assumption))) (show (s + 1) ≤ p2 n from (by omega)) (show ∀ rk : Nat → Int, MOK rk σ → WOK (wM σ) → BMS (wM σ) rk (s + 1) (σ132 88 26) (σ132 88 27) from (fun rk M hW => by
                                                              have B := i3 rk M hW
                                                              have Y := ly rk (MOK_F M (fun j hj => hFτ 89 j (show ¬ ((89 = 88 ∧ (j = 19 ∨ j = 20 ∨ j = 21 ∨ j = 22 ∨ j = 23 ∨ j = 24 ∨ j = 25 ∨ j = 26 ∨ j = 27)) ∨ (89 = 89 ∧ 300 ≤ j)) from by omega)) (hFτ 91 0 (show ¬ ((91 = 88 ∧ (0 = 19 ∨ 0 = 20 ∨ 0 = 21 ∨ 0 = 22 ∨ 0 = 23 ∨ 0 = 24 ∨ 0 = 25 ∨ 0 = 26 ∨ 0 = 27)) ∨ (91 = 89 ∧ 300 ≤ 0)) from by decide)))
                                                              first
                                                              | (rw [show σ132 88 26 = _ from ((tw_ne1 eσ132 (by (first | decide | omega)))).trans (tw_eq1 eσ130), show σ132 88 27 = _ from (tw_eq1 eσ132)]; exact BM_no0 B Y (by omega))
                                                              | (rw [show σ132 88 26 = _ from ((tw_ne1 eσ132 (by (first | decide | omega)))).trans (tw_eq1 eσ130), show σ132 88 27 = _ from (tw_eq1 eσ132)]; exact BM_s hW B Y (by omega) ⟨by omega, by omega⟩ te (fun _ => xe) (by omega))
                                                              | (rw [show σ132 88 26 = _ from ((tw_ne1 eσ132 (by (first | decide | omega)))).trans (tw_eq1 eσ130), show σ132 88 27 = _ from (tw_eq1 eσ132)]; exact BM_s (x := 0) hW B Y (by omega) ⟨by omega, by omega⟩ te (fun z => by exfalso; omega) (by omega)))) (show (1024 - (s + 1)).toNat < N_ from by omega)
set_option maxHeartbeats 4000000 in
set_option maxRecDepth 100000 in
theorem c_X12_findPlan {G : tw_G} (hM : tw_isM G) (σ : tw_M) (hI : tw_I σ) : tw_C G yX12_findPlan cX12_findPlan 5 none 4 [vR 88] σ (q_X12_findPlan σ) := by
  refine tw_met [(0, vR 88)] (by decide +kernel) rfl (Nat.le_of_ble_eq_true rfl) ?_
  refine j_aload_n (pc := 0) dX12_findPlan_0 rfl rfl ?_
  refine j_bipush (pc := 1) dX12_findPlan_1 rfl ?_
  refine j_putI (pc := 3) fl_X12_292 fp_X12_26 dX12_findPlan_3 (a_88 hM) rfl (j_nm (fun σ136 (eσ136 : σ136 = tw_up σ 88 26 (-4)) => ?_))
  have hIσ136 : tw_I σ136 := tw_I_up hI eσ136 (show (-4 : Int) ≤ -4 ∧ -4 ≤ 1023 from by decide)
  have hFσ136 : tw_F (fun c j => (c = 88 ∧ (j = 19 ∨ j = 20 ∨ j = 21 ∨ j = 22 ∨ j = 23 ∨ j = 24 ∨ j = 25 ∨ j = 26 ∨ j = 27)) ∨ (c = 89 ∧ 300 ≤ j)) σ σ136 := tw_F_up (tw_F_rf) eσ136 (show (88 = 88 ∧ (26 = 19 ∨ 26 = 20 ∨ 26 = 21 ∨ 26 = 22 ∨ 26 = 23 ∨ 26 = 24 ∨ 26 = 25 ∨ 26 = 26 ∨ 26 = 27)) ∨ (88 = 89 ∧ 300 ≤ 26) from (Or.inl ⟨rfl, (Or.inr (Or.inr (Or.inr (Or.inr (Or.inr (Or.inr (Or.inr (Or.inl rfl))))))))⟩))
  refine j_aload_n (pc := 6) dX12_findPlan_6 rfl rfl ?_
  refine j_iconst (pc := 7) dX12_findPlan_7 ?_
  refine j_putI (pc := 8) fl_X12_295 fp_X12_27 dX12_findPlan_8 (a_88 hM) rfl (j_nm (fun σ137 (eσ137 : σ137 = tw_up σ136 88 27 0) => ?_))
  have hIσ137 : tw_I σ137 := tw_I_up hIσ136 eσ137 (show (-2147483648 : Int) ≤ 0 ∧ 0 ≤ 2147483647 from by decide)
  have hFσ137 : tw_F (fun c j => (c = 88 ∧ (j = 19 ∨ j = 20 ∨ j = 21 ∨ j = 22 ∨ j = 23 ∨ j = 24 ∨ j = 25 ∨ j = 26 ∨ j = 27)) ∨ (c = 89 ∧ 300 ≤ j)) σ σ137 := tw_F_up hFσ136 eσ137 (show (88 = 88 ∧ (27 = 19 ∨ 27 = 20 ∨ 27 = 21 ∨ 27 = 22 ∨ 27 = 23 ∨ 27 = 24 ∨ 27 = 25 ∨ 27 = 26 ∨ 27 = 27)) ∨ (88 = 89 ∧ 300 ≤ 27) from (Or.inl ⟨rfl, (Or.inr (Or.inr (Or.inr (Or.inr (Or.inr (Or.inr (Or.inr (Or.inr rfl))))))))⟩))
  refine j_aload_n (pc := 11) dX12_findPlan_11 rfl rfl ?_
  refine j_callV (pc := 12) (As := []) (st := []) (c_X12_cracks hM σ137 hIσ137) mv_X12_298 rfl rfl rfl (a_88 hM) dX12_findPlan_12 ⟨Nat.le_of_ble_eq_true rfl, Nat.le_of_ble_eq_true rfl⟩ ⟨Nat.le_refl _, Nat.le_refl _⟩ rfl (Nat.le_of_ble_eq_true rfl) rfl (fun z138 σ139 hz138 => ?_)
  obtain ⟨r141, rfl, hr141, rfl, q140_0⟩ := hz138
  replace q140_0 : r141 = nc σ137 (σ137 91 0).toNat := q140_0
  have y142 : σ137 91 0 = σ 91 0 := ((tw_ne1 eσ137 (by (first | decide | omega)))).trans (tw_ne1 eσ136 (by (first | decide | omega)))
  have f143 : (1 : Int) ≤ σ 91 0 ∧ σ 91 0 ≤ 40 := hI 91 0
  refine j_st (st' := [vI r141]) rfl ?_
  refine j_bipush (pc := 15) dX12_findPlan_15 rfl ?_
  refine j_icmpR_le (pc := 17) (tgt := 25) ⟨by omega, by omega⟩ ⟨by omega, by omega⟩ dX12_findPlan_17 rfl (fun h144 => ?_) (fun h144 => ?_)
  · refine j_aload_n (pc := 25) dX12_findPlan_25 rfl rfl ?_
    refine j_callV (pc := 26) (As := []) (st := []) (c_X12_cracks hM σ137 hIσ137) mv_X12_298 rfl rfl rfl (a_88 hM) dX12_findPlan_26 ⟨Nat.le_of_ble_eq_true rfl, Nat.le_of_ble_eq_true rfl⟩ ⟨Nat.le_refl _, Nat.le_refl _⟩ rfl (Nat.le_of_ble_eq_true rfl) rfl (fun z145 σ146 hz145 => ?_)
    obtain ⟨r148, rfl, hr148, rfl, q147_0⟩ := hz145
    replace q147_0 : r148 = nc σ137 (σ137 91 0).toNat := q147_0
    have y149 : σ137 91 0 = σ 91 0 := ((tw_ne1 eσ137 (by (first | decide | omega)))).trans (tw_ne1 eσ136 (by (first | decide | omega)))
    refine j_st (st' := [vI r148]) rfl ?_
    refine j_istore_n (pc := 29) (i := 1) (ls' := [(0, vR 88), (1, vI r148)]) [1, 0] dX12_findPlan_29 rfl (Nat.le_of_ble_eq_true rfl) rfl rfl ?_
    refine j_iconst (pc := 30) dX12_findPlan_30 ?_
    refine j_istore_n (pc := 31) (i := 2) (ls' := [(0, vR 88), (1, vI r148), (2, vI 0)]) [1, 2, 0] dX12_findPlan_31 rfl (Nat.le_of_ble_eq_true rfl) rfl rfl ?_
    refine j_ls (ls' := [(0, vR 88), (1, vI r148), (2, vI 0)]) [0, 1, 2] rfl ?_
    have y150 : σ137 88 26 = -4 := ((tw_ne1 eσ137 (by (first | decide | omega)))).trans (tw_eq1 eσ136)
    have y151 : σ137 88 26 = -4 := ((tw_ne1 eσ137 (by (first | decide | omega)))).trans (tw_eq1 eσ136)
    have y152 : σ137 88 27 = 0 := (tw_eq1 eσ137)
    exact (l_X12_findPlan hM σ hI (((1024 - (0 : Int)).toNat) + 1)) r148 ⟨by omega, by omega⟩ 0 (by (first | decide | exact ⟨by omega, by omega⟩)) σ137 hIσ137 hFσ137 (show r148 = mK σ from (by have e9 := (nc_F hFσ137 (fun j => (show ¬ ((92 = 88 ∧ (j = 19 ∨ j = 20 ∨ j = 21 ∨ j = 22 ∨ j = 23 ∨ j = 24 ∨ j = 25 ∨ j = 26 ∨ j = 27)) ∨ (92 = 89 ∧ 300 ≤ j)) from fun h => h.elim (fun h => absurd h.1 (by decide)) (fun h => absurd h.1 (by decide)))) (show ¬ ((91 = 88 ∧ (0 = 19 ∨ 0 = 20 ∨ 0 = 21 ∨ 0 = 22 ∨ 0 = 23 ∨ 0 = 24 ∨ 0 = 25 ∨ 0 = 26 ∨ 0 = 27)) ∨ (91 = 89 ∧ 300 ≤ 0)) from by decide)); unfold mK; split <;> omega)) (show PS σ (σ137 88 26) (0 : Int) from (Or.inl (by omega))) (show (0 : Int) ≤ p2 r148 from p2_nn) (show ∀ rk : Nat → Int, MOK rk σ → WOK (wM σ) → BMS (wM σ) rk (0 : Int) (σ137 88 26) (σ137 88 27) from (fun rk M hW => by rw [show σ137 88 26 = -4 from ((tw_ne1 eσ137 (by (first | decide | omega)))).trans (tw_eq1 eσ136)]; exact BMS_0)) (Nat.lt_succ_self _)
  · refine j_bipush (pc := 20) dX12_findPlan_20 rfl ?_
    refine j_goto (pc := 22) (tgt := 29) dX12_findPlan_22 rfl ?_
    refine j_istore_n (pc := 29) (i := 1) (ls' := [(0, vR 88), (1, vI 10)]) [1, 0] dX12_findPlan_29 rfl (Nat.le_of_ble_eq_true rfl) rfl rfl ?_
    refine j_iconst (pc := 30) dX12_findPlan_30 ?_
    refine j_istore_n (pc := 31) (i := 2) (ls' := [(0, vR 88), (1, vI 10), (2, vI 0)]) [1, 2, 0] dX12_findPlan_31 rfl (Nat.le_of_ble_eq_true rfl) rfl rfl ?_
    refine j_ls (ls' := [(0, vR 88), (1, vI 10), (2, vI 0)]) [0, 1, 2] rfl ?_
    have y153 : σ137 88 26 = -4 := ((tw_ne1 eσ137 (by (first | decide | omega)))).trans (tw_eq1 eσ136)
    have y154 : σ137 88 26 = -4 := ((tw_ne1 eσ137 (by (first | decide | omega)))).trans (tw_eq1 eσ136)
    have y155 : σ137 88 27 = 0 := (tw_eq1 eσ137)
    exact (l_X12_findPlan hM σ hI (((1024 - (0 : Int)).toNat) + 1)) 10 (by (first | decide | exact ⟨by omega, by omega⟩)) 0 (by (first | decide | exact ⟨by omega, by omega⟩)) σ137 hIσ137 hFσ137 (show (10 : Int) = mK σ from (by have e9 := (nc_F hFσ137 (fun j => (show ¬ ((92 = 88 ∧ (j = 19 ∨ j = 20 ∨ j = 21 ∨ j = 22 ∨ j = 23 ∨ j = 24 ∨ j = 25 ∨ j = 26 ∨ j = 27)) ∨ (92 = 89 ∧ 300 ≤ j)) from fun h => h.elim (fun h => absurd h.1 (by decide)) (fun h => absurd h.1 (by decide)))) (show ¬ ((91 = 88 ∧ (0 = 19 ∨ 0 = 20 ∨ 0 = 21 ∨ 0 = 22 ∨ 0 = 23 ∨ 0 = 24 ∨ 0 = 25 ∨ 0 = 26 ∨ 0 = 27)) ∨ (91 = 89 ∧ 300 ≤ 0)) from by decide)); unfold mK; split <;> omega)) (show PS σ (σ137 88 26) (0 : Int) from (Or.inl (by omega))) (show (0 : Int) ≤ p2 (10 : Int) from p2_nn) (show ∀ rk : Nat → Int, MOK rk σ → WOK (wM σ) → BMS (wM σ) rk (0 : Int) (σ137 88 26) (σ137 88 27) from (fun rk M hW => by rw [show σ137 88 26 = -4 from ((tw_ne1 eσ137 (by (first | decide | omega)))).trans (tw_eq1 eσ136)]; exact BMS_0)) (Nat.lt_succ_self _)
