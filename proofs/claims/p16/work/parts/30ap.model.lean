/-! 30ap.model -/
theorem dX12_findMore_0 : decode cX12_findMore 0 = .ok (.aload_n 0, 1) := by decide +kernel
theorem dX12_findMore_1 : decode cX12_findMore 1 = .ok (.getfield 17, 3) := by decide +kernel
theorem dX12_findMore_4 : decode cX12_findMore 4 = .ok (.iconst 0, 1) := by decide +kernel
theorem dX12_findMore_5 : decode cX12_findMore 5 = .ok (.iaload, 1) := by decide +kernel
theorem dX12_findMore_6 : decode cX12_findMore 6 = .ok (.istore_n 1, 1) := by decide +kernel
theorem dX12_findMore_7 : decode cX12_findMore 7 = .ok (.iload_n 1, 1) := by decide +kernel
theorem dX12_findMore_8 : decode cX12_findMore 8 = .ok (.istore_n 2, 1) := by decide +kernel
theorem dX12_findMore_9 : decode cX12_findMore 9 = .ok (.iload_n 2, 1) := by decide +kernel
theorem dX12_findMore_10 : decode cX12_findMore 10 = .ok (.ifCond .le 145, 3) := by decide +kernel
theorem dX12_findMore_13 : decode cX12_findMore 13 = .ok (.aload_n 0, 1) := by decide +kernel
theorem dX12_findMore_14 : decode cX12_findMore 14 = .ok (.getfield 50, 3) := by decide +kernel
theorem dX12_findMore_17 : decode cX12_findMore 17 = .ok (.iload_n 2, 1) := by decide +kernel
theorem dX12_findMore_18 : decode cX12_findMore 18 = .ok (.aload_n 0, 1) := by decide +kernel
theorem dX12_findMore_19 : decode cX12_findMore 19 = .ok (.iload_n 2, 1) := by decide +kernel
theorem dX12_findMore_20 : decode cX12_findMore 20 = .ok (.iconst 1, 1) := by decide +kernel
theorem dX12_findMore_21 : decode cX12_findMore 21 = .ok (.iadd, 1) := by decide +kernel
theorem dX12_findMore_22 : decode cX12_findMore 22 = .ok (.iload_n 1, 1) := by decide +kernel
theorem dX12_findMore_23 : decode cX12_findMore 23 = .ok (.iload_n 2, 1) := by decide +kernel
theorem dX12_findMore_24 : decode cX12_findMore 24 = .ok (.invokevirtual 359, 3) := by decide +kernel
theorem dX12_findMore_27 : decode cX12_findMore 27 = .ok (.ifCond .eq 7, 3) := by decide +kernel
theorem dX12_findMore_30 : decode cX12_findMore 30 = .ok (.iconst 0, 1) := by decide +kernel
theorem dX12_findMore_31 : decode cX12_findMore 31 = .ok (.goto 5, 3) := by decide +kernel
theorem dX12_findMore_34 : decode cX12_findMore 34 = .ok (.bipush (-4), 2) := by decide +kernel
theorem dX12_findMore_36 : decode cX12_findMore 36 = .ok (.iastore, 1) := by decide +kernel
theorem dX12_findMore_37 : decode cX12_findMore 37 = .ok (.iload_n 2, 1) := by decide +kernel
theorem dX12_findMore_38 : decode cX12_findMore 38 = .ok (.iconst 1, 1) := by decide +kernel
theorem dX12_findMore_39 : decode cX12_findMore 39 = .ok (.iadd, 1) := by decide +kernel
theorem dX12_findMore_40 : decode cX12_findMore 40 = .ok (.istore_n 3, 1) := by decide +kernel
theorem dX12_findMore_41 : decode cX12_findMore 41 = .ok (.iload_n 3, 1) := by decide +kernel
theorem dX12_findMore_42 : decode cX12_findMore 42 = .ok (.iload_n 1, 1) := by decide +kernel
theorem dX12_findMore_43 : decode cX12_findMore 43 = .ok (.if_icmp .gt 106, 3) := by decide +kernel
theorem dX12_findMore_46 : decode cX12_findMore 46 = .ok (.aload_n 0, 1) := by decide +kernel
theorem dX12_findMore_47 : decode cX12_findMore 47 = .ok (.getfield 50, 3) := by decide +kernel
theorem dX12_findMore_50 : decode cX12_findMore 50 = .ok (.iload_n 3, 1) := by decide +kernel
theorem dX12_findMore_51 : decode cX12_findMore 51 = .ok (.iaload, 1) := by decide +kernel
theorem dX12_findMore_52 : decode cX12_findMore 52 = .ok (.bipush (-4), 2) := by decide +kernel
theorem dX12_findMore_54 : decode cX12_findMore 54 = .ok (.if_icmp .eq 30, 3) := by decide +kernel
theorem dX12_findMore_57 : decode cX12_findMore 57 = .ok (.aload_n 0, 1) := by decide +kernel
theorem dX12_findMore_58 : decode cX12_findMore 58 = .ok (.iload_n 2, 1) := by decide +kernel
theorem dX12_findMore_59 : decode cX12_findMore 59 = .ok (.iconst 1, 1) := by decide +kernel
theorem dX12_findMore_60 : decode cX12_findMore 60 = .ok (.iadd, 1) := by decide +kernel
theorem dX12_findMore_61 : decode cX12_findMore 61 = .ok (.iload_n 3, 1) := by decide +kernel
theorem dX12_findMore_62 : decode cX12_findMore 62 = .ok (.iconst 1, 1) := by decide +kernel
theorem dX12_findMore_63 : decode cX12_findMore 63 = .ok (.isub, 1) := by decide +kernel
theorem dX12_findMore_64 : decode cX12_findMore 64 = .ok (.iload_n 2, 1) := by decide +kernel
theorem dX12_findMore_65 : decode cX12_findMore 65 = .ok (.invokevirtual 359, 3) := by decide +kernel
theorem dX12_findMore_68 : decode cX12_findMore 68 = .ok (.ifCond .eq 16, 3) := by decide +kernel
theorem dX12_findMore_71 : decode cX12_findMore 71 = .ok (.aload_n 0, 1) := by decide +kernel
theorem dX12_findMore_72 : decode cX12_findMore 72 = .ok (.iload_n 3, 1) := by decide +kernel
theorem dX12_findMore_73 : decode cX12_findMore 73 = .ok (.iload_n 3, 1) := by decide +kernel
theorem dX12_findMore_74 : decode cX12_findMore 74 = .ok (.invokevirtual 356, 3) := by decide +kernel
theorem dX12_findMore_77 : decode cX12_findMore 77 = .ok (.ifCond .eq 7, 3) := by decide +kernel
theorem dX12_findMore_80 : decode cX12_findMore 80 = .ok (.iconst 1, 1) := by decide +kernel
theorem dX12_findMore_81 : decode cX12_findMore 81 = .ok (.goto 4, 3) := by decide +kernel
theorem dX12_findMore_84 : decode cX12_findMore 84 = .ok (.iconst 0, 1) := by decide +kernel
theorem dX12_findMore_85 : decode cX12_findMore 85 = .ok (.istore 4, 2) := by decide +kernel
theorem dX12_findMore_87 : decode cX12_findMore 87 = .ok (.aload_n 0, 1) := by decide +kernel
theorem dX12_findMore_88 : decode cX12_findMore 88 = .ok (.getfield 50, 3) := by decide +kernel
theorem dX12_findMore_91 : decode cX12_findMore 91 = .ok (.iload_n 2, 1) := by decide +kernel
theorem dX12_findMore_92 : decode cX12_findMore 92 = .ok (.iload 4, 2) := by decide +kernel
theorem dX12_findMore_94 : decode cX12_findMore 94 = .ok (.ifCond .eq 42, 3) := by decide +kernel
theorem dX12_findMore_97 : decode cX12_findMore 97 = .ok (.aload_n 0, 1) := by decide +kernel
theorem dX12_findMore_98 : decode cX12_findMore 98 = .ok (.getfield 50, 3) := by decide +kernel
theorem dX12_findMore_101 : decode cX12_findMore 101 = .ok (.iload_n 2, 1) := by decide +kernel
theorem dX12_findMore_102 : decode cX12_findMore 102 = .ok (.iaload, 1) := by decide +kernel
theorem dX12_findMore_103 : decode cX12_findMore 103 = .ok (.bipush (-4), 2) := by decide +kernel
theorem dX12_findMore_105 : decode cX12_findMore 105 = .ok (.if_icmp .eq 20, 3) := by decide +kernel
theorem dX12_findMore_108 : decode cX12_findMore 108 = .ok (.aload_n 0, 1) := by decide +kernel
theorem dX12_findMore_109 : decode cX12_findMore 109 = .ok (.getfield 50, 3) := by decide +kernel
theorem dX12_findMore_112 : decode cX12_findMore 112 = .ok (.iload_n 3, 1) := by decide +kernel
theorem dX12_findMore_113 : decode cX12_findMore 113 = .ok (.iaload, 1) := by decide +kernel
theorem dX12_findMore_114 : decode cX12_findMore 114 = .ok (.iconst 1, 1) := by decide +kernel
theorem dX12_findMore_115 : decode cX12_findMore 115 = .ok (.iadd, 1) := by decide +kernel
theorem dX12_findMore_116 : decode cX12_findMore 116 = .ok (.aload_n 0, 1) := by decide +kernel
theorem dX12_findMore_117 : decode cX12_findMore 117 = .ok (.getfield 50, 3) := by decide +kernel
theorem dX12_findMore_120 : decode cX12_findMore 120 = .ok (.iload_n 2, 1) := by decide +kernel
theorem dX12_findMore_121 : decode cX12_findMore 121 = .ok (.iaload, 1) := by decide +kernel
theorem dX12_findMore_122 : decode cX12_findMore 122 = .ok (.if_icmp .ge 14, 3) := by decide +kernel
theorem dX12_findMore_125 : decode cX12_findMore 125 = .ok (.aload_n 0, 1) := by decide +kernel
theorem dX12_findMore_126 : decode cX12_findMore 126 = .ok (.getfield 50, 3) := by decide +kernel
theorem dX12_findMore_129 : decode cX12_findMore 129 = .ok (.iload_n 3, 1) := by decide +kernel
theorem dX12_findMore_130 : decode cX12_findMore 130 = .ok (.iaload, 1) := by decide +kernel
theorem dX12_findMore_131 : decode cX12_findMore 131 = .ok (.iconst 1, 1) := by decide +kernel
theorem dX12_findMore_132 : decode cX12_findMore 132 = .ok (.iadd, 1) := by decide +kernel
theorem dX12_findMore_133 : decode cX12_findMore 133 = .ok (.goto 9, 3) := by decide +kernel
theorem dX12_findMore_136 : decode cX12_findMore 136 = .ok (.aload_n 0, 1) := by decide +kernel
theorem dX12_findMore_137 : decode cX12_findMore 137 = .ok (.getfield 50, 3) := by decide +kernel
theorem dX12_findMore_140 : decode cX12_findMore 140 = .ok (.iload_n 2, 1) := by decide +kernel
theorem dX12_findMore_141 : decode cX12_findMore 141 = .ok (.iaload, 1) := by decide +kernel
theorem dX12_findMore_142 : decode cX12_findMore 142 = .ok (.iastore, 1) := by decide +kernel
theorem dX12_findMore_143 : decode cX12_findMore 143 = .ok (.iinc 3 1, 3) := by decide +kernel
theorem dX12_findMore_146 : decode cX12_findMore 146 = .ok (.goto (-105), 3) := by decide +kernel
theorem dX12_findMore_149 : decode cX12_findMore 149 = .ok (.iinc 2 (-1), 3) := by decide +kernel
theorem dX12_findMore_152 : decode cX12_findMore 152 = .ok (.goto (-143), 3) := by decide +kernel
theorem dX12_findMore_155 : decode cX12_findMore 155 = .ok (.return_, 1) := by decide +kernel
abbrev q_X12_findMore  (σ : tw_M) : Option tw_V → tw_M → Prop := fun z τ => z = none ∧ tw_I τ ∧ tw_F (fun c j => (c = 88 ∧ (j = 19 ∨ j = 23)) ∨ c = 102) σ τ ∧ (∀ j : Int, 1 ≤ j → j ≤ σ 91 0 → TOK (σ 91 0) (okB σ) (τ 102) j)
set_option maxHeartbeats 4000000 in
set_option maxRecDepth 100000 in
theorem l_X12_findMore {G : tw_G} (hM : tw_isM G) (σ : tw_M) (hI : tw_I σ) : ∀ N_ : Nat, (∀ (t : Int) (ht : 1 ≤ t ∧ t ≤ 40) (b : Int) (hb : 0 ≤ b ∧ b ≤ 40) (τ : tw_M) (hIτ : tw_I τ) (hFτ : tw_F (fun c j => (c = 88 ∧ (j = 19 ∨ j = 23)) ∨ c = 102) σ τ) (i0 : t = σ 91 0) (i1 : b ≤ t) (i2 : ∀ j : Int, b < j → j ≤ t → TOK (σ 91 0) (okB σ) (τ 102) j) (hm : (100 * b + 50).toNat < N_), tw_J G (tw_mt RX12 cX12_findMore 5 none 4) (tw_E G (q_X12_findMore σ)) 9 [(0, vR 88), (1, vI t), (2, vI b)] [] τ) ∧ (∀ (t : Int) (ht : 1 ≤ t ∧ t ≤ 40) (b : Int) (hb : 1 ≤ b ∧ b ≤ 40) (c : Int) (hc : 2 ≤ c ∧ c ≤ 41) (τ : tw_M) (hIτ : tw_I τ) (hFτ : tw_F (fun c j => (c = 88 ∧ (j = 19 ∨ j = 23)) ∨ c = 102) σ τ) (i0 : t = σ 91 0) (i1 : b ≤ t) (i2 : b < c) (i3 : ∀ j : Int, b ≤ j → j ≤ t → TOK (σ 91 0) (okB σ) (τ 102) j) (hm : (100 * b + 41 - c).toNat < N_), tw_J G (tw_mt RX12 cX12_findMore 5 none 4) (tw_E G (q_X12_findMore σ)) 41 [(0, vR 88), (1, vI t), (2, vI b), (3, vI c)] [] τ) := by
  intro N_
  induction N_ with
  | zero => exact ⟨fun t ht b hb τ hIτ hFτ i0 i1 i2 hm => absurd hm (Nat.not_lt_zero _), fun t ht b hb c hc τ hIτ hFτ i0 i1 i2 i3 hm => absurd hm (Nat.not_lt_zero _)⟩
  | succ N_ ih =>
    refine ⟨?_, ?_⟩
    · intro t ht b hb τ hIτ hFτ i0 i1 i2 hm
      have ft : (1 : Int) ≤ σ 91 0 ∧ σ 91 0 ≤ 40 := hI 91 0
      have f91 := hFτ 91 0 (show ¬ ((91 = 88 ∧ (0 = 19 ∨ 0 = 23)) ∨ 91 = 102) from by decide)
      refine j_iload_n (pc := 9) dX12_findMore_9 rfl rfl ?_
      refine j_ifR_le (pc := 10) (tgt := 155) ⟨by omega, by omega⟩ dX12_findMore_10 rfl (fun h1 => ?_) (fun h1 => ?_)
      · exact j_vret (pc := 155) ⟨rfl, rfl⟩ dX12_findMore_155 rfl ⟨rfl, hIτ, hFτ, (fun j h1 h2 => i2 j (by omega) (by omega))⟩
      · refine j_aload_n (pc := 13) dX12_findMore_13 rfl rfl ?_
        refine j_getR (pc := 14) (r := 102) fl_X12_50 dX12_findMore_14 (a_88 hM) rfl ?_
        refine j_iload_n (pc := 17) dX12_findMore_17 rfl rfl ?_
        refine j_aload_n (pc := 18) dX12_findMore_18 rfl rfl ?_
        refine j_iload_n (pc := 19) dX12_findMore_19 rfl rfl ?_
        refine j_iconst (pc := 20) dX12_findMore_20 ?_
        refine j_iadd (pc := 21) dX12_findMore_21 ?_
        refine j_iload_n (pc := 22) dX12_findMore_22 rfl rfl ?_
        refine j_iload_n (pc := 23) dX12_findMore_23 rfl rfl ?_
        refine j_callV (pc := 24) (As := [vI (b + 1), vI t, vI b]) (st := [vI b, vR 102]) (c_X12_areClear hM (b + 1) ⟨by omega, by omega⟩ t ⟨by omega, by omega⟩ b ⟨by omega, by omega⟩ τ hIτ) mv_X12_359 rfl rfl rfl (a_88 hM) dX12_findMore_24 ⟨Nat.le_of_ble_eq_true rfl, Nat.le_of_ble_eq_true rfl⟩ ⟨Nat.le_refl _, Nat.le_refl _⟩ rfl (Nat.le_of_ble_eq_true rfl) rfl (fun z2 σ3 hz2 => ?_)
        obtain ⟨r5, rfl, hr5, hIσ3, hGσ3, q4_0⟩ := hz2
        replace q4_0 : (r5 = 1 ∧ mAC τ (b + 1) t b) ∨ (r5 = 0 ∧ ¬ mAC τ (b + 1) t b) := q4_0
        have hFσ3 : tw_F (fun c j => (c = 88 ∧ (j = 19 ∨ j = 23)) ∨ c = 102) σ σ3 := tw_F_tr hFτ hGσ3 (fun c j q => (show (c = 88 ∧ (j = 19 ∨ j = 23)) ∨ c = 102 from by replace q : (c = 88 ∧ (j = 19 ∨ j = 23)) := q; exact (Or.inl q)))
        refine j_st (st' := [vI r5, vI b, vR 102]) rfl ?_
        refine j_ifR_eq (pc := 27) (tgt := 34) ⟨by omega, by omega⟩ dX12_findMore_27 rfl (fun h6 => ?_) (fun h6 => ?_)
        · refine j_bipush (pc := 34) dX12_findMore_34 rfl ?_
          refine j_iast (pc := 36) dX12_findMore_36 (a_102 hM) (by omega) (by omega) (by decide) (j_nm (fun σ7 (eσ7 : σ7 = tw_up σ3 102 (b.toNat) (-4)) => ?_))
          have hIσ7 : tw_I σ7 := tw_I_up hIσ3 eσ7 (show (-2147483648 : Int) ≤ -4 ∧ -4 ≤ 2147483647 from by decide)
          have hFσ7 : tw_F (fun c j => (c = 88 ∧ (j = 19 ∨ j = 23)) ∨ c = 102) σ σ7 := tw_F_up hFσ3 eσ7 (show (102 = 88 ∧ (b.toNat = 19 ∨ b.toNat = 23)) ∨ 102 = 102 from (Or.inr rfl))
          refine j_iload_n (pc := 37) dX12_findMore_37 rfl rfl ?_
          refine j_iconst (pc := 38) dX12_findMore_38 ?_
          refine j_iadd (pc := 39) dX12_findMore_39 ?_
          refine j_istore_n (pc := 40) (i := 3) (ls' := [(0, vR 88), (1, vI t), (2, vI b), (3, vI (b + 1))]) [1, 2, 3, 0] dX12_findMore_40 rfl (Nat.le_of_ble_eq_true rfl) rfl rfl ?_
          refine j_ls (ls' := [(0, vR 88), (1, vI t), (2, vI b), (3, vI (b + 1))]) [0, 1, 2, 3] rfl ?_
          exact ih.2 t ⟨by omega, by omega⟩ b ⟨by omega, by omega⟩ (b + 1) ⟨by omega, by omega⟩ σ7 hIσ7 hFσ7 (show t = σ 91 0 from by omega) (show b ≤ t from by omega) (show b < (b + 1) from by omega) (show ∀ j : Int, b ≤ j → j ≤ t → TOK (σ 91 0) (okB σ) (σ7 102) j from (by first | exact fun j h1 h2 => TOK_up eσ7 (by omega) (fun j h1 h2 => TOK_F (fun x => hGσ3 102 x (show ¬ ((102 = 88 ∧ (x = 19 ∨ x = 23))) from fun h => absurd h.1 (by decide))) (i2 j h1 (by omega))) (by first | exact Or.inl rfl | exact Or.inr (Or.inl rfl)) j h1 (by omega) | exact fun j h1 h2 => TOK_up eσ7 (by omega) (fun j h1 h2 => t9 j (by omega) (by omega)) (TOK_old (t9 b (by omega) (by omega)) (by omega)) j h1 (by omega) | exact fun j h1 h2 => TOK_up eσ7 (by omega) (fun j h1 h2 => t9 j (by omega) (by omega)) (TOK_new (f := c) (by omega) (by omega) g9 (by omega) (t9 c (by omega) (by omega)) (by omega)) j h1 (by omega))) (show (100 * b + 41 - (b + 1)).toNat < N_ from by omega)
        · refine j_iconst (pc := 30) dX12_findMore_30 ?_
          refine j_goto (pc := 31) (tgt := 36) dX12_findMore_31 rfl ?_
          refine j_iast (pc := 36) dX12_findMore_36 (a_102 hM) (by omega) (by omega) (by decide) (j_nm (fun σ8 (eσ8 : σ8 = tw_up σ3 102 (b.toNat) 0) => ?_))
          have hIσ8 : tw_I σ8 := tw_I_up hIσ3 eσ8 (show (-2147483648 : Int) ≤ 0 ∧ 0 ≤ 2147483647 from by decide)
          have hFσ8 : tw_F (fun c j => (c = 88 ∧ (j = 19 ∨ j = 23)) ∨ c = 102) σ σ8 := tw_F_up hFσ3 eσ8 (show (102 = 88 ∧ (b.toNat = 19 ∨ b.toNat = 23)) ∨ 102 = 102 from (Or.inr rfl))
          refine j_iload_n (pc := 37) dX12_findMore_37 rfl rfl ?_
          refine j_iconst (pc := 38) dX12_findMore_38 ?_
          refine j_iadd (pc := 39) dX12_findMore_39 ?_
          refine j_istore_n (pc := 40) (i := 3) (ls' := [(0, vR 88), (1, vI t), (2, vI b), (3, vI (b + 1))]) [1, 2, 3, 0] dX12_findMore_40 rfl (Nat.le_of_ble_eq_true rfl) rfl rfl ?_
          refine j_ls (ls' := [(0, vR 88), (1, vI t), (2, vI b), (3, vI (b + 1))]) [0, 1, 2, 3] rfl ?_
          exact ih.2 t ⟨by omega, by omega⟩ b ⟨by omega, by omega⟩ (b + 1) ⟨by omega, by omega⟩ σ8 hIσ8 hFσ8 (show t = σ 91 0 from by omega) (show b ≤ t from by omega) (show b < (b + 1) from by omega) (show ∀ j : Int, b ≤ j → j ≤ t → TOK (σ 91 0) (okB σ) (σ8 102) j from (by first | exact fun j h1 h2 => TOK_up eσ8 (by omega) (fun j h1 h2 => TOK_F (fun x => hGσ3 102 x (show ¬ ((102 = 88 ∧ (x = 19 ∨ x = 23))) from fun h => absurd h.1 (by decide))) (i2 j h1 (by omega))) (by first | exact Or.inl rfl | exact Or.inr (Or.inl rfl)) j h1 (by omega) | exact fun j h1 h2 => TOK_up eσ8 (by omega) (fun j h1 h2 => t9 j (by omega) (by omega)) (TOK_old (t9 b (by omega) (by omega)) (by omega)) j h1 (by omega) | exact fun j h1 h2 => TOK_up eσ8 (by omega) (fun j h1 h2 => t9 j (by omega) (by omega)) (TOK_new (f := c) (by omega) (by omega) g9 (by omega) (t9 c (by omega) (by omega)) (by omega)) j h1 (by omega))) (show (100 * b + 41 - (b + 1)).toNat < N_ from by omega)
    · intro t ht b hb c hc τ hIτ hFτ i0 i1 i2 i3 hm
      have ft : (1 : Int) ≤ σ 91 0 ∧ σ 91 0 ≤ 40 := hI 91 0
      have f91 := hFτ 91 0 (show ¬ ((91 = 88 ∧ (0 = 19 ∨ 0 = 23)) ∨ 91 = 102) from by decide)
      have a9 : ∀ x y z, mAC τ x y z ↔ mAC σ x y z := fun x y z => mAC_congr (fun j => hFτ 92 j (show ¬ ((92 = 88 ∧ (j = 19 ∨ j = 23)) ∨ 92 = 102) from fun h => h.elim (fun h => absurd h.1 (by decide)) (fun h => absurd h (by decide)))) (hFτ 91 4 (show ¬ ((91 = 88 ∧ (4 = 19 ∨ 4 = 23)) ∨ 91 = 102) from by decide))
      refine j_iload_n (pc := 41) dX12_findMore_41 rfl rfl ?_
      refine j_iload_n (pc := 42) dX12_findMore_42 rfl rfl ?_
      refine j_icmpR_gt (pc := 43) (tgt := 149) ⟨by omega, by omega⟩ ⟨by omega, by omega⟩ dX12_findMore_43 rfl (fun h9 => ?_) (fun h9 => ?_)
      · refine j_iinc (pc := 149) (i := 2) (n := -1) (ls' := [(0, vR 88), (1, vI t), (2, vI (b + (-1)))]) [1, 2, 0] dX12_findMore_149 rfl (Nat.le_of_ble_eq_true rfl) rfl rfl ?_
        refine j_goto (pc := 152) (tgt := 9) dX12_findMore_152 rfl ?_
        refine j_ls (ls' := [(0, vR 88), (1, vI t), (2, vI (b + (-1)))]) [0, 1, 2] rfl ?_
        exact ih.1 t ⟨by omega, by omega⟩ (b + (-1)) ⟨by omega, by omega⟩ τ hIτ hFτ (show t = σ 91 0 from by omega) (show (b + (-1)) ≤ t from by omega) (show ∀ j : Int, (b + (-1)) < j → j ≤ t → TOK (σ 91 0) (okB σ) (τ 102) j from (fun j h1 h2 => i3 j (by omega) (by omega))) (show (100 * (b + (-1)) + 50).toNat < N_ from by omega)
      · refine j_aload_n (pc := 46) dX12_findMore_46 rfl rfl ?_
        refine j_getR (pc := 47) (r := 102) fl_X12_50 dX12_findMore_47 (a_88 hM) rfl ?_
        refine j_iload_n (pc := 50) dX12_findMore_50 rfl rfl ?_
        refine j_iald (pc := 51) dX12_findMore_51 (a_102 hM) (by omega) (by omega) (by decide) ?_
        have f10 : (-2147483648 : Int) ≤ τ 102 (c.toNat) ∧ τ 102 (c.toNat) ≤ 2147483647 := hIτ 102 (c.toNat)
        refine j_bipush (pc := 52) dX12_findMore_52 rfl ?_
        refine j_icmpR_eq (pc := 54) (tgt := 84) ⟨by omega, by omega⟩ ⟨by omega, by omega⟩ dX12_findMore_54 rfl (fun h11 => ?_) (fun h11 => ?_)
        · refine j_iconst (pc := 84) dX12_findMore_84 ?_
          refine j_istore (pc := 85) (i := 4) (ls' := [(0, vR 88), (1, vI t), (2, vI b), (3, vI c), (4, vI 0)]) [1, 2, 3, 4, 0] dX12_findMore_85 (Nat.le_of_ble_eq_true rfl) rfl rfl ?_
          have t9 : ∀ j : Int, b ≤ j → j ≤ t → TOK (σ 91 0) (okB σ) (τ 102) j := fun j h1 h2 => TOK_F (fun x => rfl) (i3 j h1 h2)
          have f5 : τ 102 b.toNat = τ 102 b.toNat := rfl
          have f6 : τ 102 c.toNat = τ 102 c.toNat := rfl
          refine j_aload_n (pc := 87) dX12_findMore_87 rfl rfl ?_
          refine j_getR (pc := 88) (r := 102) fl_X12_50 dX12_findMore_88 (a_88 hM) rfl ?_
          refine j_iload_n (pc := 91) dX12_findMore_91 rfl rfl ?_
          refine j_iload (pc := 92) dX12_findMore_92 rfl ?_
          refine j_ifR_eq (pc := 94) (tgt := 136) ⟨by omega, by omega⟩ dX12_findMore_94 rfl (fun h12 => ?_) (fun h12 => by exfalso; omega)
          refine j_aload_n (pc := 136) dX12_findMore_136 rfl rfl ?_
          refine j_getR (pc := 137) (r := 102) fl_X12_50 dX12_findMore_137 (a_88 hM) rfl ?_
          refine j_iload_n (pc := 140) dX12_findMore_140 rfl rfl ?_
          refine j_iald (pc := 141) dX12_findMore_141 (a_102 hM) (by omega) (by omega) (by decide) ?_
          have f13 : (-2147483648 : Int) ≤ τ 102 (b.toNat) ∧ τ 102 (b.toNat) ≤ 2147483647 := hIτ 102 (b.toNat)
          refine j_iast (pc := 142) dX12_findMore_142 (a_102 hM) (by omega) (by omega) (by decide) (j_nm (fun σ14 (eσ14 : σ14 = tw_up τ 102 (b.toNat) (τ 102 (b.toNat))) => ?_))
          have hIσ14 : tw_I σ14 := tw_I_up hIτ eσ14 (show (-2147483648 : Int) ≤ τ 102 (b.toNat) ∧ τ 102 (b.toNat) ≤ 2147483647 from ⟨by omega, by omega⟩)
          have hFσ14 : tw_F (fun c j => (c = 88 ∧ (j = 19 ∨ j = 23)) ∨ c = 102) σ σ14 := tw_F_up hFτ eσ14 (show (102 = 88 ∧ (b.toNat = 19 ∨ b.toNat = 23)) ∨ 102 = 102 from (Or.inr rfl))
          refine j_iinc (pc := 143) (i := 3) (n := 1) (ls' := [(0, vR 88), (1, vI t), (2, vI b), (3, vI (c + 1))]) [1, 2, 3, 0] dX12_findMore_143 rfl (Nat.le_of_ble_eq_true rfl) rfl rfl ?_
          refine j_goto (pc := 146) (tgt := 41) dX12_findMore_146 rfl ?_
          refine j_ls (ls' := [(0, vR 88), (1, vI t), (2, vI b), (3, vI (c + 1))]) [0, 1, 2, 3] rfl ?_
          exact ih.2 t ⟨by omega, by omega⟩ b ⟨by omega, by omega⟩ (c + 1) ⟨by omega, by omega⟩ σ14 hIσ14 hFσ14 (show t = σ 91 0 from by omega) (show b ≤ t from by omega) (show b < (c + 1) from by omega) (show ∀ j : Int, b ≤ j → j ≤ t → TOK (σ 91 0) (okB σ) (σ14 102) j from (by first | exact fun j h1 h2 => TOK_up eσ14 (by omega) (fun j h1 h2 => TOK_F (fun x => hG_ 102 x _) (i2 j h1 (by omega))) (by first | exact Or.inl rfl | exact Or.inr (Or.inl rfl)) j h1 (by omega) | exact fun j h1 h2 => TOK_up eσ14 (by omega) (fun j h1 h2 => t9 j (by omega) (by omega)) (TOK_old (t9 b (by omega) (by omega)) (by omega)) j h1 (by omega) | exact fun j h1 h2 => TOK_up eσ14 (by omega) (fun j h1 h2 => t9 j (by omega) (by omega)) (TOK_new (f := c) (by omega) (by omega) g9 (by omega) (t9 c (by omega) (by omega)) (by omega)) j h1 (by omega))) (show (100 * b + 41 - (c + 1)).toNat < N_ from by omega)
        · refine j_aload_n (pc := 57) dX12_findMore_57 rfl rfl ?_
          refine j_iload_n (pc := 58) dX12_findMore_58 rfl rfl ?_
          refine j_iconst (pc := 59) dX12_findMore_59 ?_
          refine j_iadd (pc := 60) dX12_findMore_60 ?_
          refine j_iload_n (pc := 61) dX12_findMore_61 rfl rfl ?_
          refine j_iconst (pc := 62) dX12_findMore_62 ?_
          refine j_isub (pc := 63) dX12_findMore_63 ?_
          refine j_iload_n (pc := 64) dX12_findMore_64 rfl rfl ?_
          refine j_callV (pc := 65) (As := [vI (b + 1), vI (c - 1), vI b]) (st := []) (c_X12_areClear hM (b + 1) ⟨by omega, by omega⟩ (c - 1) ⟨by omega, by omega⟩ b ⟨by omega, by omega⟩ τ hIτ) mv_X12_359 rfl rfl rfl (a_88 hM) dX12_findMore_65 ⟨Nat.le_of_ble_eq_true rfl, Nat.le_of_ble_eq_true rfl⟩ ⟨Nat.le_refl _, Nat.le_refl _⟩ rfl (Nat.le_of_ble_eq_true rfl) rfl (fun z15 σ16 hz15 => ?_)
          obtain ⟨r18, rfl, hr18, hIσ16, hGσ16, q17_0⟩ := hz15
          replace q17_0 : (r18 = 1 ∧ mAC τ (b + 1) (c - 1) b) ∨ (r18 = 0 ∧ ¬ mAC τ (b + 1) (c - 1) b) := q17_0
          have hFσ16 : tw_F (fun c j => (c = 88 ∧ (j = 19 ∨ j = 23)) ∨ c = 102) σ σ16 := tw_F_tr hFτ hGσ16 (fun c j q => (show (c = 88 ∧ (j = 19 ∨ j = 23)) ∨ c = 102 from by replace q : (c = 88 ∧ (j = 19 ∨ j = 23)) := q; exact (Or.inl q)))
          refine j_st (st' := [vI r18]) rfl ?_
          refine j_ifR_eq (pc := 68) (tgt := 84) ⟨by omega, by omega⟩ dX12_findMore_68 rfl (fun h19 => ?_) (fun h19 => ?_)
          · refine j_iconst (pc := 84) dX12_findMore_84 ?_
            refine j_istore (pc := 85) (i := 4) (ls' := [(0, vR 88), (1, vI t), (2, vI b), (3, vI c), (4, vI 0)]) [1, 2, 3, 4, 0] dX12_findMore_85 (Nat.le_of_ble_eq_true rfl) rfl rfl ?_
            have t9 : ∀ j : Int, b ≤ j → j ≤ t → TOK (σ 91 0) (okB σ) (σ16 102) j := fun j h1 h2 => TOK_F (fun x => (hGσ16 102 x (show ¬ ((102 = 88 ∧ (x = 19 ∨ x = 23))) from fun h => absurd h.1 (by decide)))) (i3 j h1 h2)
            have f5 : σ16 102 b.toNat = τ 102 b.toNat := (hGσ16 102 (b.toNat) (show ¬ ((102 = 88 ∧ (b.toNat = 19 ∨ b.toNat = 23))) from fun h => absurd h.1 (by decide)))
            have f6 : σ16 102 c.toNat = τ 102 c.toNat := (hGσ16 102 (c.toNat) (show ¬ ((102 = 88 ∧ (c.toNat = 19 ∨ c.toNat = 23))) from fun h => absurd h.1 (by decide)))
            refine j_aload_n (pc := 87) dX12_findMore_87 rfl rfl ?_
            refine j_getR (pc := 88) (r := 102) fl_X12_50 dX12_findMore_88 (a_88 hM) rfl ?_
            refine j_iload_n (pc := 91) dX12_findMore_91 rfl rfl ?_
            refine j_iload (pc := 92) dX12_findMore_92 rfl ?_
            refine j_ifR_eq (pc := 94) (tgt := 136) ⟨by omega, by omega⟩ dX12_findMore_94 rfl (fun h20 => ?_) (fun h20 => by exfalso; omega)
            refine j_aload_n (pc := 136) dX12_findMore_136 rfl rfl ?_
            refine j_getR (pc := 137) (r := 102) fl_X12_50 dX12_findMore_137 (a_88 hM) rfl ?_
            refine j_iload_n (pc := 140) dX12_findMore_140 rfl rfl ?_
            refine j_iald (pc := 141) dX12_findMore_141 (a_102 hM) (by omega) (by omega) (by decide) ?_
            refine j_topV (show σ16 102 (b.toNat) = τ 102 (b.toNat) from (hGσ16 102 (b.toNat) (show ¬ ((102 = 88 ∧ (b.toNat = 19 ∨ b.toNat = 23))) from fun h => absurd h.1 (by decide)))) ?_
            have f21 : (-2147483648 : Int) ≤ τ 102 (b.toNat) ∧ τ 102 (b.toNat) ≤ 2147483647 := hIτ 102 (b.toNat)
            refine j_iast (pc := 142) dX12_findMore_142 (a_102 hM) (by omega) (by omega) (by decide) (j_nm (fun σ22 (eσ22 : σ22 = tw_up σ16 102 (b.toNat) (τ 102 (b.toNat))) => ?_))
            have hIσ22 : tw_I σ22 := tw_I_up hIσ16 eσ22 (show (-2147483648 : Int) ≤ τ 102 (b.toNat) ∧ τ 102 (b.toNat) ≤ 2147483647 from ⟨by omega, by omega⟩)
            have hFσ22 : tw_F (fun c j => (c = 88 ∧ (j = 19 ∨ j = 23)) ∨ c = 102) σ σ22 := tw_F_up hFσ16 eσ22 (show (102 = 88 ∧ (b.toNat = 19 ∨ b.toNat = 23)) ∨ 102 = 102 from (Or.inr rfl))
            refine j_iinc (pc := 143) (i := 3) (n := 1) (ls' := [(0, vR 88), (1, vI t), (2, vI b), (3, vI (c + 1))]) [1, 2, 3, 0] dX12_findMore_143 rfl (Nat.le_of_ble_eq_true rfl) rfl rfl ?_
            refine j_goto (pc := 146) (tgt := 41) dX12_findMore_146 rfl ?_
            refine j_ls (ls' := [(0, vR 88), (1, vI t), (2, vI b), (3, vI (c + 1))]) [0, 1, 2, 3] rfl ?_
            exact ih.2 t ⟨by omega, by omega⟩ b ⟨by omega, by omega⟩ (c + 1) ⟨by omega, by omega⟩ σ22 hIσ22 hFσ22 (show t = σ 91 0 from by omega) (show b ≤ t from by omega) (show b < (c + 1) from by omega) (show ∀ j : Int, b ≤ j → j ≤ t → TOK (σ 91 0) (okB σ) (σ22 102) j from (by first | exact fun j h1 h2 => TOK_up eσ22 (by omega) (fun j h1 h2 => TOK_F (fun x => hGσ16 102 x (show ¬ ((102 = 88 ∧ (x = 19 ∨ x = 23))) from fun h => absurd h.1 (by decide))) (i2 j h1 (by omega))) (by first | exact Or.inl rfl | exact Or.inr (Or.inl rfl)) j h1 (by omega) | exact fun j h1 h2 => TOK_up eσ22 (by omega) (fun j h1 h2 => t9 j (by omega) (by omega)) (TOK_old (t9 b (by omega) (by omega)) (by omega)) j h1 (by omega) | exact fun j h1 h2 => TOK_up eσ22 (by omega) (fun j h1 h2 => t9 j (by omega) (by omega)) (TOK_new (f := c) (by omega) (by omega) g9 (by omega) (t9 c (by omega) (by omega)) (by omega)) j h1 (by omega))) (show (100 * b + 41 - (c + 1)).toNat < N_ from by omega)
          · have g7 : mAC σ (b + 1) (c - 1) b := (a9 _ _ _).mp ((b01 q17_0).1 (by omega))
            have c8 : ∀ x y, mIC σ16 x y ↔ mIC σ x y := fun x y => mIC_congr (fun j => hFσ16 92 j (show ¬ ((92 = 88 ∧ (j = 19 ∨ j = 23)) ∨ 92 = 102) from fun h => h.elim (fun h => absurd h.1 (by decide)) (fun h => absurd h (by decide)))) (hFσ16 91 4 (show ¬ ((91 = 88 ∧ (4 = 19 ∨ 4 = 23)) ∨ 91 = 102) from by decide))
            refine j_aload_n (pc := 71) dX12_findMore_71 rfl rfl ?_
            refine j_iload_n (pc := 72) dX12_findMore_72 rfl rfl ?_
            refine j_iload_n (pc := 73) dX12_findMore_73 rfl rfl ?_
            refine j_callV (pc := 74) (As := [vI c, vI c]) (st := []) (c_X12_isClear hM c ⟨by omega, by omega⟩ c ⟨by omega, by omega⟩ σ16 hIσ16) mv_X12_356 rfl rfl rfl (a_88 hM) dX12_findMore_74 ⟨Nat.le_of_ble_eq_true rfl, Nat.le_of_ble_eq_true rfl⟩ ⟨Nat.le_refl _, Nat.le_refl _⟩ rfl (Nat.le_of_ble_eq_true rfl) rfl (fun z23 σ24 hz23 => ?_)
            obtain ⟨r26, rfl, hr26, hIσ24, hGσ24, q25_0⟩ := hz23
            replace q25_0 : (r26 = 1 ∧ mIC σ16 c c) ∨ (r26 = 0 ∧ ¬ mIC σ16 c c) := q25_0
            have hFσ24 : tw_F (fun c j => (c = 88 ∧ (j = 19 ∨ j = 23)) ∨ c = 102) σ σ24 := tw_F_tr hFσ16 hGσ24 (fun c j q => (show (c = 88 ∧ (j = 19 ∨ j = 23)) ∨ c = 102 from by replace q : (c = 88 ∧ (j = 19 ∨ j = 23)) := q; exact (Or.inl q)))
            refine j_st (st' := [vI r26]) rfl ?_
            refine j_ifR_eq (pc := 77) (tgt := 84) ⟨by omega, by omega⟩ dX12_findMore_77 rfl (fun h27 => ?_) (fun h27 => ?_)
            · refine j_iconst (pc := 84) dX12_findMore_84 ?_
              refine j_istore (pc := 85) (i := 4) (ls' := [(0, vR 88), (1, vI t), (2, vI b), (3, vI c), (4, vI 0)]) [1, 2, 3, 4, 0] dX12_findMore_85 (Nat.le_of_ble_eq_true rfl) rfl rfl ?_
              have t9 : ∀ j : Int, b ≤ j → j ≤ t → TOK (σ 91 0) (okB σ) (σ24 102) j := fun j h1 h2 => TOK_F (fun x => ((hGσ24 102 x (show ¬ ((102 = 88 ∧ (x = 19 ∨ x = 23))) from fun h => absurd h.1 (by decide)))).trans (hGσ16 102 x (show ¬ ((102 = 88 ∧ (x = 19 ∨ x = 23))) from fun h => absurd h.1 (by decide)))) (i3 j h1 h2)
              have f5 : σ24 102 b.toNat = τ 102 b.toNat := ((hGσ24 102 (b.toNat) (show ¬ ((102 = 88 ∧ (b.toNat = 19 ∨ b.toNat = 23))) from fun h => absurd h.1 (by decide)))).trans (hGσ16 102 (b.toNat) (show ¬ ((102 = 88 ∧ (b.toNat = 19 ∨ b.toNat = 23))) from fun h => absurd h.1 (by decide)))
              have f6 : σ24 102 c.toNat = τ 102 c.toNat := ((hGσ24 102 (c.toNat) (show ¬ ((102 = 88 ∧ (c.toNat = 19 ∨ c.toNat = 23))) from fun h => absurd h.1 (by decide)))).trans (hGσ16 102 (c.toNat) (show ¬ ((102 = 88 ∧ (c.toNat = 19 ∨ c.toNat = 23))) from fun h => absurd h.1 (by decide)))
              refine j_aload_n (pc := 87) dX12_findMore_87 rfl rfl ?_
              refine j_getR (pc := 88) (r := 102) fl_X12_50 dX12_findMore_88 (a_88 hM) rfl ?_
              refine j_iload_n (pc := 91) dX12_findMore_91 rfl rfl ?_
              refine j_iload (pc := 92) dX12_findMore_92 rfl ?_
              refine j_ifR_eq (pc := 94) (tgt := 136) ⟨by omega, by omega⟩ dX12_findMore_94 rfl (fun h28 => ?_) (fun h28 => by exfalso; omega)
              refine j_aload_n (pc := 136) dX12_findMore_136 rfl rfl ?_
              refine j_getR (pc := 137) (r := 102) fl_X12_50 dX12_findMore_137 (a_88 hM) rfl ?_
              refine j_iload_n (pc := 140) dX12_findMore_140 rfl rfl ?_
              refine j_iald (pc := 141) dX12_findMore_141 (a_102 hM) (by omega) (by omega) (by decide) ?_
              refine j_topV (show σ24 102 (b.toNat) = τ 102 (b.toNat) from ((hGσ24 102 (b.toNat) (show ¬ ((102 = 88 ∧ (b.toNat = 19 ∨ b.toNat = 23))) from fun h => absurd h.1 (by decide)))).trans (hGσ16 102 (b.toNat) (show ¬ ((102 = 88 ∧ (b.toNat = 19 ∨ b.toNat = 23))) from fun h => absurd h.1 (by decide)))) ?_
              have f29 : (-2147483648 : Int) ≤ τ 102 (b.toNat) ∧ τ 102 (b.toNat) ≤ 2147483647 := hIτ 102 (b.toNat)
              refine j_iast (pc := 142) dX12_findMore_142 (a_102 hM) (by omega) (by omega) (by decide) (j_nm (fun σ30 (eσ30 : σ30 = tw_up σ24 102 (b.toNat) (τ 102 (b.toNat))) => ?_))
              have hIσ30 : tw_I σ30 := tw_I_up hIσ24 eσ30 (show (-2147483648 : Int) ≤ τ 102 (b.toNat) ∧ τ 102 (b.toNat) ≤ 2147483647 from ⟨by omega, by omega⟩)
              have hFσ30 : tw_F (fun c j => (c = 88 ∧ (j = 19 ∨ j = 23)) ∨ c = 102) σ σ30 := tw_F_up hFσ24 eσ30 (show (102 = 88 ∧ (b.toNat = 19 ∨ b.toNat = 23)) ∨ 102 = 102 from (Or.inr rfl))
              refine j_iinc (pc := 143) (i := 3) (n := 1) (ls' := [(0, vR 88), (1, vI t), (2, vI b), (3, vI (c + 1))]) [1, 2, 3, 0] dX12_findMore_143 rfl (Nat.le_of_ble_eq_true rfl) rfl rfl ?_
              refine j_goto (pc := 146) (tgt := 41) dX12_findMore_146 rfl ?_
              refine j_ls (ls' := [(0, vR 88), (1, vI t), (2, vI b), (3, vI (c + 1))]) [0, 1, 2, 3] rfl ?_
              exact ih.2 t ⟨by omega, by omega⟩ b ⟨by omega, by omega⟩ (c + 1) ⟨by omega, by omega⟩ σ30 hIσ30 hFσ30 (show t = σ 91 0 from by omega) (show b ≤ t from by omega) (show b < (c + 1) from by omega) (show ∀ j : Int, b ≤ j → j ≤ t → TOK (σ 91 0) (okB σ) (σ30 102) j from (by first | exact fun j h1 h2 => TOK_up eσ30 (by omega) (fun j h1 h2 => TOK_F (fun x => hGσ24 102 x (show ¬ ((102 = 88 ∧ (x = 19 ∨ x = 23))) from fun h => absurd h.1 (by decide))) (i2 j h1 (by omega))) (by first | exact Or.inl rfl | exact Or.inr (Or.inl rfl)) j h1 (by omega) | exact fun j h1 h2 => TOK_up eσ30 (by omega) (fun j h1 h2 => t9 j (by omega) (by omega)) (TOK_old (t9 b (by omega) (by omega)) (by omega)) j h1 (by omega) | exact fun j h1 h2 => TOK_up eσ30 (by omega) (fun j h1 h2 => t9 j (by omega) (by omega)) (TOK_new (f := c) (by omega) (by omega) g9 (by omega) (t9 c (by omega) (by omega)) (by omega)) j h1 (by omega))) (show (100 * b + 41 - (c + 1)).toNat < N_ from by omega)
            · have g9 : okB σ b c := ⟨g7, (c8 c c).mp ((b01 q25_0).1 (by omega))⟩
              refine j_iconst (pc := 80) dX12_findMore_80 ?_
              refine j_goto (pc := 81) (tgt := 85) dX12_findMore_81 rfl ?_
              refine j_istore (pc := 85) (i := 4) (ls' := [(0, vR 88), (1, vI t), (2, vI b), (3, vI c), (4, vI 1)]) [1, 2, 3, 4, 0] dX12_findMore_85 (Nat.le_of_ble_eq_true rfl) rfl rfl ?_
              have t9 : ∀ j : Int, b ≤ j → j ≤ t → TOK (σ 91 0) (okB σ) (σ24 102) j := fun j h1 h2 => TOK_F (fun x => ((hGσ24 102 x (show ¬ ((102 = 88 ∧ (x = 19 ∨ x = 23))) from fun h => absurd h.1 (by decide)))).trans (hGσ16 102 x (show ¬ ((102 = 88 ∧ (x = 19 ∨ x = 23))) from fun h => absurd h.1 (by decide)))) (i3 j h1 h2)
              have f5 : σ24 102 b.toNat = τ 102 b.toNat := ((hGσ24 102 (b.toNat) (show ¬ ((102 = 88 ∧ (b.toNat = 19 ∨ b.toNat = 23))) from fun h => absurd h.1 (by decide)))).trans (hGσ16 102 (b.toNat) (show ¬ ((102 = 88 ∧ (b.toNat = 19 ∨ b.toNat = 23))) from fun h => absurd h.1 (by decide)))
              have f6 : σ24 102 c.toNat = τ 102 c.toNat := ((hGσ24 102 (c.toNat) (show ¬ ((102 = 88 ∧ (c.toNat = 19 ∨ c.toNat = 23))) from fun h => absurd h.1 (by decide)))).trans (hGσ16 102 (c.toNat) (show ¬ ((102 = 88 ∧ (c.toNat = 19 ∨ c.toNat = 23))) from fun h => absurd h.1 (by decide)))
              refine j_aload_n (pc := 87) dX12_findMore_87 rfl rfl ?_
              refine j_getR (pc := 88) (r := 102) fl_X12_50 dX12_findMore_88 (a_88 hM) rfl ?_
              refine j_iload_n (pc := 91) dX12_findMore_91 rfl rfl ?_
              refine j_iload (pc := 92) dX12_findMore_92 rfl ?_
              refine j_ifR_eq (pc := 94) (tgt := 136) ⟨by omega, by omega⟩ dX12_findMore_94 rfl (fun h31 => by exfalso; omega) (fun h31 => ?_)
              refine j_aload_n (pc := 97) dX12_findMore_97 rfl rfl ?_
              refine j_getR (pc := 98) (r := 102) fl_X12_50 dX12_findMore_98 (a_88 hM) rfl ?_
              refine j_iload_n (pc := 101) dX12_findMore_101 rfl rfl ?_
              refine j_iald (pc := 102) dX12_findMore_102 (a_102 hM) (by omega) (by omega) (by decide) ?_
              refine j_topV (show σ24 102 (b.toNat) = τ 102 (b.toNat) from ((hGσ24 102 (b.toNat) (show ¬ ((102 = 88 ∧ (b.toNat = 19 ∨ b.toNat = 23))) from fun h => absurd h.1 (by decide)))).trans (hGσ16 102 (b.toNat) (show ¬ ((102 = 88 ∧ (b.toNat = 19 ∨ b.toNat = 23))) from fun h => absurd h.1 (by decide)))) ?_
              have f32 : (-2147483648 : Int) ≤ τ 102 (b.toNat) ∧ τ 102 (b.toNat) ≤ 2147483647 := hIτ 102 (b.toNat)
              refine j_bipush (pc := 103) dX12_findMore_103 rfl ?_
              refine j_icmpR_eq (pc := 105) (tgt := 125) ⟨by omega, by omega⟩ ⟨by omega, by omega⟩ dX12_findMore_105 rfl (fun h33 => ?_) (fun h33 => ?_)
              · refine j_aload_n (pc := 125) dX12_findMore_125 rfl rfl ?_
                refine j_getR (pc := 126) (r := 102) fl_X12_50 dX12_findMore_126 (a_88 hM) rfl ?_
                refine j_iload_n (pc := 129) dX12_findMore_129 rfl rfl ?_
                refine j_iald (pc := 130) dX12_findMore_130 (a_102 hM) (by omega) (by omega) (by decide) ?_
                refine j_topV (show σ24 102 (c.toNat) = τ 102 (c.toNat) from ((hGσ24 102 (c.toNat) (show ¬ ((102 = 88 ∧ (c.toNat = 19 ∨ c.toNat = 23))) from fun h => absurd h.1 (by decide)))).trans (hGσ16 102 (c.toNat) (show ¬ ((102 = 88 ∧ (c.toNat = 19 ∨ c.toNat = 23))) from fun h => absurd h.1 (by decide)))) ?_
                have g34 : (0 : Int) ≤ τ 102 (c.toNat) ∧ τ 102 (c.toNat) ≤ 39 := (by have q := TOK_in (t9 c (by omega) (by omega)) (by omega) (by omega); omega)
                refine j_iconst (pc := 131) dX12_findMore_131 ?_
                refine j_iadd (pc := 132) dX12_findMore_132 ?_
                refine j_goto (pc := 133) (tgt := 142) dX12_findMore_133 rfl ?_
                refine j_iast (pc := 142) dX12_findMore_142 (a_102 hM) (by omega) (by omega) (by decide) (j_nm (fun σ35 (eσ35 : σ35 = tw_up σ24 102 (b.toNat) ((τ 102 (c.toNat)) + 1)) => ?_))
                have hIσ35 : tw_I σ35 := tw_I_up hIσ24 eσ35 (show (-2147483648 : Int) ≤ (τ 102 (c.toNat)) + 1 ∧ (τ 102 (c.toNat)) + 1 ≤ 2147483647 from ⟨by omega, by omega⟩)
                have hFσ35 : tw_F (fun c j => (c = 88 ∧ (j = 19 ∨ j = 23)) ∨ c = 102) σ σ35 := tw_F_up hFσ24 eσ35 (show (102 = 88 ∧ (b.toNat = 19 ∨ b.toNat = 23)) ∨ 102 = 102 from (Or.inr rfl))
                refine j_iinc (pc := 143) (i := 3) (n := 1) (ls' := [(0, vR 88), (1, vI t), (2, vI b), (3, vI (c + 1))]) [1, 2, 3, 0] dX12_findMore_143 rfl (Nat.le_of_ble_eq_true rfl) rfl rfl ?_
                refine j_goto (pc := 146) (tgt := 41) dX12_findMore_146 rfl ?_
                refine j_ls (ls' := [(0, vR 88), (1, vI t), (2, vI b), (3, vI (c + 1))]) [0, 1, 2, 3] rfl ?_
                exact ih.2 t ⟨by omega, by omega⟩ b ⟨by omega, by omega⟩ (c + 1) ⟨by omega, by omega⟩ σ35 hIσ35 hFσ35 (show t = σ 91 0 from by omega) (show b ≤ t from by omega) (show b < (c + 1) from by omega) (show ∀ j : Int, b ≤ j → j ≤ t → TOK (σ 91 0) (okB σ) (σ35 102) j from (by first | exact fun j h1 h2 => TOK_up eσ35 (by omega) (fun j h1 h2 => TOK_F (fun x => hGσ24 102 x (show ¬ ((102 = 88 ∧ (x = 19 ∨ x = 23))) from fun h => absurd h.1 (by decide))) (i2 j h1 (by omega))) (by first | exact Or.inl rfl | exact Or.inr (Or.inl rfl)) j h1 (by omega) | exact fun j h1 h2 => TOK_up eσ35 (by omega) (fun j h1 h2 => t9 j (by omega) (by omega)) (TOK_old (t9 b (by omega) (by omega)) (by omega)) j h1 (by omega) | exact fun j h1 h2 => TOK_up eσ35 (by omega) (fun j h1 h2 => t9 j (by omega) (by omega)) (TOK_new (f := c) (by omega) (by omega) g9 (by omega) (t9 c (by omega) (by omega)) (by omega)) j h1 (by omega))) (show (100 * b + 41 - (c + 1)).toNat < N_ from by omega)
              · refine j_aload_n (pc := 108) dX12_findMore_108 rfl rfl ?_
                refine j_getR (pc := 109) (r := 102) fl_X12_50 dX12_findMore_109 (a_88 hM) rfl ?_
                refine j_iload_n (pc := 112) dX12_findMore_112 rfl rfl ?_
                refine j_iald (pc := 113) dX12_findMore_113 (a_102 hM) (by omega) (by omega) (by decide) ?_
                refine j_topV (show σ24 102 (c.toNat) = τ 102 (c.toNat) from ((hGσ24 102 (c.toNat) (show ¬ ((102 = 88 ∧ (c.toNat = 19 ∨ c.toNat = 23))) from fun h => absurd h.1 (by decide)))).trans (hGσ16 102 (c.toNat) (show ¬ ((102 = 88 ∧ (c.toNat = 19 ∨ c.toNat = 23))) from fun h => absurd h.1 (by decide)))) ?_
                have g36 : (0 : Int) ≤ τ 102 (c.toNat) ∧ τ 102 (c.toNat) ≤ 39 := (by have q := TOK_in (t9 c (by omega) (by omega)) (by omega) (by omega); omega)
                refine j_iconst (pc := 114) dX12_findMore_114 ?_
                refine j_iadd (pc := 115) dX12_findMore_115 ?_
                refine j_aload_n (pc := 116) dX12_findMore_116 rfl rfl ?_
                refine j_getR (pc := 117) (r := 102) fl_X12_50 dX12_findMore_117 (a_88 hM) rfl ?_
                refine j_iload_n (pc := 120) dX12_findMore_120 rfl rfl ?_
                refine j_iald (pc := 121) dX12_findMore_121 (a_102 hM) (by omega) (by omega) (by decide) ?_
                refine j_topV (show σ24 102 (b.toNat) = τ 102 (b.toNat) from ((hGσ24 102 (b.toNat) (show ¬ ((102 = 88 ∧ (b.toNat = 19 ∨ b.toNat = 23))) from fun h => absurd h.1 (by decide)))).trans (hGσ16 102 (b.toNat) (show ¬ ((102 = 88 ∧ (b.toNat = 19 ∨ b.toNat = 23))) from fun h => absurd h.1 (by decide)))) ?_
                refine j_icmpR_ge (pc := 122) (tgt := 136) ⟨by omega, by omega⟩ ⟨by omega, by omega⟩ dX12_findMore_122 rfl (fun h37 => ?_) (fun h37 => ?_)
                · refine j_aload_n (pc := 136) dX12_findMore_136 rfl rfl ?_
                  refine j_getR (pc := 137) (r := 102) fl_X12_50 dX12_findMore_137 (a_88 hM) rfl ?_
                  refine j_iload_n (pc := 140) dX12_findMore_140 rfl rfl ?_
                  refine j_iald (pc := 141) dX12_findMore_141 (a_102 hM) (by omega) (by omega) (by decide) ?_
                  refine j_topV (show σ24 102 (b.toNat) = τ 102 (b.toNat) from ((hGσ24 102 (b.toNat) (show ¬ ((102 = 88 ∧ (b.toNat = 19 ∨ b.toNat = 23))) from fun h => absurd h.1 (by decide)))).trans (hGσ16 102 (b.toNat) (show ¬ ((102 = 88 ∧ (b.toNat = 19 ∨ b.toNat = 23))) from fun h => absurd h.1 (by decide)))) ?_
                  refine j_iast (pc := 142) dX12_findMore_142 (a_102 hM) (by omega) (by omega) (by decide) (j_nm (fun σ38 (eσ38 : σ38 = tw_up σ24 102 (b.toNat) (τ 102 (b.toNat))) => ?_))
                  have hIσ38 : tw_I σ38 := tw_I_up hIσ24 eσ38 (show (-2147483648 : Int) ≤ τ 102 (b.toNat) ∧ τ 102 (b.toNat) ≤ 2147483647 from ⟨by omega, by omega⟩)
                  have hFσ38 : tw_F (fun c j => (c = 88 ∧ (j = 19 ∨ j = 23)) ∨ c = 102) σ σ38 := tw_F_up hFσ24 eσ38 (show (102 = 88 ∧ (b.toNat = 19 ∨ b.toNat = 23)) ∨ 102 = 102 from (Or.inr rfl))
                  refine j_iinc (pc := 143) (i := 3) (n := 1) (ls' := [(0, vR 88), (1, vI t), (2, vI b), (3, vI (c + 1))]) [1, 2, 3, 0] dX12_findMore_143 rfl (Nat.le_of_ble_eq_true rfl) rfl rfl ?_
                  refine j_goto (pc := 146) (tgt := 41) dX12_findMore_146 rfl ?_
                  refine j_ls (ls' := [(0, vR 88), (1, vI t), (2, vI b), (3, vI (c + 1))]) [0, 1, 2, 3] rfl ?_
                  exact ih.2 t ⟨by omega, by omega⟩ b ⟨by omega, by omega⟩ (c + 1) ⟨by omega, by omega⟩ σ38 hIσ38 hFσ38 (show t = σ 91 0 from by omega) (show b ≤ t from by omega) (show b < (c + 1) from by omega) (show ∀ j : Int, b ≤ j → j ≤ t → TOK (σ 91 0) (okB σ) (σ38 102) j from (by first | exact fun j h1 h2 => TOK_up eσ38 (by omega) (fun j h1 h2 => TOK_F (fun x => hGσ24 102 x (show ¬ ((102 = 88 ∧ (x = 19 ∨ x = 23))) from fun h => absurd h.1 (by decide))) (i2 j h1 (by omega))) (by first | exact Or.inl rfl | exact Or.inr (Or.inl rfl)) j h1 (by omega) | exact fun j h1 h2 => TOK_up eσ38 (by omega) (fun j h1 h2 => t9 j (by omega) (by omega)) (TOK_old (t9 b (by omega) (by omega)) (by omega)) j h1 (by omega) | exact fun j h1 h2 => TOK_up eσ38 (by omega) (fun j h1 h2 => t9 j (by omega) (by omega)) (TOK_new (f := c) (by omega) (by omega) g9 (by omega) (t9 c (by omega) (by omega)) (by omega)) j h1 (by omega))) (show (100 * b + 41 - (c + 1)).toNat < N_ from by omega)
                · refine j_aload_n (pc := 125) dX12_findMore_125 rfl rfl ?_
                  refine j_getR (pc := 126) (r := 102) fl_X12_50 dX12_findMore_126 (a_88 hM) rfl ?_
                  refine j_iload_n (pc := 129) dX12_findMore_129 rfl rfl ?_
                  refine j_iald (pc := 130) dX12_findMore_130 (a_102 hM) (by omega) (by omega) (by decide) ?_
                  refine j_topV (show σ24 102 (c.toNat) = τ 102 (c.toNat) from ((hGσ24 102 (c.toNat) (show ¬ ((102 = 88 ∧ (c.toNat = 19 ∨ c.toNat = 23))) from fun h => absurd h.1 (by decide)))).trans (hGσ16 102 (c.toNat) (show ¬ ((102 = 88 ∧ (c.toNat = 19 ∨ c.toNat = 23))) from fun h => absurd h.1 (by decide)))) ?_
                  have g39 : (0 : Int) ≤ τ 102 (c.toNat) ∧ τ 102 (c.toNat) ≤ 39 := (by have q := TOK_in (t9 c (by omega) (by omega)) (by omega) (by omega); omega)
                  refine j_iconst (pc := 131) dX12_findMore_131 ?_
                  refine j_iadd (pc := 132) dX12_findMore_132 ?_
                  refine j_goto (pc := 133) (tgt := 142) dX12_findMore_133 rfl ?_
                  refine j_iast (pc := 142) dX12_findMore_142 (a_102 hM) (by omega) (by omega) (by decide) (j_nm (fun σ40 (eσ40 : σ40 = tw_up σ24 102 (b.toNat) ((τ 102 (c.toNat)) + 1)) => ?_))
                  have hIσ40 : tw_I σ40 := tw_I_up hIσ24 eσ40 (show (-2147483648 : Int) ≤ (τ 102 (c.toNat)) + 1 ∧ (τ 102 (c.toNat)) + 1 ≤ 2147483647 from ⟨by omega, by omega⟩)
                  have hFσ40 : tw_F (fun c j => (c = 88 ∧ (j = 19 ∨ j = 23)) ∨ c = 102) σ σ40 := tw_F_up hFσ24 eσ40 (show (102 = 88 ∧ (b.toNat = 19 ∨ b.toNat = 23)) ∨ 102 = 102 from (Or.inr rfl))
                  refine j_iinc (pc := 143) (i := 3) (n := 1) (ls' := [(0, vR 88), (1, vI t), (2, vI b), (3, vI (c + 1))]) [1, 2, 3, 0] dX12_findMore_143 rfl (Nat.le_of_ble_eq_true rfl) rfl rfl ?_
                  refine j_goto (pc := 146) (tgt := 41) dX12_findMore_146 rfl ?_
                  refine j_ls (ls' := [(0, vR 88), (1, vI t), (2, vI b), (3, vI (c + 1))]) [0, 1, 2, 3] rfl ?_
                  exact ih.2 t ⟨by omega, by omega⟩ b ⟨by omega, by omega⟩ (c + 1) ⟨by omega, by omega⟩ σ40 hIσ40 hFσ40 (show t = σ 91 0 from by omega) (show b ≤ t from by omega) (show b < (c + 1) from by omega) (show ∀ j : Int, b ≤ j → j ≤ t → TOK (σ 91 0) (okB σ) (σ40 102) j from (by first | exact fun j h1 h2 => TOK_up eσ40 (by omega) (fun j h1 h2 => TOK_F (fun x => hGσ24 102 x (show ¬ ((102 = 88 ∧ (x = 19 ∨ x = 23))) from fun h => absurd h.1 (by decide))) (i2 j h1 (by omega))) (by first | exact Or.inl rfl | exact Or.inr (Or.inl rfl)) j h1 (by omega) | exact fun j h1 h2 => TOK_up eσ40 (by omega) (fun j h1 h2 => t9 j (by omega) (by omega)) (TOK_old (t9 b (by omega) (by omega)) (by omega)) j h1 (by omega) | exact fun j h1 h2 => TOK_up eσ40 (by omega) (fun j h1 h2 => t9 j (by omega) (by omega)) (TOK_new (f := c) (by omega) (by omega) g9 (by omega) (t9 c (by omega) (by omega)) (by omega)) j h1 (by omega))) (show (100 * b + 41 - (c + 1)).toNat < N_ from by omega)
set_option maxHeartbeats 4000000 in
set_option maxRecDepth 100000 in
theorem c_X12_findMore {G : tw_G} (hM : tw_isM G) (σ : tw_M) (hI : tw_I σ) : tw_C G yX12_findMore cX12_findMore 5 none 4 [vR 88] σ (q_X12_findMore σ) := by
  refine tw_met [(0, vR 88)] (by decide +kernel) rfl (Nat.le_of_ble_eq_true rfl) ?_
  have ft : (1 : Int) ≤ σ 91 0 ∧ σ 91 0 ≤ 40 := hI 91 0
  refine j_aload_n (pc := 0) dX12_findMore_0 rfl rfl ?_
  refine j_getR (pc := 1) (r := 91) fl_X12_17 dX12_findMore_1 (a_88 hM) rfl ?_
  refine j_iconst (pc := 4) dX12_findMore_4 ?_
  refine j_iald (pc := 5) dX12_findMore_5 (a_91 hM) (by omega) (by omega) (by decide) ?_
  refine j_topV (show σ 91 (Int.toNat 0) = σ 91 0 from rfl) ?_
  have f41 : (1 : Int) ≤ σ 91 0 ∧ σ 91 0 ≤ 40 := hI 91 0
  refine j_istore_n (pc := 6) (i := 1) (ls' := [(0, vR 88), (1, vI (σ 91 0))]) [1, 0] dX12_findMore_6 rfl (Nat.le_of_ble_eq_true rfl) rfl rfl ?_
  refine j_iload_n (pc := 7) dX12_findMore_7 rfl rfl ?_
  refine j_istore_n (pc := 8) (i := 2) (ls' := [(0, vR 88), (1, vI (σ 91 0)), (2, vI (σ 91 0))]) [1, 2, 0] dX12_findMore_8 rfl (Nat.le_of_ble_eq_true rfl) rfl rfl ?_
  refine j_ls (ls' := [(0, vR 88), (1, vI (σ 91 0)), (2, vI (σ 91 0))]) [0, 1, 2] rfl ?_
  exact (l_X12_findMore hM σ hI (((100 * (σ 91 0) + 50).toNat) + 1)).1 (σ 91 0) ⟨by omega, by omega⟩ (σ 91 0) ⟨by omega, by omega⟩ σ hI (tw_F_rf) (show (σ 91 0) = σ 91 0 from by omega) (show (σ 91 0) ≤ (σ 91 0) from by omega) (show ∀ j : Int, (σ 91 0) < j → j ≤ (σ 91 0) → TOK (σ 91 0) (okB σ) (σ 102) j from (fun j h1 h2 => by exfalso; omega)) (Nat.lt_succ_self _)
