/-! 21an.main -/
theorem dX11_odds_0 : decode cX11_odds 0 = .ok (.aload_n 0, 1) := by decide +kernel
theorem dX11_odds_1 : decode cX11_odds 1 = .ok (.iload_n 1, 1) := by decide +kernel
theorem dX11_odds_2 : decode cX11_odds 2 = .ok (.iload_n 2, 1) := by decide +kernel
theorem dX11_odds_3 : decode cX11_odds 3 = .ok (.invokevirtual 375, 3) := by decide +kernel
theorem dX11_odds_6 : decode cX11_odds 6 = .ok (.ifCond .eq 22, 3) := by decide +kernel
theorem dX11_odds_9 : decode cX11_odds 9 = .ok (.aload_n 0, 1) := by decide +kernel
theorem dX11_odds_10 : decode cX11_odds 10 = .ok (.getfield 10, 3) := by decide +kernel
theorem dX11_odds_13 : decode cX11_odds 13 = .ok (.iload_n 3, 1) := by decide +kernel
theorem dX11_odds_14 : decode cX11_odds 14 = .ok (.invokevirtual 149, 3) := by decide +kernel
theorem dX11_odds_17 : decode cX11_odds 17 = .ok (.ifCond .eq 11, 3) := by decide +kernel
theorem dX11_odds_20 : decode cX11_odds 20 = .ok (.iload 4, 2) := by decide +kernel
theorem dX11_odds_22 : decode cX11_odds 22 = .ok (.invokestatic 242, 3) := by decide +kernel
theorem dX11_odds_25 : decode cX11_odds 25 = .ok (.ifCond .ne 7, 3) := by decide +kernel
theorem dX11_odds_28 : decode cX11_odds 28 = .ok (.ldc2_w 245, 3) := by decide +kernel
theorem dX11_odds_31 : decode cX11_odds 31 = .ok (.lreturn, 1) := by decide +kernel
theorem dX11_odds_32 : decode cX11_odds 32 = .ok (.lconst 0, 1) := by decide +kernel
theorem dX11_odds_33 : decode cX11_odds 33 = .ok (.lstore 5, 2) := by decide +kernel
theorem dX11_odds_35 : decode cX11_odds 35 = .ok (.lconst 0, 1) := by decide +kernel
theorem dX11_odds_36 : decode cX11_odds 36 = .ok (.lstore 7, 2) := by decide +kernel
theorem dX11_odds_38 : decode cX11_odds 38 = .ok (.iconst 1, 1) := by decide +kernel
theorem dX11_odds_39 : decode cX11_odds 39 = .ok (.istore 9, 2) := by decide +kernel
theorem dX11_odds_41 : decode cX11_odds 41 = .ok (.iload 9, 2) := by decide +kernel
theorem dX11_odds_43 : decode cX11_odds 43 = .ok (.aload_n 0, 1) := by decide +kernel
theorem dX11_odds_44 : decode cX11_odds 44 = .ok (.getfield 10, 3) := by decide +kernel
theorem dX11_odds_47 : decode cX11_odds 47 = .ok (.invokevirtual 327, 3) := by decide +kernel
theorem dX11_odds_50 : decode cX11_odds 50 = .ok (.if_icmp .gt 43, 3) := by decide +kernel
theorem dX11_odds_53 : decode cX11_odds 53 = .ok (.aload_n 0, 1) := by decide +kernel
theorem dX11_odds_54 : decode cX11_odds 54 = .ok (.getfield 58, 3) := by decide +kernel
theorem dX11_odds_57 : decode cX11_odds 57 = .ok (.aload_n 0, 1) := by decide +kernel
theorem dX11_odds_58 : decode cX11_odds 58 = .ok (.getfield 26, 3) := by decide +kernel
theorem dX11_odds_61 : decode cX11_odds 61 = .ok (.iload 9, 2) := by decide +kernel
theorem dX11_odds_63 : decode cX11_odds 63 = .ok (.iload_n 1, 1) := by decide +kernel
theorem dX11_odds_64 : decode cX11_odds 64 = .ok (.iload_n 2, 1) := by decide +kernel
theorem dX11_odds_65 : decode cX11_odds 65 = .ok (.invokevirtual 382, 3) := by decide +kernel
theorem dX11_odds_68 : decode cX11_odds 68 = .ok (.lstore 10, 2) := by decide +kernel
theorem dX11_odds_70 : decode cX11_odds 70 = .ok (.lload 5, 2) := by decide +kernel
theorem dX11_odds_72 : decode cX11_odds 72 = .ok (.lload 10, 2) := by decide +kernel
theorem dX11_odds_74 : decode cX11_odds 74 = .ok (.ladd, 1) := by decide +kernel
theorem dX11_odds_75 : decode cX11_odds 75 = .ok (.lstore 5, 2) := by decide +kernel
theorem dX11_odds_77 : decode cX11_odds 77 = .ok (.iload 9, 2) := by decide +kernel
theorem dX11_odds_79 : decode cX11_odds 79 = .ok (.iload_n 3, 1) := by decide +kernel
theorem dX11_odds_80 : decode cX11_odds 80 = .ok (.if_icmp .ne 7, 3) := by decide +kernel
theorem dX11_odds_83 : decode cX11_odds 83 = .ok (.lload 10, 2) := by decide +kernel
theorem dX11_odds_85 : decode cX11_odds 85 = .ok (.lstore 7, 2) := by decide +kernel
theorem dX11_odds_87 : decode cX11_odds 87 = .ok (.iinc 9 1, 3) := by decide +kernel
theorem dX11_odds_90 : decode cX11_odds 90 = .ok (.goto (-49), 3) := by decide +kernel
theorem dX11_odds_93 : decode cX11_odds 93 = .ok (.lload 5, 2) := by decide +kernel
theorem dX11_odds_95 : decode cX11_odds 95 = .ok (.lconst 0, 1) := by decide +kernel
theorem dX11_odds_96 : decode cX11_odds 96 = .ok (.lcmp, 1) := by decide +kernel
theorem dX11_odds_97 : decode cX11_odds 97 = .ok (.ifCond .ne 7, 3) := by decide +kernel
theorem dX11_odds_100 : decode cX11_odds 100 = .ok (.ldc2_w 386, 3) := by decide +kernel
theorem dX11_odds_103 : decode cX11_odds 103 = .ok (.lreturn, 1) := by decide +kernel
theorem dX11_odds_104 : decode cX11_odds 104 = .ok (.aload_n 0, 1) := by decide +kernel
theorem dX11_odds_105 : decode cX11_odds 105 = .ok (.getfield 58, 3) := by decide +kernel
theorem dX11_odds_108 : decode cX11_odds 108 = .ok (.lload 7, 2) := by decide +kernel
theorem dX11_odds_110 : decode cX11_odds 110 = .ok (.lload 5, 2) := by decide +kernel
theorem dX11_odds_112 : decode cX11_odds 112 = .ok (.invokevirtual 368, 3) := by decide +kernel
theorem dX11_odds_115 : decode cX11_odds 115 = .ok (.aload_n 0, 1) := by decide +kernel
theorem dX11_odds_116 : decode cX11_odds 116 = .ok (.getfield 58, 3) := by decide +kernel
theorem dX11_odds_119 : decode cX11_odds 119 = .ok (.iload 4, 2) := by decide +kernel
theorem dX11_odds_121 : decode cX11_odds 121 = .ok (.invokevirtual 251, 3) := by decide +kernel
theorem dX11_odds_124 : decode cX11_odds 124 = .ok (.lreturn, 1) := by decide +kernel
abbrev q_X11_odds (p : Int) (q : Int) (h : Int) (w : Int) (σ : tw_M) : Option tw_V → tw_M → Prop := fun z τ => ∃ r : Int, z = some (vL r) ∧ (-9223372036854775808 ≤ r ∧ r ≤ 9223372036854775807) ∧ tw_I τ ∧ tw_F (fun c j => (c = 58 ∧ (j = 2 ∨ j = 3)) ∨ c = 59) σ τ ∧ True
set_option maxHeartbeats 4000000 in
set_option maxRecDepth 100000 in
theorem l_X11_odds {G : tw_G} (hX : tw_isX G) (p : Int) (hp : -2147483648 ≤ p ∧ p ≤ 2147483647) (q : Int) (hq : -2147483648 ≤ q ∧ q ≤ 2147483647) (h : Int) (hh : -2147483648 ≤ h ∧ h ≤ 2147483647) (w : Int) (hw : -2147483648 ≤ w ∧ w ≤ 2147483647) (σ : tw_M) (hI : tw_I σ) : ∀ N_ : Nat, (∀ (a : Int) (ha : -9223372036854775808 ≤ a ∧ a ≤ 9223372036854775807) (b : Int) (hb : -9223372036854775808 ≤ b ∧ b ≤ 9223372036854775807) (f : Int) (hf : 1 ≤ f ∧ f ≤ 41) (τ : tw_M) (hIτ : tw_I τ) (hFτ : tw_F (fun c j => (c = 58 ∧ (j = 2 ∨ j = 3)) ∨ c = 59) σ τ)  (hm : (41 - f).toNat < N_), tw_J G (tw_mt RX11 cX11_odds 12 (some .long) 3) (tw_E G (q_X11_odds p q h w σ)) 41 [(0, vR 0), (1, vI p), (2, vI q), (3, vI h), (4, vI w), (5, vL a), (7, vL b), (9, vI f)] [] τ) := by
  intro N_
  induction N_ with
  | zero => exact fun a ha b hb f hf τ hIτ hFτ hm => absurd hm (Nat.not_lt_zero _)
  | succ N_ ih =>
    intro a ha b hb f hf τ hIτ hFτ hm
    refine j_iload (pc := 41) dX11_odds_41 rfl ?_
    refine j_aload_n (pc := 43) dX11_odds_43 rfl rfl ?_
    refine j_getR (pc := 44) (r := 1) fl_X11_10 dX11_odds_44 (a_0 hX) rfl ?_
    refine j_callV (pc := 47) (As := []) (st := [vI f]) (c_X10_top 1 (s_Wall_1 hX) τ hIτ) mv_X11_327 rfl rfl rfl (a_1 hX) dX11_odds_47 ⟨Nat.le_of_ble_eq_true rfl, Nat.le_of_ble_eq_true rfl⟩ ⟨Nat.le_refl _, Nat.le_refl _⟩ rfl (Nat.le_of_ble_eq_true rfl) rfl (fun z1 σ2 hz1 => ?_)
    obtain ⟨r4, rfl, hr4, rfl, q3_0⟩ := hz1
    replace q3_0 : r4 = τ 2 0 := q3_0
    refine j_st (st' := [vI r4, vI f]) rfl ?_
    refine j_icmpR_gt (pc := 50) (tgt := 93) ⟨by omega, by omega⟩ ⟨by omega, by omega⟩ dX11_odds_50 rfl (fun h5 => ?_) (fun h5 => ?_)
    · refine j_lload (pc := 93) dX11_odds_93 rfl ?_
      refine j_lconst (pc := 95) (z := 0) dX11_odds_95 rfl ?_
      refine j_lcmp (pc := 96) dX11_odds_96 (fun z6 ez6 => ?_)
      have hz6 : (z6 = 1 ∧ 0 < a) ∨ (z6 = 0 ∧ a = 0) ∨ (z6 = -1 ∧ a < 0) := by rw [ez6]; exact tw_cmp_eq ⟨by omega, by omega⟩ ⟨by omega, by omega⟩
      refine j_ifR_ne (pc := 97) (tgt := 104) ⟨by omega, by omega⟩ dX11_odds_97 rfl (fun h7 => ?_) (fun h7 => ?_)
      · refine j_aload_n (pc := 104) dX11_odds_104 rfl rfl ?_
        refine j_getR (pc := 105) (r := 58) fl_X11_58 dX11_odds_105 (a_0 hX) rfl ?_
        refine j_lload (pc := 108) dX11_odds_108 rfl ?_
        refine j_lload (pc := 110) dX11_odds_110 rfl ?_
        refine j_callV (pc := 112) (As := [vL b, vL a]) (st := []) (c_X1_fraction hX b ⟨by omega, by omega⟩ a ⟨by omega, by omega⟩ τ hIτ) mv_X11_368 rfl rfl rfl (a_58 hX) dX11_odds_112 ⟨Nat.le_of_ble_eq_true rfl, Nat.le_of_ble_eq_true rfl⟩ ⟨Nat.le_refl _, Nat.le_refl _⟩ rfl (Nat.le_of_ble_eq_true rfl) rfl (fun z8 σ9 hz8 => ?_)
        obtain ⟨rfl, hIσ9, hGσ9, q10_0, q10_1⟩ := hz8
        replace q10_0 : σ9 58 2 = euA b (eu 1000 a b) := q10_0
        replace q10_1 : σ9 58 3 = euB a (eu 1000 a b) := q10_1
        have hFσ9 : tw_F (fun c j => (c = 58 ∧ (j = 2 ∨ j = 3)) ∨ c = 59) σ σ9 := tw_F_tr hFτ hGσ9 (fun c j q => (show (c = 58 ∧ (j = 2 ∨ j = 3)) ∨ c = 59 from by replace q : (c = 58 ∧ (j = 2 ∨ j = 3)) := q; exact (Or.inl q)))
        refine j_st (st' := []) rfl ?_
        refine j_aload_n (pc := 115) dX11_odds_115 rfl rfl ?_
        refine j_getR (pc := 116) (r := 58) fl_X11_58 dX11_odds_116 (a_0 hX) rfl ?_
        refine j_iload (pc := 119) dX11_odds_119 rfl ?_
        refine j_callV (pc := 121) (As := [vI w]) (st := []) (c_X1_part hX w ⟨by omega, by omega⟩ σ9 hIσ9) mv_X11_251 rfl rfl rfl (a_58 hX) dX11_odds_121 ⟨Nat.le_of_ble_eq_true rfl, Nat.le_of_ble_eq_true rfl⟩ ⟨Nat.le_refl _, Nat.le_refl _⟩ rfl (Nat.le_of_ble_eq_true rfl) rfl (fun z12 σ13 hz12 => ?_)
        obtain ⟨r15, rfl, hr15, rfl, q14_0⟩ := hz12
        replace q14_0 : (w = 0 ∧ r15 = σ9 58 2) ∨ (¬ w = 0 ∧ r15 = σ9 58 3) := q14_0
        refine j_st (st' := [vL r15]) rfl ?_
        exact j_lret (pc := 124) ⟨rfl, rfl⟩ dX11_odds_124 rfl ⟨_, rfl, ⟨by omega, by omega⟩, hIσ9, hFσ9, trivial⟩
      · refine j_ldc2 (pc := 100) (z := -4) dX11_odds_100 (tw_inc tm_5 (i := 133) rfl rfl) ?_
        exact j_lret (pc := 103) ⟨rfl, rfl⟩ dX11_odds_103 rfl ⟨_, rfl, ⟨by omega, by omega⟩, hIτ, hFτ, trivial⟩
    · refine j_aload_n (pc := 53) dX11_odds_53 rfl rfl ?_
      refine j_getR (pc := 54) (r := 58) fl_X11_58 dX11_odds_54 (a_0 hX) rfl ?_
      refine j_aload_n (pc := 57) dX11_odds_57 rfl rfl ?_
      refine j_getR (pc := 58) (r := 23) fl_X11_26 dX11_odds_58 (a_0 hX) rfl ?_
      refine j_iload (pc := 61) dX11_odds_61 rfl ?_
      refine j_iload_n (pc := 63) dX11_odds_63 rfl rfl ?_
      refine j_iload_n (pc := 64) dX11_odds_64 rfl rfl ?_
      refine j_callV (pc := 65) (As := [vR 23, vI f, vI p, vI q]) (st := []) (c_X1_ofStory hX 23 (s_Hand_23 hX) f ⟨by omega, by omega⟩ p ⟨by omega, by omega⟩ q ⟨by omega, by omega⟩ τ hIτ (by omega)) mv_X11_382 rfl rfl rfl (a_58 hX) dX11_odds_65 ⟨Nat.le_of_ble_eq_true rfl, Nat.le_of_ble_eq_true rfl⟩ ⟨Nat.le_refl _, Nat.le_refl _⟩ rfl (Nat.le_of_ble_eq_true rfl) rfl (fun z16 σ17 hz16 => ?_)
      obtain ⟨r19, rfl, hr19, hIσ17, hGσ17, -⟩ := hz16
      have hFσ17 : tw_F (fun c j => (c = 58 ∧ (j = 2 ∨ j = 3)) ∨ c = 59) σ σ17 := tw_F_tr hFτ hGσ17 (fun c j q => (show (c = 58 ∧ (j = 2 ∨ j = 3)) ∨ c = 59 from by replace q : c = 59 := q; exact (Or.inr q)))
      refine j_st (st' := [vL r19]) rfl ?_
      refine j_lstore (pc := 68) (i := 10) (ls' := [(0, vR 0), (1, vI p), (2, vI q), (3, vI h), (4, vI w), (5, vL a), (7, vL b), (9, vI f), (10, vL r19)]) [1, 2, 3, 4, 5, 6, 7, 8, 0] dX11_odds_68 (Nat.le_of_ble_eq_true rfl) rfl rfl ?_
      refine j_lload (pc := 70) dX11_odds_70 rfl ?_
      refine j_lload (pc := 72) dX11_odds_72 rfl ?_
      refine j_ladd (pc := 74) dX11_odds_74 ?_
      refine j_topL (fun z20 ez20 hz20 => ?_)
      refine j_lstore (pc := 75) (i := 5) (ls' := [(0, vR 0), (1, vI p), (2, vI q), (3, vI h), (4, vI w), (5, vL z20), (7, vL b), (9, vI f), (10, vL r19)]) [1, 2, 3, 4, 5, 0, 6, 7, 8] dX11_odds_75 (Nat.le_of_ble_eq_true rfl) rfl rfl ?_
      refine j_iload (pc := 77) dX11_odds_77 rfl ?_
      refine j_iload_n (pc := 79) dX11_odds_79 rfl rfl ?_
      refine j_icmpR_ne (pc := 80) (tgt := 87) ⟨by omega, by omega⟩ ⟨by omega, by omega⟩ dX11_odds_80 rfl (fun h21 => ?_) (fun h21 => ?_)
      · refine j_iinc (pc := 87) (i := 9) (n := 1) (ls' := [(0, vR 0), (1, vI p), (2, vI q), (3, vI h), (4, vI w), (5, vL z20), (7, vL b), (9, vI (f + 1))]) [1, 2, 3, 4, 5, 6, 7, 0] dX11_odds_87 rfl (Nat.le_of_ble_eq_true rfl) rfl rfl ?_
        refine j_goto (pc := 90) (tgt := 41) dX11_odds_90 rfl ?_
        refine j_ls (ls' := [(0, vR 0), (1, vI p), (2, vI q), (3, vI h), (4, vI w), (5, vL z20), (7, vL b), (9, vI (f + 1))]) [0, 1, 2, 3, 4, 5, 6, 7] rfl ?_
        exact ih z20 ⟨by omega, by omega⟩ b ⟨by omega, by omega⟩ (f + 1) ⟨by omega, by omega⟩ σ17 hIσ17 hFσ17 (show (41 - (f + 1)).toNat < N_ from by omega)
      · refine j_lload (pc := 83) dX11_odds_83 rfl ?_
        refine j_lstore (pc := 85) (i := 7) (ls' := [(0, vR 0), (1, vI p), (2, vI q), (3, vI h), (4, vI w), (5, vL z20), (7, vL r19), (9, vI f)]) [1, 2, 3, 4, 5, 6, 0, 7] dX11_odds_85 (Nat.le_of_ble_eq_true rfl) rfl rfl ?_
        refine j_iinc (pc := 87) (i := 9) (n := 1) (ls' := [(0, vR 0), (1, vI p), (2, vI q), (3, vI h), (4, vI w), (5, vL z20), (7, vL r19), (9, vI (f + 1))]) [1, 2, 3, 4, 5, 6, 7, 0] dX11_odds_87 rfl (Nat.le_of_ble_eq_true rfl) rfl rfl ?_
        refine j_goto (pc := 90) (tgt := 41) dX11_odds_90 rfl ?_
        refine j_ls (ls' := [(0, vR 0), (1, vI p), (2, vI q), (3, vI h), (4, vI w), (5, vL z20), (7, vL r19), (9, vI (f + 1))]) [0, 1, 2, 3, 4, 5, 6, 7] rfl ?_
        exact ih z20 ⟨by omega, by omega⟩ r19 ⟨by omega, by omega⟩ (f + 1) ⟨by omega, by omega⟩ σ17 hIσ17 hFσ17 (show (41 - (f + 1)).toNat < N_ from by omega)
set_option maxHeartbeats 4000000 in
set_option maxRecDepth 100000 in
theorem c_X11_odds {G : tw_G} (hX : tw_isX G) (p : Int) (hp : -2147483648 ≤ p ∧ p ≤ 2147483647) (q : Int) (hq : -2147483648 ≤ q ∧ q ≤ 2147483647) (h : Int) (hh : -2147483648 ≤ h ∧ h ≤ 2147483647) (w : Int) (hw : -2147483648 ≤ w ∧ w ≤ 2147483647) (σ : tw_M) (hI : tw_I σ) : tw_C G yX11_odds cX11_odds 12 (some .long) 3 [vR 0, vI p, vI q, vI h, vI w] σ (q_X11_odds p q h w σ) := by
  refine tw_met [(0, vR 0), (1, vI p), (2, vI q), (3, vI h), (4, vI w)] (by decide +kernel) rfl (Nat.le_of_ble_eq_true rfl) ?_
  refine j_aload_n (pc := 0) dX11_odds_0 rfl rfl ?_
  refine j_iload_n (pc := 1) dX11_odds_1 rfl rfl ?_
  refine j_iload_n (pc := 2) dX11_odds_2 rfl rfl ?_
  refine j_callV (pc := 3) (As := [vI p, vI q]) (st := []) (c_X11_isStory hX p ⟨by omega, by omega⟩ q ⟨by omega, by omega⟩ σ hI) mv_X11_375 rfl rfl rfl (a_0 hX) dX11_odds_3 ⟨Nat.le_of_ble_eq_true rfl, Nat.le_of_ble_eq_true rfl⟩ ⟨Nat.le_refl _, Nat.le_refl _⟩ rfl (Nat.le_of_ble_eq_true rfl) rfl (fun z22 σ23 hz22 => ?_)
  obtain ⟨r25, rfl, hr25, rfl, -⟩ := hz22
  refine j_st (st' := [vI r25]) rfl ?_
  refine j_ifR_eq (pc := 6) (tgt := 28) ⟨by omega, by omega⟩ dX11_odds_6 rfl (fun h26 => ?_) (fun h26 => ?_)
  · refine j_ldc2 (pc := 28) (z := -1) dX11_odds_28 (tw_inc tm_4 (i := 96) rfl rfl) ?_
    exact j_lret (pc := 31) ⟨rfl, rfl⟩ dX11_odds_31 rfl ⟨_, rfl, ⟨by omega, by omega⟩, hI, (tw_F_rf), trivial⟩
  · refine j_aload_n (pc := 9) dX11_odds_9 rfl rfl ?_
    refine j_getR (pc := 10) (r := 1) fl_X11_10 dX11_odds_10 (a_0 hX) rfl ?_
    refine j_iload_n (pc := 13) dX11_odds_13 rfl rfl ?_
    refine j_callV (pc := 14) (As := [vI h]) (st := []) (c_X10_isFoot 1 (s_Wall_1 hX) h ⟨by omega, by omega⟩ σ hI) mv_X11_149 rfl rfl rfl (a_1 hX) dX11_odds_14 ⟨Nat.le_of_ble_eq_true rfl, Nat.le_of_ble_eq_true rfl⟩ ⟨Nat.le_refl _, Nat.le_refl _⟩ rfl (Nat.le_of_ble_eq_true rfl) rfl (fun z27 σ28 hz27 => ?_)
    obtain ⟨r30, rfl, hr30, rfl, q29_0⟩ := hz27
    replace q29_0 : (r30 = 1 ∧ 1 ≤ h ∧ h ≤ σ 2 0 ∧ h ≤ 40) ∨ (r30 = 0 ∧ ¬ (1 ≤ h ∧ h ≤ σ 2 0)) := q29_0
    refine j_st (st' := [vI r30]) rfl ?_
    refine j_ifR_eq (pc := 17) (tgt := 28) ⟨by omega, by omega⟩ dX11_odds_17 rfl (fun h31 => ?_) (fun h31 => ?_)
    · refine j_ldc2 (pc := 28) (z := -1) dX11_odds_28 (tw_inc tm_4 (i := 96) rfl rfl) ?_
      exact j_lret (pc := 31) ⟨rfl, rfl⟩ dX11_odds_31 rfl ⟨_, rfl, ⟨by omega, by omega⟩, hI, (tw_F_rf), trivial⟩
    · refine j_iload (pc := 20) dX11_odds_20 rfl ?_
      refine j_callS (pc := 22) (As := [vI w]) (st := []) (c_X11_isPart w ⟨by omega, by omega⟩ σ hI) ms_X11_242 rfl dX11_odds_22 ⟨Nat.le_of_ble_eq_true rfl, Nat.le_of_ble_eq_true rfl⟩ ⟨Nat.le_refl _, Nat.le_refl _⟩ rfl (Nat.le_of_ble_eq_true rfl) rfl (fun z32 σ33 hz32 => ?_)
      obtain ⟨r35, rfl, hr35, rfl, q34_0⟩ := hz32
      replace q34_0 : (r35 = 1 ∧ (w = 0 ∨ w = 1)) ∨ (r35 = 0 ∧ ¬ w = 0 ∧ ¬ w = 1) := q34_0
      refine j_st (st' := [vI r35]) rfl ?_
      refine j_ifR_ne (pc := 25) (tgt := 32) ⟨by omega, by omega⟩ dX11_odds_25 rfl (fun h36 => ?_) (fun h36 => ?_)
      · refine j_lconst (pc := 32) (z := 0) dX11_odds_32 rfl ?_
        refine j_lstore (pc := 33) (i := 5) (ls' := [(0, vR 0), (1, vI p), (2, vI q), (3, vI h), (4, vI w), (5, vL 0)]) [1, 2, 3, 4, 5, 0] dX11_odds_33 (Nat.le_of_ble_eq_true rfl) rfl rfl ?_
        refine j_lconst (pc := 35) (z := 0) dX11_odds_35 rfl ?_
        refine j_lstore (pc := 36) (i := 7) (ls' := [(0, vR 0), (1, vI p), (2, vI q), (3, vI h), (4, vI w), (5, vL 0), (7, vL 0)]) [1, 2, 3, 4, 5, 6, 0] dX11_odds_36 (Nat.le_of_ble_eq_true rfl) rfl rfl ?_
        refine j_iconst (pc := 38) dX11_odds_38 ?_
        refine j_istore (pc := 39) (i := 9) (ls' := [(0, vR 0), (1, vI p), (2, vI q), (3, vI h), (4, vI w), (5, vL 0), (7, vL 0), (9, vI 1)]) [1, 2, 3, 4, 5, 6, 7, 0] dX11_odds_39 (Nat.le_of_ble_eq_true rfl) rfl rfl ?_
        refine j_ls (ls' := [(0, vR 0), (1, vI p), (2, vI q), (3, vI h), (4, vI w), (5, vL 0), (7, vL 0), (9, vI 1)]) [0, 1, 2, 3, 4, 5, 6, 7] rfl ?_
        exact (l_X11_odds hX p hp q hq h hh w hw σ hI (((41 - (1 : Int)).toNat) + 1)) 0 (by (first | decide | exact ⟨by omega, by omega⟩)) 0 (by (first | decide | exact ⟨by omega, by omega⟩)) 1 (by (first | decide | exact ⟨by omega, by omega⟩)) σ hI (tw_F_rf) (Nat.lt_succ_self _)
      · refine j_ldc2 (pc := 28) (z := -1) dX11_odds_28 (tw_inc tm_4 (i := 96) rfl rfl) ?_
        exact j_lret (pc := 31) ⟨rfl, rfl⟩ dX11_odds_31 rfl ⟨_, rfl, ⟨by omega, by omega⟩, hI, (tw_F_rf), trivial⟩
