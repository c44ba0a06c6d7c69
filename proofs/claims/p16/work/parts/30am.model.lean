/-! 30am.model -/
theorem dX12_odds_0 : decode cX12_odds 0 = .ok (.aload_n 0, 1) := by decide +kernel
theorem dX12_odds_1 : decode cX12_odds 1 = .ok (.iload_n 1, 1) := by decide +kernel
theorem dX12_odds_2 : decode cX12_odds 2 = .ok (.iload_n 2, 1) := by decide +kernel
theorem dX12_odds_3 : decode cX12_odds 3 = .ok (.invokevirtual 346, 3) := by decide +kernel
theorem dX12_odds_6 : decode cX12_odds 6 = .ok (.ifCond .eq 22, 3) := by decide +kernel
theorem dX12_odds_9 : decode cX12_odds 9 = .ok (.aload_n 0, 1) := by decide +kernel
theorem dX12_odds_10 : decode cX12_odds 10 = .ok (.iload_n 3, 1) := by decide +kernel
theorem dX12_odds_11 : decode cX12_odds 11 = .ok (.invokevirtual 175, 3) := by decide +kernel
theorem dX12_odds_14 : decode cX12_odds 14 = .ok (.ifCond .eq 14, 3) := by decide +kernel
theorem dX12_odds_17 : decode cX12_odds 17 = .ok (.iload 4, 2) := by decide +kernel
theorem dX12_odds_19 : decode cX12_odds 19 = .ok (.i2l, 1) := by decide +kernel
theorem dX12_odds_20 : decode cX12_odds 20 = .ok (.lconst 0, 1) := by decide +kernel
theorem dX12_odds_21 : decode cX12_odds 21 = .ok (.lconst 1, 1) := by decide +kernel
theorem dX12_odds_22 : decode cX12_odds 22 = .ok (.invokestatic 82, 3) := by decide +kernel
theorem dX12_odds_25 : decode cX12_odds 25 = .ok (.ifCond .ne 7, 3) := by decide +kernel
theorem dX12_odds_28 : decode cX12_odds 28 = .ok (.ldc2_w 257, 3) := by decide +kernel
theorem dX12_odds_31 : decode cX12_odds 31 = .ok (.lreturn, 1) := by decide +kernel
theorem dX12_odds_32 : decode cX12_odds 32 = .ok (.lconst 0, 1) := by decide +kernel
theorem dX12_odds_33 : decode cX12_odds 33 = .ok (.lstore 5, 2) := by decide +kernel
theorem dX12_odds_35 : decode cX12_odds 35 = .ok (.lconst 0, 1) := by decide +kernel
theorem dX12_odds_36 : decode cX12_odds 36 = .ok (.lstore 7, 2) := by decide +kernel
theorem dX12_odds_38 : decode cX12_odds 38 = .ok (.iconst 1, 1) := by decide +kernel
theorem dX12_odds_39 : decode cX12_odds 39 = .ok (.istore 9, 2) := by decide +kernel
theorem dX12_odds_41 : decode cX12_odds 41 = .ok (.iload 9, 2) := by decide +kernel
theorem dX12_odds_43 : decode cX12_odds 43 = .ok (.aload_n 0, 1) := by decide +kernel
theorem dX12_odds_44 : decode cX12_odds 44 = .ok (.getfield 17, 3) := by decide +kernel
theorem dX12_odds_47 : decode cX12_odds 47 = .ok (.iconst 0, 1) := by decide +kernel
theorem dX12_odds_48 : decode cX12_odds 48 = .ok (.iaload, 1) := by decide +kernel
theorem dX12_odds_49 : decode cX12_odds 49 = .ok (.if_icmp .gt 41, 3) := by decide +kernel
theorem dX12_odds_52 : decode cX12_odds 52 = .ok (.aload_n 0, 1) := by decide +kernel
theorem dX12_odds_53 : decode cX12_odds 53 = .ok (.iload_n 1, 1) := by decide +kernel
theorem dX12_odds_54 : decode cX12_odds 54 = .ok (.iload_n 2, 1) := by decide +kernel
theorem dX12_odds_55 : decode cX12_odds 55 = .ok (.iload 9, 2) := by decide +kernel
theorem dX12_odds_57 : decode cX12_odds 57 = .ok (.invokevirtual 350, 3) := by decide +kernel
theorem dX12_odds_60 : decode cX12_odds 60 = .ok (.lstore 10, 2) := by decide +kernel
theorem dX12_odds_62 : decode cX12_odds 62 = .ok (.lload 5, 2) := by decide +kernel
theorem dX12_odds_64 : decode cX12_odds 64 = .ok (.lload 10, 2) := by decide +kernel
theorem dX12_odds_66 : decode cX12_odds 66 = .ok (.ladd, 1) := by decide +kernel
theorem dX12_odds_67 : decode cX12_odds 67 = .ok (.lstore 5, 2) := by decide +kernel
theorem dX12_odds_69 : decode cX12_odds 69 = .ok (.iload 9, 2) := by decide +kernel
theorem dX12_odds_71 : decode cX12_odds 71 = .ok (.iload_n 3, 1) := by decide +kernel
theorem dX12_odds_72 : decode cX12_odds 72 = .ok (.if_icmp .ne 8, 3) := by decide +kernel
theorem dX12_odds_75 : decode cX12_odds 75 = .ok (.lload 10, 2) := by decide +kernel
theorem dX12_odds_77 : decode cX12_odds 77 = .ok (.goto 5, 3) := by decide +kernel
theorem dX12_odds_80 : decode cX12_odds 80 = .ok (.lload 7, 2) := by decide +kernel
theorem dX12_odds_82 : decode cX12_odds 82 = .ok (.lstore 7, 2) := by decide +kernel
theorem dX12_odds_84 : decode cX12_odds 84 = .ok (.iinc 9 1, 3) := by decide +kernel
theorem dX12_odds_87 : decode cX12_odds 87 = .ok (.goto (-46), 3) := by decide +kernel
theorem dX12_odds_90 : decode cX12_odds 90 = .ok (.lload 5, 2) := by decide +kernel
theorem dX12_odds_92 : decode cX12_odds 92 = .ok (.lconst 0, 1) := by decide +kernel
theorem dX12_odds_93 : decode cX12_odds 93 = .ok (.lcmp, 1) := by decide +kernel
theorem dX12_odds_94 : decode cX12_odds 94 = .ok (.ifCond .ne 9, 3) := by decide +kernel
theorem dX12_odds_97 : decode cX12_odds 97 = .ok (.ldc2_w 354, 3) := by decide +kernel
theorem dX12_odds_100 : decode cX12_odds 100 = .ok (.goto 12, 3) := by decide +kernel
theorem dX12_odds_103 : decode cX12_odds 103 = .ok (.lload 7, 2) := by decide +kernel
theorem dX12_odds_105 : decode cX12_odds 105 = .ok (.lload 5, 2) := by decide +kernel
theorem dX12_odds_107 : decode cX12_odds 107 = .ok (.iload 4, 2) := by decide +kernel
theorem dX12_odds_109 : decode cX12_odds 109 = .ok (.invokestatic 267, 3) := by decide +kernel
theorem dX12_odds_112 : decode cX12_odds 112 = .ok (.lreturn, 1) := by decide +kernel
abbrev q_X12_odds (p : Int) (q : Int) (h : Int) (w : Int) (σ : tw_M) : Option tw_V → tw_M → Prop := fun z τ => ∃ r : Int, z = some (vL r) ∧ (-9223372036854775808 ≤ r ∧ r ≤ 9223372036854775807) ∧ tw_I τ ∧ tw_F (fun c j => (c = 88 ∧ (j = 19 ∨ j = 20 ∨ j = 21 ∨ j = 22 ∨ j = 23))) σ τ ∧ True
set_option maxHeartbeats 4000000 in
set_option maxRecDepth 100000 in
theorem l_X12_odds {G : tw_G} (hM : tw_isM G) (p : Int) (hp : -2147483648 ≤ p ∧ p ≤ 2147483647) (q : Int) (hq : -2147483648 ≤ q ∧ q ≤ 2147483647) (h : Int) (hh : -2147483648 ≤ h ∧ h ≤ 2147483647) (w : Int) (hw : -2147483648 ≤ w ∧ w ≤ 2147483647) (σ : tw_M) (hI : tw_I σ) (hq0 : mc σ 0 (σ 91 0).toNat ≤ 10) : ∀ N_ : Nat, (∀ (s : Int) (hs : -9223372036854775808 ≤ s ∧ s ≤ 9223372036854775807) (o : Int) (ho : -9223372036854775808 ≤ o ∧ o ≤ 9223372036854775807) (f : Int) (hf : 1 ≤ f ∧ f ≤ 41) (τ : tw_M) (hIτ : tw_I τ) (hFτ : tw_F (fun c j => (c = 88 ∧ (j = 19 ∨ j = 20 ∨ j = 21 ∨ j = 22 ∨ j = 23))) σ τ)  (hm : (41 - f).toNat < N_), tw_J G (tw_mt RX12 cX12_odds 12 (some .long) 5) (tw_E G (q_X12_odds p q h w σ)) 41 [(0, vR 88), (1, vI p), (2, vI q), (3, vI h), (4, vI w), (5, vL s), (7, vL o), (9, vI f)] [] τ) := by
  intro N_
  induction N_ with
  | zero => exact fun s hs o ho f hf τ hIτ hFτ hm => absurd hm (Nat.not_lt_zero _)
  | succ N_ ih =>
    intro s hs o ho f hf τ hIτ hFτ hm
    refine j_iload (pc := 41) dX12_odds_41 rfl ?_
    refine j_aload_n (pc := 43) dX12_odds_43 rfl rfl ?_
    refine j_getR (pc := 44) (r := 91) fl_X12_17 dX12_odds_44 (a_88 hM) rfl ?_
    refine j_iconst (pc := 47) dX12_odds_47 ?_
    refine j_iald (pc := 48) dX12_odds_48 (a_91 hM) (by omega) (by omega) (by decide) ?_
    refine j_topV (show τ 91 (Int.toNat 0) = τ 91 0 from rfl) ?_
    have f1 : (1 : Int) ≤ τ 91 0 ∧ τ 91 0 ≤ 40 := hIτ 91 0
    refine j_icmpR_gt (pc := 49) (tgt := 90) ⟨by omega, by omega⟩ ⟨by omega, by omega⟩ dX12_odds_49 rfl (fun h2 => ?_) (fun h2 => ?_)
    · refine j_lload (pc := 90) dX12_odds_90 rfl ?_
      refine j_lconst (pc := 92) (z := 0) dX12_odds_92 rfl ?_
      refine j_lcmp (pc := 93) dX12_odds_93 (fun z3 ez3 => ?_)
      have hz3 : (z3 = 1 ∧ 0 < s) ∨ (z3 = 0 ∧ s = 0) ∨ (z3 = -1 ∧ s < 0) := by rw [ez3]; exact tw_cmp_eq ⟨by omega, by omega⟩ ⟨by omega, by omega⟩
      refine j_ifR_ne (pc := 94) (tgt := 103) ⟨by omega, by omega⟩ dX12_odds_94 rfl (fun h4 => ?_) (fun h4 => ?_)
      · refine j_lload (pc := 103) dX12_odds_103 rfl ?_
        refine j_lload (pc := 105) dX12_odds_105 rfl ?_
        refine j_iload (pc := 107) dX12_odds_107 rfl ?_
        refine j_callS (pc := 109) (As := [vL o, vL s, vI w]) (st := []) (c_X12_told o ⟨by omega, by omega⟩ s ⟨by omega, by omega⟩ w ⟨by omega, by omega⟩ τ hIτ (by omega)) ms_X12_267 rfl dX12_odds_109 ⟨Nat.le_of_ble_eq_true rfl, Nat.le_of_ble_eq_true rfl⟩ ⟨Nat.le_refl _, Nat.le_refl _⟩ rfl (Nat.le_of_ble_eq_true rfl) rfl (fun z5 σ6 hz5 => ?_)
        obtain ⟨r8, rfl, hr8, rfl, q7_0⟩ := hz5
        replace q7_0 : r8 = euM o s (eu o.natAbs s o) w := q7_0
        refine j_st (st' := [vL r8]) rfl ?_
        exact j_lret (pc := 112) ⟨rfl, rfl⟩ dX12_odds_112 rfl ⟨_, rfl, ⟨by omega, by omega⟩, hIτ, hFτ, trivial⟩
      · refine j_ldc2 (pc := 97) (z := -4) dX12_odds_97 (tw_inc tm_8 (i := 0) rfl rfl) ?_
        refine j_goto (pc := 100) (tgt := 112) dX12_odds_100 rfl ?_
        exact j_lret (pc := 112) ⟨rfl, rfl⟩ dX12_odds_112 rfl ⟨_, rfl, ⟨by omega, by omega⟩, hIτ, hFτ, trivial⟩
    · refine j_aload_n (pc := 52) dX12_odds_52 rfl rfl ?_
      refine j_iload_n (pc := 53) dX12_odds_53 rfl rfl ?_
      refine j_iload_n (pc := 54) dX12_odds_54 rfl rfl ?_
      refine j_iload (pc := 55) dX12_odds_55 rfl ?_
      refine j_callV (pc := 57) (As := [vI p, vI q, vI f]) (st := []) (c_X12_weightOf hM p ⟨by omega, by omega⟩ q ⟨by omega, by omega⟩ f ⟨by omega, by omega⟩ τ hIτ) mv_X12_350 rfl rfl rfl (a_88 hM) dX12_odds_57 ⟨Nat.le_of_ble_eq_true rfl, Nat.le_of_ble_eq_true rfl⟩ ⟨Nat.le_refl _, Nat.le_refl _⟩ rfl (Nat.le_of_ble_eq_true rfl) rfl (fun z9 σ10 hz9 => ?_)
      obtain ⟨r12, rfl, hr12, hIσ10, hGσ10, -⟩ := hz9
      have hFσ10 : tw_F (fun c j => (c = 88 ∧ (j = 19 ∨ j = 20 ∨ j = 21 ∨ j = 22 ∨ j = 23))) σ σ10 := tw_F_tr hFτ hGσ10 (fun c j q => (show (c = 88 ∧ (j = 19 ∨ j = 20 ∨ j = 21 ∨ j = 22 ∨ j = 23)) from by replace q : (c = 88 ∧ (j = 19 ∨ j = 20 ∨ j = 21 ∨ j = 22 ∨ j = 23)) := q; exact q))
      refine j_st (st' := [vL r12]) rfl ?_
      refine j_lstore (pc := 60) (i := 10) (ls' := [(0, vR 88), (1, vI p), (2, vI q), (3, vI h), (4, vI w), (5, vL s), (7, vL o), (9, vI f), (10, vL r12)]) [1, 2, 3, 4, 5, 6, 7, 8, 0] dX12_odds_60 (Nat.le_of_ble_eq_true rfl) rfl rfl ?_
      refine j_lload (pc := 62) dX12_odds_62 rfl ?_
      refine j_lload (pc := 64) dX12_odds_64 rfl ?_
      refine j_ladd (pc := 66) dX12_odds_66 ?_
      refine j_topL (fun z13 ez13 hz13 => ?_)
      refine j_lstore (pc := 67) (i := 5) (ls' := [(0, vR 88), (1, vI p), (2, vI q), (3, vI h), (4, vI w), (5, vL z13), (7, vL o), (9, vI f), (10, vL r12)]) [1, 2, 3, 4, 5, 0, 6, 7, 8] dX12_odds_67 (Nat.le_of_ble_eq_true rfl) rfl rfl ?_
      refine j_iload (pc := 69) dX12_odds_69 rfl ?_
      refine j_iload_n (pc := 71) dX12_odds_71 rfl rfl ?_
      refine j_icmpR_ne (pc := 72) (tgt := 80) ⟨by omega, by omega⟩ ⟨by omega, by omega⟩ dX12_odds_72 rfl (fun h14 => ?_) (fun h14 => ?_)
      · refine j_lload (pc := 80) dX12_odds_80 rfl ?_
        refine j_lstore (pc := 82) (i := 7) (ls' := [(0, vR 88), (1, vI p), (2, vI q), (3, vI h), (4, vI w), (5, vL z13), (7, vL o), (9, vI f)]) [1, 2, 3, 4, 5, 6, 0, 7] dX12_odds_82 (Nat.le_of_ble_eq_true rfl) rfl rfl ?_
        refine j_iinc (pc := 84) (i := 9) (n := 1) (ls' := [(0, vR 88), (1, vI p), (2, vI q), (3, vI h), (4, vI w), (5, vL z13), (7, vL o), (9, vI (f + 1))]) [1, 2, 3, 4, 5, 6, 7, 0] dX12_odds_84 rfl (Nat.le_of_ble_eq_true rfl) rfl rfl ?_
        refine j_goto (pc := 87) (tgt := 41) dX12_odds_87 rfl ?_
        refine j_ls (ls' := [(0, vR 88), (1, vI p), (2, vI q), (3, vI h), (4, vI w), (5, vL z13), (7, vL o), (9, vI (f + 1))]) [0, 1, 2, 3, 4, 5, 6, 7] rfl ?_
        exact ih z13 ⟨by omega, by omega⟩ o ⟨by omega, by omega⟩ (f + 1) ⟨by omega, by omega⟩ σ10 hIσ10 hFσ10 (show (41 - (f + 1)).toNat < N_ from by omega)
      · refine j_lload (pc := 75) dX12_odds_75 rfl ?_
        refine j_goto (pc := 77) (tgt := 82) dX12_odds_77 rfl ?_
        refine j_lstore (pc := 82) (i := 7) (ls' := [(0, vR 88), (1, vI p), (2, vI q), (3, vI h), (4, vI w), (5, vL z13), (7, vL r12), (9, vI f)]) [1, 2, 3, 4, 5, 6, 0, 7] dX12_odds_82 (Nat.le_of_ble_eq_true rfl) rfl rfl ?_
        refine j_iinc (pc := 84) (i := 9) (n := 1) (ls' := [(0, vR 88), (1, vI p), (2, vI q), (3, vI h), (4, vI w), (5, vL z13), (7, vL r12), (9, vI (f + 1))]) [1, 2, 3, 4, 5, 6, 7, 0] dX12_odds_84 rfl (Nat.le_of_ble_eq_true rfl) rfl rfl ?_
        refine j_goto (pc := 87) (tgt := 41) dX12_odds_87 rfl ?_
        refine j_ls (ls' := [(0, vR 88), (1, vI p), (2, vI q), (3, vI h), (4, vI w), (5, vL z13), (7, vL r12), (9, vI (f + 1))]) [0, 1, 2, 3, 4, 5, 6, 7] rfl ?_
        exact ih z13 ⟨by omega, by omega⟩ r12 ⟨by omega, by omega⟩ (f + 1) ⟨by omega, by omega⟩ σ10 hIσ10 hFσ10 (show (41 - (f + 1)).toNat < N_ from by omega)
set_option maxHeartbeats 4000000 in
set_option maxRecDepth 100000 in
theorem c_X12_odds {G : tw_G} (hM : tw_isM G) (p : Int) (hp : -2147483648 ≤ p ∧ p ≤ 2147483647) (q : Int) (hq : -2147483648 ≤ q ∧ q ≤ 2147483647) (h : Int) (hh : -2147483648 ≤ h ∧ h ≤ 2147483647) (w : Int) (hw : -2147483648 ≤ w ∧ w ≤ 2147483647) (σ : tw_M) (hI : tw_I σ) (hq0 : mc σ 0 (σ 91 0).toNat ≤ 10) : tw_C G yX12_odds cX12_odds 12 (some .long) 5 [vR 88, vI p, vI q, vI h, vI w] σ (q_X12_odds p q h w σ) := by
  refine tw_met [(0, vR 88), (1, vI p), (2, vI q), (3, vI h), (4, vI w)] (by decide +kernel) rfl (Nat.le_of_ble_eq_true rfl) ?_
  refine j_aload_n (pc := 0) dX12_odds_0 rfl rfl ?_
  refine j_iload_n (pc := 1) dX12_odds_1 rfl rfl ?_
  refine j_iload_n (pc := 2) dX12_odds_2 rfl rfl ?_
  refine j_callV (pc := 3) (As := [vI p, vI q]) (st := []) (c_X12_isStory hM p ⟨by omega, by omega⟩ q ⟨by omega, by omega⟩ σ hI (by omega)) mv_X12_346 rfl rfl rfl (a_88 hM) dX12_odds_3 ⟨Nat.le_of_ble_eq_true rfl, Nat.le_of_ble_eq_true rfl⟩ ⟨Nat.le_refl _, Nat.le_refl _⟩ rfl (Nat.le_of_ble_eq_true rfl) rfl (fun z15 σ16 hz15 => ?_)
  obtain ⟨r18, rfl, hr18, rfl, q17_0⟩ := hz15
  replace q17_0 : r18 = 0 ∨ (0 ≤ q ∧ q ≤ σ 91 0) := q17_0
  refine j_st (st' := [vI r18]) rfl ?_
  refine j_ifR_eq (pc := 6) (tgt := 28) ⟨by omega, by omega⟩ dX12_odds_6 rfl (fun h19 => ?_) (fun h19 => ?_)
  · refine j_ldc2 (pc := 28) (z := -1) dX12_odds_28 (tw_inc tm_7 (i := 81) rfl rfl) ?_
    exact j_lret (pc := 31) ⟨rfl, rfl⟩ dX12_odds_31 rfl ⟨_, rfl, ⟨by omega, by omega⟩, hI, (tw_F_rf), trivial⟩
  · refine j_aload_n (pc := 9) dX12_odds_9 rfl rfl ?_
    refine j_iload_n (pc := 10) dX12_odds_10 rfl rfl ?_
    refine j_callV (pc := 11) (As := [vI h]) (st := []) (c_X12_isAt hM h ⟨by omega, by omega⟩ σ hI) mv_X12_175 rfl rfl rfl (a_88 hM) dX12_odds_11 ⟨Nat.le_of_ble_eq_true rfl, Nat.le_of_ble_eq_true rfl⟩ ⟨Nat.le_refl _, Nat.le_refl _⟩ rfl (Nat.le_of_ble_eq_true rfl) rfl (fun z20 σ21 hz20 => ?_)
    obtain ⟨r23, rfl, hr23, rfl, q22_0⟩ := hz20
    replace q22_0 : (r23 = 1 ∧ 1 ≤ h ∧ h ≤ σ 91 0 ∧ h ≤ 40) ∨ (r23 = 0 ∧ ¬ (1 ≤ h ∧ h ≤ σ 91 0)) := q22_0
    refine j_st (st' := [vI r23]) rfl ?_
    refine j_ifR_eq (pc := 14) (tgt := 28) ⟨by omega, by omega⟩ dX12_odds_14 rfl (fun h24 => ?_) (fun h24 => ?_)
    · refine j_ldc2 (pc := 28) (z := -1) dX12_odds_28 (tw_inc tm_7 (i := 81) rfl rfl) ?_
      exact j_lret (pc := 31) ⟨rfl, rfl⟩ dX12_odds_31 rfl ⟨_, rfl, ⟨by omega, by omega⟩, hI, (tw_F_rf), trivial⟩
    · refine j_iload (pc := 17) dX12_odds_17 rfl ?_
      refine j_i2l (pc := 19) dX12_odds_19 ?_
      rw [w32_eq (a := w) (by omega) (by omega)]
      refine j_lconst (pc := 20) (z := 0) dX12_odds_20 rfl ?_
      refine j_lconst (pc := 21) (z := 1) dX12_odds_21 rfl ?_
      refine j_callS (pc := 22) (As := [vL w, vL 0, vL 1]) (st := []) (c_X12_in w ⟨by omega, by omega⟩ 0 (by (first | decide | exact ⟨by omega, by omega⟩)) 1 (by (first | decide | exact ⟨by omega, by omega⟩)) σ hI) ms_X12_82 rfl dX12_odds_22 ⟨Nat.le_of_ble_eq_true rfl, Nat.le_of_ble_eq_true rfl⟩ ⟨Nat.le_refl _, Nat.le_refl _⟩ rfl (Nat.le_of_ble_eq_true rfl) rfl (fun z25 σ26 hz25 => ?_)
      obtain ⟨r28, rfl, hr28, rfl, q27_0⟩ := hz25
      replace q27_0 : (r28 = 1 ∧ (0 : Int) ≤ w ∧ w ≤ (1 : Int)) ∨ (r28 = 0 ∧ ¬ ((0 : Int) ≤ w ∧ w ≤ (1 : Int))) := q27_0
      refine j_st (st' := [vI r28]) rfl ?_
      refine j_ifR_ne (pc := 25) (tgt := 32) ⟨by omega, by omega⟩ dX12_odds_25 rfl (fun h29 => ?_) (fun h29 => ?_)
      · refine j_lconst (pc := 32) (z := 0) dX12_odds_32 rfl ?_
        refine j_lstore (pc := 33) (i := 5) (ls' := [(0, vR 88), (1, vI p), (2, vI q), (3, vI h), (4, vI w), (5, vL 0)]) [1, 2, 3, 4, 5, 0] dX12_odds_33 (Nat.le_of_ble_eq_true rfl) rfl rfl ?_
        refine j_lconst (pc := 35) (z := 0) dX12_odds_35 rfl ?_
        refine j_lstore (pc := 36) (i := 7) (ls' := [(0, vR 88), (1, vI p), (2, vI q), (3, vI h), (4, vI w), (5, vL 0), (7, vL 0)]) [1, 2, 3, 4, 5, 6, 0] dX12_odds_36 (Nat.le_of_ble_eq_true rfl) rfl rfl ?_
        refine j_iconst (pc := 38) dX12_odds_38 ?_
        refine j_istore (pc := 39) (i := 9) (ls' := [(0, vR 88), (1, vI p), (2, vI q), (3, vI h), (4, vI w), (5, vL 0), (7, vL 0), (9, vI 1)]) [1, 2, 3, 4, 5, 6, 7, 0] dX12_odds_39 (Nat.le_of_ble_eq_true rfl) rfl rfl ?_
        refine j_ls (ls' := [(0, vR 88), (1, vI p), (2, vI q), (3, vI h), (4, vI w), (5, vL 0), (7, vL 0), (9, vI 1)]) [0, 1, 2, 3, 4, 5, 6, 7] rfl ?_
        exact (l_X12_odds hM p hp q hq h hh w hw σ hI hq0 (((41 - (1 : Int)).toNat) + 1)) 0 (by (first | decide | exact ⟨by omega, by omega⟩)) 0 (by (first | decide | exact ⟨by omega, by omega⟩)) 1 (by (first | decide | exact ⟨by omega, by omega⟩)) σ hI (tw_F_rf) (Nat.lt_succ_self _)
      · refine j_ldc2 (pc := 28) (z := -1) dX12_odds_28 (tw_inc tm_7 (i := 81) rfl rfl) ?_
        exact j_lret (pc := 31) ⟨rfl, rfl⟩ dX12_odds_31 rfl ⟨_, rfl, ⟨by omega, by omega⟩, hI, (tw_F_rf), trivial⟩
