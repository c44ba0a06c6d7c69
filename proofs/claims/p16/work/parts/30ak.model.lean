/-! 30ak.model -/
theorem dX12_story_0 : decode cX12_story 0 = .ok (.aload_n 0, 1) := by decide +kernel
theorem dX12_story_1 : decode cX12_story 1 = .ok (.iload_n 1, 1) := by decide +kernel
theorem dX12_story_2 : decode cX12_story 2 = .ok (.iload_n 2, 1) := by decide +kernel
theorem dX12_story_3 : decode cX12_story 3 = .ok (.invokevirtual 346, 3) := by decide +kernel
theorem dX12_story_6 : decode cX12_story 6 = .ok (.ifCond .ne 7, 3) := by decide +kernel
theorem dX12_story_9 : decode cX12_story 9 = .ok (.ldc2_w 257, 3) := by decide +kernel
theorem dX12_story_12 : decode cX12_story 12 = .ok (.lreturn, 1) := by decide +kernel
theorem dX12_story_13 : decode cX12_story 13 = .ok (.lconst 0, 1) := by decide +kernel
theorem dX12_story_14 : decode cX12_story 14 = .ok (.lstore_n 3, 1) := by decide +kernel
theorem dX12_story_15 : decode cX12_story 15 = .ok (.iconst 1, 1) := by decide +kernel
theorem dX12_story_16 : decode cX12_story 16 = .ok (.aload_n 0, 1) := by decide +kernel
theorem dX12_story_17 : decode cX12_story 17 = .ok (.iconst 0, 1) := by decide +kernel
theorem dX12_story_18 : decode cX12_story 18 = .ok (.invokevirtual 192, 3) := by decide +kernel
theorem dX12_story_21 : decode cX12_story 21 = .ok (.ishl, 1) := by decide +kernel
theorem dX12_story_22 : decode cX12_story 22 = .ok (.iconst 1, 1) := by decide +kernel
theorem dX12_story_23 : decode cX12_story 23 = .ok (.isub, 1) := by decide +kernel
theorem dX12_story_24 : decode cX12_story 24 = .ok (.iload_n 1, 1) := by decide +kernel
theorem dX12_story_25 : decode cX12_story 25 = .ok (.iconst (-1), 1) := by decide +kernel
theorem dX12_story_26 : decode cX12_story 26 = .ok (.ixor, 1) := by decide +kernel
theorem dX12_story_27 : decode cX12_story 27 = .ok (.iand, 1) := by decide +kernel
theorem dX12_story_28 : decode cX12_story 28 = .ok (.istore 5, 2) := by decide +kernel
theorem dX12_story_30 : decode cX12_story 30 = .ok (.iconst 1, 1) := by decide +kernel
theorem dX12_story_31 : decode cX12_story 31 = .ok (.istore 6, 2) := by decide +kernel
theorem dX12_story_33 : decode cX12_story 33 = .ok (.iload 6, 2) := by decide +kernel
theorem dX12_story_35 : decode cX12_story 35 = .ok (.aload_n 0, 1) := by decide +kernel
theorem dX12_story_36 : decode cX12_story 36 = .ok (.getfield 17, 3) := by decide +kernel
theorem dX12_story_39 : decode cX12_story 39 = .ok (.iconst 0, 1) := by decide +kernel
theorem dX12_story_40 : decode cX12_story 40 = .ok (.iaload, 1) := by decide +kernel
theorem dX12_story_41 : decode cX12_story 41 = .ok (.if_icmp .gt 45, 3) := by decide +kernel
theorem dX12_story_44 : decode cX12_story 44 = .ok (.aload_n 0, 1) := by decide +kernel
theorem dX12_story_45 : decode cX12_story 45 = .ok (.iconst 0, 1) := by decide +kernel
theorem dX12_story_46 : decode cX12_story 46 = .ok (.iload 6, 2) := by decide +kernel
theorem dX12_story_48 : decode cX12_story 48 = .ok (.iload 5, 2) := by decide +kernel
theorem dX12_story_50 : decode cX12_story 50 = .ok (.invokevirtual 245, 3) := by decide +kernel
theorem dX12_story_53 : decode cX12_story 53 = .ok (.lload_n 3, 1) := by decide +kernel
theorem dX12_story_54 : decode cX12_story 54 = .ok (.aload_n 0, 1) := by decide +kernel
theorem dX12_story_55 : decode cX12_story 55 = .ok (.getfield 232, 3) := by decide +kernel
theorem dX12_story_58 : decode cX12_story 58 = .ok (.iload_n 1, 1) := by decide +kernel
theorem dX12_story_59 : decode cX12_story 59 = .ok (.if_icmp .ne 18, 3) := by decide +kernel
theorem dX12_story_62 : decode cX12_story 62 = .ok (.aload_n 0, 1) := by decide +kernel
theorem dX12_story_63 : decode cX12_story 63 = .ok (.invokevirtual 249, 3) := by decide +kernel
theorem dX12_story_66 : decode cX12_story 66 = .ok (.iload_n 2, 1) := by decide +kernel
theorem dX12_story_67 : decode cX12_story 67 = .ok (.if_icmp .ne 10, 3) := by decide +kernel
theorem dX12_story_70 : decode cX12_story 70 = .ok (.lconst 1, 1) := by decide +kernel
theorem dX12_story_71 : decode cX12_story 71 = .ok (.iload 6, 2) := by decide +kernel
theorem dX12_story_73 : decode cX12_story 73 = .ok (.lshl, 1) := by decide +kernel
theorem dX12_story_74 : decode cX12_story 74 = .ok (.goto 4, 3) := by decide +kernel
theorem dX12_story_77 : decode cX12_story 77 = .ok (.lconst 0, 1) := by decide +kernel
theorem dX12_story_78 : decode cX12_story 78 = .ok (.lor, 1) := by decide +kernel
theorem dX12_story_79 : decode cX12_story 79 = .ok (.lstore_n 3, 1) := by decide +kernel
theorem dX12_story_80 : decode cX12_story 80 = .ok (.iinc 6 1, 3) := by decide +kernel
theorem dX12_story_83 : decode cX12_story 83 = .ok (.goto (-50), 3) := by decide +kernel
theorem dX12_story_86 : decode cX12_story 86 = .ok (.lload_n 3, 1) := by decide +kernel
theorem dX12_story_87 : decode cX12_story 87 = .ok (.lreturn, 1) := by decide +kernel
abbrev q_X12_story (p : Int) (q : Int) (σ : tw_M) : Option tw_V → tw_M → Prop := fun z τ => ∃ r : Int, z = some (vL r) ∧ (-9223372036854775808 ≤ r ∧ r ≤ 9223372036854775807) ∧ tw_I τ ∧ tw_F (fun c j => (c = 88 ∧ (j = 19 ∨ j = 20 ∨ j = 21 ∨ j = 22 ∨ j = 23))) σ τ ∧ True
set_option maxHeartbeats 4000000 in
set_option maxRecDepth 100000 in
theorem l_X12_story {G : tw_G} (hM : tw_isM G) (p : Int) (hp : -2147483648 ≤ p ∧ p ≤ 2147483647) (q : Int) (hq : -2147483648 ≤ q ∧ q ≤ 2147483647) (σ : tw_M) (hI : tw_I σ) (hq0 : mc σ 0 (σ 91 0).toNat ≤ 10) : ∀ N_ : Nat, (∀ (s : Int) (hs : -9223372036854775808 ≤ s ∧ s ≤ 9223372036854775807) (g : Int) (hg : -2147483648 ≤ g ∧ g ≤ 2147483647) (h : Int) (hh : 1 ≤ h ∧ h ≤ 41) (τ : tw_M) (hIτ : tw_I τ) (hFτ : tw_F (fun c j => (c = 88 ∧ (j = 19 ∨ j = 20 ∨ j = 21 ∨ j = 22 ∨ j = 23))) σ τ)  (hm : (41 - h).toNat < N_), tw_J G (tw_mt RX12 cX12_story 7 (some .long) 5) (tw_E G (q_X12_story p q σ)) 33 [(0, vR 88), (1, vI p), (2, vI q), (3, vL s), (5, vI g), (6, vI h)] [] τ) := by
  intro N_
  induction N_ with
  | zero => exact fun s hs g hg h hh τ hIτ hFτ hm => absurd hm (Nat.not_lt_zero _)
  | succ N_ ih =>
    intro s hs g hg h hh τ hIτ hFτ hm
    refine j_iload (pc := 33) dX12_story_33 rfl ?_
    refine j_aload_n (pc := 35) dX12_story_35 rfl rfl ?_
    refine j_getR (pc := 36) (r := 91) fl_X12_17 dX12_story_36 (a_88 hM) rfl ?_
    refine j_iconst (pc := 39) dX12_story_39 ?_
    refine j_iald (pc := 40) dX12_story_40 (a_91 hM) (by omega) (by omega) (by decide) ?_
    refine j_topV (show τ 91 (Int.toNat 0) = τ 91 0 from rfl) ?_
    have f1 : (1 : Int) ≤ τ 91 0 ∧ τ 91 0 ≤ 40 := hIτ 91 0
    refine j_icmpR_gt (pc := 41) (tgt := 86) ⟨by omega, by omega⟩ ⟨by omega, by omega⟩ dX12_story_41 rfl (fun h2 => ?_) (fun h2 => ?_)
    · refine j_lload_n (pc := 86) dX12_story_86 rfl rfl ?_
      exact j_lret (pc := 87) ⟨rfl, rfl⟩ dX12_story_87 rfl ⟨_, rfl, ⟨by omega, by omega⟩, hIτ, hFτ, trivial⟩
    · refine j_aload_n (pc := 44) dX12_story_44 rfl rfl ?_
      refine j_iconst (pc := 45) dX12_story_45 ?_
      refine j_iload (pc := 46) dX12_story_46 rfl ?_
      refine j_iload (pc := 48) dX12_story_48 rfl ?_
      refine j_callV (pc := 50) (As := [vI 0, vI h, vI g]) (st := []) (c_X12_falls hM 0 (by (first | decide | exact ⟨by omega, by omega⟩)) h ⟨by omega, by omega⟩ g ⟨by omega, by omega⟩ τ hIτ (by omega)) mv_X12_245 rfl rfl rfl (a_88 hM) dX12_story_50 ⟨Nat.le_of_ble_eq_true rfl, Nat.le_of_ble_eq_true rfl⟩ ⟨Nat.le_refl _, Nat.le_refl _⟩ rfl (Nat.le_of_ble_eq_true rfl) rfl (fun z3 σ4 hz3 => ?_)
      obtain ⟨rfl, hIσ4, hGσ4, q5_0, q5_1⟩ := hz3
      replace q5_0 : (σ4 88 19, σ4 88 20, σ4 88 21, σ4 88 22) = fallG (wM τ) (gM (0 : Int) τ) h g h.toNat 0 := q5_0
      replace q5_1 : σ4 88 23 = strS (wM τ) h (σ4 88 19) := q5_1
      have hFσ4 : tw_F (fun c j => (c = 88 ∧ (j = 19 ∨ j = 20 ∨ j = 21 ∨ j = 22 ∨ j = 23))) σ σ4 := tw_F_tr hFτ hGσ4 (fun c j q => (show (c = 88 ∧ (j = 19 ∨ j = 20 ∨ j = 21 ∨ j = 22 ∨ j = 23)) from by replace q : (c = 88 ∧ (j = 19 ∨ j = 20 ∨ j = 21 ∨ j = 22 ∨ j = 23)) := q; exact q))
      refine j_st (st' := []) rfl ?_
      refine j_lload_n (pc := 53) dX12_story_53 rfl rfl ?_
      refine j_aload_n (pc := 54) dX12_story_54 rfl rfl ?_
      refine j_getI (pc := 55) fl_X12_232 dX12_story_55 (a_88 hM) rfl ?_
      have f7 : (-2147483648 : Int) ≤ σ4 88 22 ∧ σ4 88 22 ≤ 2147483647 := hIσ4 88 22
      refine j_iload_n (pc := 58) dX12_story_58 rfl rfl ?_
      refine j_icmpR_ne (pc := 59) (tgt := 77) ⟨by omega, by omega⟩ ⟨by omega, by omega⟩ dX12_story_59 rfl (fun h8 => ?_) (fun h8 => ?_)
      · refine j_lconst (pc := 77) (z := 0) dX12_story_77 rfl ?_
        refine j_lor (pc := 78) dX12_story_78 (fun z9 ez9 => ?_)
        have hz9 : (-9223372036854775808 : Int) ≤ z9 ∧ z9 ≤ 9223372036854775807 := by rw [ez9]; exact lorL_in _ _
        refine j_lstore_n (pc := 79) (i := 3) (ls' := [(0, vR 88), (1, vI p), (2, vI q), (3, vL z9), (5, vI g), (6, vI h)]) [1, 2, 3, 0, 4, 5] dX12_story_79 rfl (Nat.le_of_ble_eq_true rfl) rfl rfl ?_
        refine j_iinc (pc := 80) (i := 6) (n := 1) (ls' := [(0, vR 88), (1, vI p), (2, vI q), (3, vL z9), (5, vI g), (6, vI (h + 1))]) [1, 2, 3, 4, 5, 0] dX12_story_80 rfl (Nat.le_of_ble_eq_true rfl) rfl rfl ?_
        refine j_goto (pc := 83) (tgt := 33) dX12_story_83 rfl ?_
        refine j_ls (ls' := [(0, vR 88), (1, vI p), (2, vI q), (3, vL z9), (5, vI g), (6, vI (h + 1))]) [0, 1, 2, 3, 4, 5] rfl ?_
        exact ih z9 ⟨by omega, by omega⟩ g ⟨by omega, by omega⟩ (h + 1) ⟨by omega, by omega⟩ σ4 hIσ4 hFσ4 (show (41 - (h + 1)).toNat < N_ from by omega)
      · refine j_aload_n (pc := 62) dX12_story_62 rfl rfl ?_
        refine j_callV (pc := 63) (As := []) (st := [vL s]) (c_X12_hung hM σ4 hIσ4) mv_X12_249 rfl rfl rfl (a_88 hM) dX12_story_63 ⟨Nat.le_of_ble_eq_true rfl, Nat.le_of_ble_eq_true rfl⟩ ⟨Nat.le_refl _, Nat.le_refl _⟩ rfl (Nat.le_of_ble_eq_true rfl) rfl (fun z10 σ11 hz10 => ?_)
        obtain ⟨r13, rfl, hr13, rfl, -⟩ := hz10
        refine j_st (st' := [vI r13, vL s]) rfl ?_
        refine j_iload_n (pc := 66) dX12_story_66 rfl rfl ?_
        refine j_icmpR_ne (pc := 67) (tgt := 77) ⟨by omega, by omega⟩ ⟨by omega, by omega⟩ dX12_story_67 rfl (fun h14 => ?_) (fun h14 => ?_)
        · refine j_lconst (pc := 77) (z := 0) dX12_story_77 rfl ?_
          refine j_lor (pc := 78) dX12_story_78 (fun z15 ez15 => ?_)
          have hz15 : (-9223372036854775808 : Int) ≤ z15 ∧ z15 ≤ 9223372036854775807 := by rw [ez15]; exact lorL_in _ _
          refine j_lstore_n (pc := 79) (i := 3) (ls' := [(0, vR 88), (1, vI p), (2, vI q), (3, vL z15), (5, vI g), (6, vI h)]) [1, 2, 3, 0, 4, 5] dX12_story_79 rfl (Nat.le_of_ble_eq_true rfl) rfl rfl ?_
          refine j_iinc (pc := 80) (i := 6) (n := 1) (ls' := [(0, vR 88), (1, vI p), (2, vI q), (3, vL z15), (5, vI g), (6, vI (h + 1))]) [1, 2, 3, 4, 5, 0] dX12_story_80 rfl (Nat.le_of_ble_eq_true rfl) rfl rfl ?_
          refine j_goto (pc := 83) (tgt := 33) dX12_story_83 rfl ?_
          refine j_ls (ls' := [(0, vR 88), (1, vI p), (2, vI q), (3, vL z15), (5, vI g), (6, vI (h + 1))]) [0, 1, 2, 3, 4, 5] rfl ?_
          exact ih z15 ⟨by omega, by omega⟩ g ⟨by omega, by omega⟩ (h + 1) ⟨by omega, by omega⟩ σ4 hIσ4 hFσ4 (show (41 - (h + 1)).toNat < N_ from by omega)
        · refine j_lconst (pc := 70) (z := 1) dX12_story_70 rfl ?_
          refine j_iload (pc := 71) dX12_story_71 rfl ?_
          refine j_lshl (pc := 73) dX12_story_73 (fun z16 ez16 => ?_)
          have hz16 : (-9223372036854775808 : Int) ≤ z16 ∧ z16 ≤ 9223372036854775807 := by rw [ez16]; exact lshlL_in _ _
          refine j_goto (pc := 74) (tgt := 78) dX12_story_74 rfl ?_
          refine j_lor (pc := 78) dX12_story_78 (fun z17 ez17 => ?_)
          have hz17 : (-9223372036854775808 : Int) ≤ z17 ∧ z17 ≤ 9223372036854775807 := by rw [ez17]; exact lorL_in _ _
          refine j_lstore_n (pc := 79) (i := 3) (ls' := [(0, vR 88), (1, vI p), (2, vI q), (3, vL z17), (5, vI g), (6, vI h)]) [1, 2, 3, 0, 4, 5] dX12_story_79 rfl (Nat.le_of_ble_eq_true rfl) rfl rfl ?_
          refine j_iinc (pc := 80) (i := 6) (n := 1) (ls' := [(0, vR 88), (1, vI p), (2, vI q), (3, vL z17), (5, vI g), (6, vI (h + 1))]) [1, 2, 3, 4, 5, 0] dX12_story_80 rfl (Nat.le_of_ble_eq_true rfl) rfl rfl ?_
          refine j_goto (pc := 83) (tgt := 33) dX12_story_83 rfl ?_
          refine j_ls (ls' := [(0, vR 88), (1, vI p), (2, vI q), (3, vL z17), (5, vI g), (6, vI (h + 1))]) [0, 1, 2, 3, 4, 5] rfl ?_
          exact ih z17 ⟨by omega, by omega⟩ g ⟨by omega, by omega⟩ (h + 1) ⟨by omega, by omega⟩ σ4 hIσ4 hFσ4 (show (41 - (h + 1)).toNat < N_ from by omega)
set_option maxHeartbeats 4000000 in
set_option maxRecDepth 100000 in
theorem c_X12_story {G : tw_G} (hM : tw_isM G) (p : Int) (hp : -2147483648 ≤ p ∧ p ≤ 2147483647) (q : Int) (hq : -2147483648 ≤ q ∧ q ≤ 2147483647) (σ : tw_M) (hI : tw_I σ) (hq0 : mc σ 0 (σ 91 0).toNat ≤ 10) : tw_C G yX12_story cX12_story 7 (some .long) 5 [vR 88, vI p, vI q] σ (q_X12_story p q σ) := by
  refine tw_met [(0, vR 88), (1, vI p), (2, vI q)] (by decide +kernel) rfl (Nat.le_of_ble_eq_true rfl) ?_
  refine j_aload_n (pc := 0) dX12_story_0 rfl rfl ?_
  refine j_iload_n (pc := 1) dX12_story_1 rfl rfl ?_
  refine j_iload_n (pc := 2) dX12_story_2 rfl rfl ?_
  refine j_callV (pc := 3) (As := [vI p, vI q]) (st := []) (c_X12_isStory hM p ⟨by omega, by omega⟩ q ⟨by omega, by omega⟩ σ hI (by omega)) mv_X12_346 rfl rfl rfl (a_88 hM) dX12_story_3 ⟨Nat.le_of_ble_eq_true rfl, Nat.le_of_ble_eq_true rfl⟩ ⟨Nat.le_refl _, Nat.le_refl _⟩ rfl (Nat.le_of_ble_eq_true rfl) rfl (fun z18 σ19 hz18 => ?_)
  obtain ⟨r21, rfl, hr21, rfl, q20_0⟩ := hz18
  replace q20_0 : r21 = 0 ∨ (0 ≤ q ∧ q ≤ σ 91 0) := q20_0
  refine j_st (st' := [vI r21]) rfl ?_
  refine j_ifR_ne (pc := 6) (tgt := 13) ⟨by omega, by omega⟩ dX12_story_6 rfl (fun h22 => ?_) (fun h22 => ?_)
  · refine j_lconst (pc := 13) (z := 0) dX12_story_13 rfl ?_
    refine j_lstore_n (pc := 14) (i := 3) (ls' := [(0, vR 88), (1, vI p), (2, vI q), (3, vL 0)]) [1, 2, 3, 0] dX12_story_14 rfl (Nat.le_of_ble_eq_true rfl) rfl rfl ?_
    refine j_iconst (pc := 15) dX12_story_15 ?_
    refine j_aload_n (pc := 16) dX12_story_16 rfl rfl ?_
    refine j_iconst (pc := 17) dX12_story_17 ?_
    refine j_callV (pc := 18) (As := [vI 0]) (st := [vI 1]) (c_X12_all hM 0 (by (first | decide | exact ⟨by omega, by omega⟩)) σ hI) mv_X12_192 rfl rfl rfl (a_88 hM) dX12_story_18 ⟨Nat.le_of_ble_eq_true rfl, Nat.le_of_ble_eq_true rfl⟩ ⟨Nat.le_refl _, Nat.le_refl _⟩ rfl (Nat.le_of_ble_eq_true rfl) rfl (fun z23 σ24 hz23 => ?_)
    obtain ⟨r26, rfl, hr26, rfl, q25_0⟩ := hz23
    replace q25_0 : r26 = mc σ (0 : Int) (σ 91 0).toNat := q25_0
    refine j_st (st' := [vI r26, vI 1]) rfl ?_
    refine j_ishl (pc := 21) dX12_story_21 (fun z27 ez27 => ?_)
    have hz27 : (-2147483648 : Int) ≤ z27 ∧ z27 ≤ 2147483647 := by rw [ez27]; exact shl_in _ _
    refine j_iconst (pc := 22) dX12_story_22 ?_
    refine j_isub (pc := 23) dX12_story_23 ?_
    refine j_top (fun z28 ez28 hz28 => ?_)
    refine j_iload_n (pc := 24) dX12_story_24 rfl rfl ?_
    refine j_iconst (pc := 25) dX12_story_25 ?_
    refine j_ixor (pc := 26) dX12_story_26 (fun z29 ez29 => ?_)
    have hz29 : (-2147483648 : Int) ≤ z29 ∧ z29 ≤ 2147483647 := by rw [ez29]; exact xor_in _ _
    refine j_iand (pc := 27) dX12_story_27 (fun z30 ez30 => ?_)
    have hz30 : (-2147483648 : Int) ≤ z30 ∧ z30 ≤ 2147483647 := by rw [ez30]; exact and_in _ _
    refine j_istore (pc := 28) (i := 5) (ls' := [(0, vR 88), (1, vI p), (2, vI q), (3, vL 0), (5, vI z30)]) [1, 2, 3, 4, 0] dX12_story_28 (Nat.le_of_ble_eq_true rfl) rfl rfl ?_
    refine j_iconst (pc := 30) dX12_story_30 ?_
    refine j_istore (pc := 31) (i := 6) (ls' := [(0, vR 88), (1, vI p), (2, vI q), (3, vL 0), (5, vI z30), (6, vI 1)]) [1, 2, 3, 4, 5, 0] dX12_story_31 (Nat.le_of_ble_eq_true rfl) rfl rfl ?_
    refine j_ls (ls' := [(0, vR 88), (1, vI p), (2, vI q), (3, vL 0), (5, vI z30), (6, vI 1)]) [0, 1, 2, 3, 4, 5] rfl ?_
    exact (l_X12_story hM p hp q hq σ hI hq0 (((41 - (1 : Int)).toNat) + 1)) 0 (by (first | decide | exact ⟨by omega, by omega⟩)) z30 ⟨by omega, by omega⟩ 1 (by (first | decide | exact ⟨by omega, by omega⟩)) σ hI (tw_F_rf) (Nat.lt_succ_self _)
  · refine j_ldc2 (pc := 9) (z := -1) dX12_story_9 (tw_inc tm_7 (i := 81) rfl rfl) ?_
    exact j_lret (pc := 12) ⟨rfl, rfl⟩ dX12_story_12 rfl ⟨_, rfl, ⟨by omega, by omega⟩, hI, (tw_F_rf), trivial⟩
