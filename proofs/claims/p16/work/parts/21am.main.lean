/-! 21am.main -/
theorem dX11_story_0 : decode cX11_story 0 = .ok (.aload_n 0, 1) := by decide +kernel
theorem dX11_story_1 : decode cX11_story 1 = .ok (.iload_n 1, 1) := by decide +kernel
theorem dX11_story_2 : decode cX11_story 2 = .ok (.iload_n 2, 1) := by decide +kernel
theorem dX11_story_3 : decode cX11_story 3 = .ok (.invokevirtual 375, 3) := by decide +kernel
theorem dX11_story_6 : decode cX11_story 6 = .ok (.ifCond .ne 7, 3) := by decide +kernel
theorem dX11_story_9 : decode cX11_story 9 = .ok (.ldc2_w 245, 3) := by decide +kernel
theorem dX11_story_12 : decode cX11_story 12 = .ok (.lreturn, 1) := by decide +kernel
theorem dX11_story_13 : decode cX11_story 13 = .ok (.lconst 0, 1) := by decide +kernel
theorem dX11_story_14 : decode cX11_story 14 = .ok (.lstore_n 3, 1) := by decide +kernel
theorem dX11_story_15 : decode cX11_story 15 = .ok (.iconst 1, 1) := by decide +kernel
theorem dX11_story_16 : decode cX11_story 16 = .ok (.istore 5, 2) := by decide +kernel
theorem dX11_story_18 : decode cX11_story 18 = .ok (.iload 5, 2) := by decide +kernel
theorem dX11_story_20 : decode cX11_story 20 = .ok (.aload_n 0, 1) := by decide +kernel
theorem dX11_story_21 : decode cX11_story 21 = .ok (.getfield 10, 3) := by decide +kernel
theorem dX11_story_24 : decode cX11_story 24 = .ok (.invokevirtual 327, 3) := by decide +kernel
theorem dX11_story_27 : decode cX11_story 27 = .ok (.if_icmp .gt 62, 3) := by decide +kernel
theorem dX11_story_30 : decode cX11_story 30 = .ok (.aload_n 0, 1) := by decide +kernel
theorem dX11_story_31 : decode cX11_story 31 = .ok (.getfield 42, 3) := by decide +kernel
theorem dX11_story_34 : decode cX11_story 34 = .ok (.aload_n 0, 1) := by decide +kernel
theorem dX11_story_35 : decode cX11_story 35 = .ok (.getfield 10, 3) := by decide +kernel
theorem dX11_story_38 : decode cX11_story 38 = .ok (.aload_n 0, 1) := by decide +kernel
theorem dX11_story_39 : decode cX11_story 39 = .ok (.getfield 26, 3) := by decide +kernel
theorem dX11_story_42 : decode cX11_story 42 = .ok (.getfield 168, 3) := by decide +kernel
theorem dX11_story_45 : decode cX11_story 45 = .ok (.iload 5, 2) := by decide +kernel
theorem dX11_story_47 : decode cX11_story 47 = .ok (.aload_n 0, 1) := by decide +kernel
theorem dX11_story_48 : decode cX11_story 48 = .ok (.getfield 26, 3) := by decide +kernel
theorem dX11_story_51 : decode cX11_story 51 = .ok (.getfield 168, 3) := by decide +kernel
theorem dX11_story_54 : decode cX11_story 54 = .ok (.invokevirtual 255, 3) := by decide +kernel
theorem dX11_story_57 : decode cX11_story 57 = .ok (.iload_n 1, 1) := by decide +kernel
theorem dX11_story_58 : decode cX11_story 58 = .ok (.iconst (-1), 1) := by decide +kernel
theorem dX11_story_59 : decode cX11_story 59 = .ok (.ixor, 1) := by decide +kernel
theorem dX11_story_60 : decode cX11_story 60 = .ok (.iand, 1) := by decide +kernel
theorem dX11_story_61 : decode cX11_story 61 = .ok (.invokevirtual 214, 3) := by decide +kernel
theorem dX11_story_64 : decode cX11_story 64 = .ok (.aload_n 0, 1) := by decide +kernel
theorem dX11_story_65 : decode cX11_story 65 = .ok (.getfield 42, 3) := by decide +kernel
theorem dX11_story_68 : decode cX11_story 68 = .ok (.iload_n 1, 1) := by decide +kernel
theorem dX11_story_69 : decode cX11_story 69 = .ok (.iload_n 2, 1) := by decide +kernel
theorem dX11_story_70 : decode cX11_story 70 = .ok (.invokevirtual 379, 3) := by decide +kernel
theorem dX11_story_73 : decode cX11_story 73 = .ok (.ifCond .eq 10, 3) := by decide +kernel
theorem dX11_story_76 : decode cX11_story 76 = .ok (.lload_n 3, 1) := by decide +kernel
theorem dX11_story_77 : decode cX11_story 77 = .ok (.lconst 1, 1) := by decide +kernel
theorem dX11_story_78 : decode cX11_story 78 = .ok (.iload 5, 2) := by decide +kernel
theorem dX11_story_80 : decode cX11_story 80 = .ok (.lshl, 1) := by decide +kernel
theorem dX11_story_81 : decode cX11_story 81 = .ok (.lor, 1) := by decide +kernel
theorem dX11_story_82 : decode cX11_story 82 = .ok (.lstore_n 3, 1) := by decide +kernel
theorem dX11_story_83 : decode cX11_story 83 = .ok (.iinc 5 1, 3) := by decide +kernel
theorem dX11_story_86 : decode cX11_story 86 = .ok (.goto (-68), 3) := by decide +kernel
theorem dX11_story_89 : decode cX11_story 89 = .ok (.lload_n 3, 1) := by decide +kernel
theorem dX11_story_90 : decode cX11_story 90 = .ok (.lreturn, 1) := by decide +kernel
abbrev q_X11_story (p : Int) (q : Int) (σ : tw_M) : Option tw_V → tw_M → Prop := fun z τ => ∃ r : Int, z = some (vL r) ∧ (-9223372036854775808 ≤ r ∧ r ≤ 9223372036854775807) ∧ tw_I τ ∧ tw_F (fun c j => c = 55) σ τ ∧ True
set_option maxHeartbeats 4000000 in
set_option maxRecDepth 100000 in
theorem l_X11_story {G : tw_G} (hX : tw_isX G) (p : Int) (hp : -2147483648 ≤ p ∧ p ≤ 2147483647) (q : Int) (hq : -2147483648 ≤ q ∧ q ≤ 2147483647) (σ : tw_M) (hI : tw_I σ) : ∀ N_ : Nat, (∀ (a : Int) (ha : -9223372036854775808 ≤ a ∧ a ≤ 9223372036854775807) (h : Int) (hh : 1 ≤ h ∧ h ≤ 41) (τ : tw_M) (hIτ : tw_I τ) (hFτ : tw_F (fun c j => c = 55) σ τ)  (hm : (41 - h).toNat < N_), tw_J G (tw_mt RX11 cX11_story 6 (some .long) 3) (tw_E G (q_X11_story p q σ)) 18 [(0, vR 0), (1, vI p), (2, vI q), (3, vL a), (5, vI h)] [] τ) := by
  intro N_
  induction N_ with
  | zero => exact fun a ha h hh τ hIτ hFτ hm => absurd hm (Nat.not_lt_zero _)
  | succ N_ ih =>
    intro a ha h hh τ hIτ hFτ hm
    refine j_iload (pc := 18) dX11_story_18 rfl ?_
    refine j_aload_n (pc := 20) dX11_story_20 rfl rfl ?_
    refine j_getR (pc := 21) (r := 1) fl_X11_10 dX11_story_21 (a_0 hX) rfl ?_
    refine j_callV (pc := 24) (As := []) (st := [vI h]) (c_X10_top 1 (s_Wall_1 hX) τ hIτ) mv_X11_327 rfl rfl rfl (a_1 hX) dX11_story_24 ⟨Nat.le_of_ble_eq_true rfl, Nat.le_of_ble_eq_true rfl⟩ ⟨Nat.le_refl _, Nat.le_refl _⟩ rfl (Nat.le_of_ble_eq_true rfl) rfl (fun z1 σ2 hz1 => ?_)
    obtain ⟨r4, rfl, hr4, rfl, q3_0⟩ := hz1
    replace q3_0 : r4 = τ 2 0 := q3_0
    refine j_st (st' := [vI r4, vI h]) rfl ?_
    refine j_icmpR_gt (pc := 27) (tgt := 89) ⟨by omega, by omega⟩ ⟨by omega, by omega⟩ dX11_story_27 rfl (fun h5 => ?_) (fun h5 => ?_)
    · refine j_lload_n (pc := 89) dX11_story_89 rfl rfl ?_
      exact j_lret (pc := 90) ⟨rfl, rfl⟩ dX11_story_90 rfl ⟨_, rfl, ⟨by omega, by omega⟩, hIτ, hFτ, trivial⟩
    · refine j_aload_n (pc := 30) dX11_story_30 rfl rfl ?_
      refine j_getR (pc := 31) (r := 55) fl_X11_42 dX11_story_31 (a_0 hX) rfl ?_
      refine j_aload_n (pc := 34) dX11_story_34 rfl rfl ?_
      refine j_getR (pc := 35) (r := 1) fl_X11_10 dX11_story_35 (a_0 hX) rfl ?_
      refine j_aload_n (pc := 38) dX11_story_38 rfl rfl ?_
      refine j_getR (pc := 39) (r := 23) fl_X11_26 dX11_story_39 (a_0 hX) rfl ?_
      refine j_getR (pc := 42) (r := 24) fl_X11_168 dX11_story_42 (a_23 hX) rfl ?_
      refine j_iload (pc := 45) dX11_story_45 rfl ?_
      refine j_aload_n (pc := 47) dX11_story_47 rfl rfl ?_
      refine j_getR (pc := 48) (r := 23) fl_X11_26 dX11_story_48 (a_0 hX) rfl ?_
      refine j_getR (pc := 51) (r := 24) fl_X11_168 dX11_story_51 (a_23 hX) rfl ?_
      refine j_callV (pc := 54) (As := []) (st := [vI h, vR 24, vR 1, vR 55]) (c_X7_all 24 (s_Row_24 hX) τ hIτ) mv_X11_255 rfl rfl rfl (a_24 hX) dX11_story_54 ⟨Nat.le_of_ble_eq_true rfl, Nat.le_of_ble_eq_true rfl⟩ ⟨Nat.le_refl _, Nat.le_refl _⟩ rfl (Nat.le_of_ble_eq_true rfl) rfl (fun z6 σ7 hz6 => ?_)
      obtain ⟨r9, rfl, hr9, rfl, q8_0⟩ := hz6
      replace q8_0 : r9 = pt (τ 24 0) - 1 := q8_0
      refine j_st (st' := [vI r9, vI h, vR 24, vR 1, vR 55]) rfl ?_
      refine j_iload_n (pc := 57) dX11_story_57 rfl rfl ?_
      refine j_iconst (pc := 58) dX11_story_58 ?_
      refine j_ixor (pc := 59) dX11_story_59 (fun z10 ez10 => ?_)
      have hz10 : (-2147483648 : Int) ≤ z10 ∧ z10 ≤ 2147483647 := by rw [ez10]; exact xor_in _ _
      refine j_iand (pc := 60) dX11_story_60 (fun z11 ez11 => ?_)
      have hz11 : (-2147483648 : Int) ≤ z11 ∧ z11 ≤ 2147483647 := by rw [ez11]; exact and_in _ _
      refine j_callV (pc := 61) (As := [vR 1, vR 24, vI h, vI z11]) (st := []) (c_X2_from 55 (s_Fall_55 hX) 1 (s_Wall_1 hX) 24 (s_Row_24 hX) h ⟨by omega, by omega⟩ z11 ⟨by omega, by omega⟩ τ hIτ (by omega) (by omega)) mv_X11_214 rfl rfl rfl (a_55 hX) dX11_story_61 ⟨Nat.le_of_ble_eq_true rfl, Nat.le_of_ble_eq_true rfl⟩ ⟨Nat.le_refl _, Nat.le_refl _⟩ rfl (Nat.le_of_ble_eq_true rfl) rfl (fun z12 σ13 hz12 => ?_)
      obtain ⟨rfl, hIσ13, hGσ13, q14_0, q14_1, q14_2, q14_3⟩ := hz12
      replace q14_0 : ∀ gg qq : Nat → Int, RG 24 gg qq τ → (σ13 55 0, σ13 55 1, σ13 55 2, σ13 55 3) = fallG (wW 1 τ) gg h z11 h.toNat 0 := q14_0
      replace q14_1 : σ13 55 4 = strS (wW 1 τ) h (σ13 55 0) := q14_1
      replace q14_2 : σ13 55 5 = harS (wW 1 τ) h (σ13 55 0) := q14_2
      replace q14_3 : -40 ≤ σ13 55 5 ∧ σ13 55 5 ≤ 40 := q14_3
      have hFσ13 : tw_F (fun c j => c = 55) σ σ13 := tw_F_tr hFτ hGσ13 (fun c j q => (show c = 55 from by replace q : c = 55 := q; exact q))
      refine j_st (st' := []) rfl ?_
      refine j_aload_n (pc := 64) dX11_story_64 rfl rfl ?_
      refine j_getR (pc := 65) (r := 55) fl_X11_42 dX11_story_65 (a_0 hX) rfl ?_
      refine j_iload_n (pc := 68) dX11_story_68 rfl rfl ?_
      refine j_iload_n (pc := 69) dX11_story_69 rfl rfl ?_
      refine j_callV (pc := 70) (As := [vI p, vI q]) (st := []) (c_X2_isSo 55 (s_Fall_55 hX) p ⟨by omega, by omega⟩ q ⟨by omega, by omega⟩ σ13 hIσ13) mv_X11_379 rfl rfl rfl (a_55 hX) dX11_story_70 ⟨Nat.le_of_ble_eq_true rfl, Nat.le_of_ble_eq_true rfl⟩ ⟨Nat.le_refl _, Nat.le_refl _⟩ rfl (Nat.le_of_ble_eq_true rfl) rfl (fun z16 σ17 hz16 => ?_)
      obtain ⟨r19, rfl, hr19, rfl, -⟩ := hz16
      refine j_st (st' := [vI r19]) rfl ?_
      refine j_ifR_eq (pc := 73) (tgt := 83) ⟨by omega, by omega⟩ dX11_story_73 rfl (fun h20 => ?_) (fun h20 => ?_)
      · refine j_iinc (pc := 83) (i := 5) (n := 1) (ls' := [(0, vR 0), (1, vI p), (2, vI q), (3, vL a), (5, vI (h + 1))]) [1, 2, 3, 4, 0] dX11_story_83 rfl (Nat.le_of_ble_eq_true rfl) rfl rfl ?_
        refine j_goto (pc := 86) (tgt := 18) dX11_story_86 rfl ?_
        refine j_ls (ls' := [(0, vR 0), (1, vI p), (2, vI q), (3, vL a), (5, vI (h + 1))]) [0, 1, 2, 3, 4] rfl ?_
        exact ih a ⟨by omega, by omega⟩ (h + 1) ⟨by omega, by omega⟩ σ13 hIσ13 hFσ13 (show (41 - (h + 1)).toNat < N_ from by omega)
      · refine j_lload_n (pc := 76) dX11_story_76 rfl rfl ?_
        refine j_lconst (pc := 77) (z := 1) dX11_story_77 rfl ?_
        refine j_iload (pc := 78) dX11_story_78 rfl ?_
        refine j_lshl (pc := 80) dX11_story_80 (fun z21 ez21 => ?_)
        have hz21 : (-9223372036854775808 : Int) ≤ z21 ∧ z21 ≤ 9223372036854775807 := by rw [ez21]; exact lshlL_in _ _
        refine j_lor (pc := 81) dX11_story_81 (fun z22 ez22 => ?_)
        have hz22 : (-9223372036854775808 : Int) ≤ z22 ∧ z22 ≤ 9223372036854775807 := by rw [ez22]; exact lorL_in _ _
        refine j_lstore_n (pc := 82) (i := 3) (ls' := [(0, vR 0), (1, vI p), (2, vI q), (3, vL z22), (5, vI h)]) [1, 2, 3, 0, 4] dX11_story_82 rfl (Nat.le_of_ble_eq_true rfl) rfl rfl ?_
        refine j_iinc (pc := 83) (i := 5) (n := 1) (ls' := [(0, vR 0), (1, vI p), (2, vI q), (3, vL z22), (5, vI (h + 1))]) [1, 2, 3, 4, 0] dX11_story_83 rfl (Nat.le_of_ble_eq_true rfl) rfl rfl ?_
        refine j_goto (pc := 86) (tgt := 18) dX11_story_86 rfl ?_
        refine j_ls (ls' := [(0, vR 0), (1, vI p), (2, vI q), (3, vL z22), (5, vI (h + 1))]) [0, 1, 2, 3, 4] rfl ?_
        exact ih z22 ⟨by omega, by omega⟩ (h + 1) ⟨by omega, by omega⟩ σ13 hIσ13 hFσ13 (show (41 - (h + 1)).toNat < N_ from by omega)
set_option maxHeartbeats 4000000 in
set_option maxRecDepth 100000 in
theorem c_X11_story {G : tw_G} (hX : tw_isX G) (p : Int) (hp : -2147483648 ≤ p ∧ p ≤ 2147483647) (q : Int) (hq : -2147483648 ≤ q ∧ q ≤ 2147483647) (σ : tw_M) (hI : tw_I σ) : tw_C G yX11_story cX11_story 6 (some .long) 3 [vR 0, vI p, vI q] σ (q_X11_story p q σ) := by
  refine tw_met [(0, vR 0), (1, vI p), (2, vI q)] (by decide +kernel) rfl (Nat.le_of_ble_eq_true rfl) ?_
  refine j_aload_n (pc := 0) dX11_story_0 rfl rfl ?_
  refine j_iload_n (pc := 1) dX11_story_1 rfl rfl ?_
  refine j_iload_n (pc := 2) dX11_story_2 rfl rfl ?_
  refine j_callV (pc := 3) (As := [vI p, vI q]) (st := []) (c_X11_isStory hX p ⟨by omega, by omega⟩ q ⟨by omega, by omega⟩ σ hI) mv_X11_375 rfl rfl rfl (a_0 hX) dX11_story_3 ⟨Nat.le_of_ble_eq_true rfl, Nat.le_of_ble_eq_true rfl⟩ ⟨Nat.le_refl _, Nat.le_refl _⟩ rfl (Nat.le_of_ble_eq_true rfl) rfl (fun z23 σ24 hz23 => ?_)
  obtain ⟨r26, rfl, hr26, rfl, -⟩ := hz23
  refine j_st (st' := [vI r26]) rfl ?_
  refine j_ifR_ne (pc := 6) (tgt := 13) ⟨by omega, by omega⟩ dX11_story_6 rfl (fun h27 => ?_) (fun h27 => ?_)
  · refine j_lconst (pc := 13) (z := 0) dX11_story_13 rfl ?_
    refine j_lstore_n (pc := 14) (i := 3) (ls' := [(0, vR 0), (1, vI p), (2, vI q), (3, vL 0)]) [1, 2, 3, 0] dX11_story_14 rfl (Nat.le_of_ble_eq_true rfl) rfl rfl ?_
    refine j_iconst (pc := 15) dX11_story_15 ?_
    refine j_istore (pc := 16) (i := 5) (ls' := [(0, vR 0), (1, vI p), (2, vI q), (3, vL 0), (5, vI 1)]) [1, 2, 3, 4, 0] dX11_story_16 (Nat.le_of_ble_eq_true rfl) rfl rfl ?_
    refine j_ls (ls' := [(0, vR 0), (1, vI p), (2, vI q), (3, vL 0), (5, vI 1)]) [0, 1, 2, 3, 4] rfl ?_
    exact (l_X11_story hX p hp q hq σ hI (((41 - (1 : Int)).toNat) + 1)) 0 (by (first | decide | exact ⟨by omega, by omega⟩)) 1 (by (first | decide | exact ⟨by omega, by omega⟩)) σ hI (tw_F_rf) (Nat.lt_succ_self _)
  · refine j_ldc2 (pc := 9) (z := -1) dX11_story_9 (tw_inc tm_4 (i := 96) rfl rfl) ?_
    exact j_lret (pc := 12) ⟨rfl, rfl⟩ dX11_story_12 rfl ⟨_, rfl, ⟨by omega, by omega⟩, hI, (tw_F_rf), trivial⟩
