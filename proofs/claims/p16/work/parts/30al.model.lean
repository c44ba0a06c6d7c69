/-! 30al.model -/
theorem dX12_weightOf_0 : decode cX12_weightOf 0 = .ok (.lconst 0, 1) := by decide +kernel
theorem dX12_weightOf_1 : decode cX12_weightOf 1 = .ok (.lstore 4, 2) := by decide +kernel
theorem dX12_weightOf_3 : decode cX12_weightOf 3 = .ok (.iconst 0, 1) := by decide +kernel
theorem dX12_weightOf_4 : decode cX12_weightOf 4 = .ok (.istore 6, 2) := by decide +kernel
theorem dX12_weightOf_6 : decode cX12_weightOf 6 = .ok (.iload 6, 2) := by decide +kernel
theorem dX12_weightOf_8 : decode cX12_weightOf 8 = .ok (.iconst 1, 1) := by decide +kernel
theorem dX12_weightOf_9 : decode cX12_weightOf 9 = .ok (.aload_n 0, 1) := by decide +kernel
theorem dX12_weightOf_10 : decode cX12_weightOf 10 = .ok (.iconst 0, 1) := by decide +kernel
theorem dX12_weightOf_11 : decode cX12_weightOf 11 = .ok (.invokevirtual 192, 3) := by decide +kernel
theorem dX12_weightOf_14 : decode cX12_weightOf 14 = .ok (.ishl, 1) := by decide +kernel
theorem dX12_weightOf_15 : decode cX12_weightOf 15 = .ok (.if_icmp .ge 48, 3) := by decide +kernel
theorem dX12_weightOf_18 : decode cX12_weightOf 18 = .ok (.aload_n 0, 1) := by decide +kernel
theorem dX12_weightOf_19 : decode cX12_weightOf 19 = .ok (.iconst 0, 1) := by decide +kernel
theorem dX12_weightOf_20 : decode cX12_weightOf 20 = .ok (.iload_n 3, 1) := by decide +kernel
theorem dX12_weightOf_21 : decode cX12_weightOf 21 = .ok (.iload 6, 2) := by decide +kernel
theorem dX12_weightOf_23 : decode cX12_weightOf 23 = .ok (.invokevirtual 245, 3) := by decide +kernel
theorem dX12_weightOf_26 : decode cX12_weightOf 26 = .ok (.lload 4, 2) := by decide +kernel
theorem dX12_weightOf_28 : decode cX12_weightOf 28 = .ok (.aload_n 0, 1) := by decide +kernel
theorem dX12_weightOf_29 : decode cX12_weightOf 29 = .ok (.getfield 232, 3) := by decide +kernel
theorem dX12_weightOf_32 : decode cX12_weightOf 32 = .ok (.iload_n 1, 1) := by decide +kernel
theorem dX12_weightOf_33 : decode cX12_weightOf 33 = .ok (.if_icmp .ne 20, 3) := by decide +kernel
theorem dX12_weightOf_36 : decode cX12_weightOf 36 = .ok (.aload_n 0, 1) := by decide +kernel
theorem dX12_weightOf_37 : decode cX12_weightOf 37 = .ok (.invokevirtual 249, 3) := by decide +kernel
theorem dX12_weightOf_40 : decode cX12_weightOf 40 = .ok (.iload_n 2, 1) := by decide +kernel
theorem dX12_weightOf_41 : decode cX12_weightOf 41 = .ok (.if_icmp .ne 12, 3) := by decide +kernel
theorem dX12_weightOf_44 : decode cX12_weightOf 44 = .ok (.aload_n 0, 1) := by decide +kernel
theorem dX12_weightOf_45 : decode cX12_weightOf 45 = .ok (.iload 6, 2) := by decide +kernel
theorem dX12_weightOf_47 : decode cX12_weightOf 47 = .ok (.invokevirtual 259, 3) := by decide +kernel
theorem dX12_weightOf_50 : decode cX12_weightOf 50 = .ok (.goto 4, 3) := by decide +kernel
theorem dX12_weightOf_53 : decode cX12_weightOf 53 = .ok (.lconst 0, 1) := by decide +kernel
theorem dX12_weightOf_54 : decode cX12_weightOf 54 = .ok (.ladd, 1) := by decide +kernel
theorem dX12_weightOf_55 : decode cX12_weightOf 55 = .ok (.lstore 4, 2) := by decide +kernel
theorem dX12_weightOf_57 : decode cX12_weightOf 57 = .ok (.iinc 6 1, 3) := by decide +kernel
theorem dX12_weightOf_60 : decode cX12_weightOf 60 = .ok (.goto (-54), 3) := by decide +kernel
theorem dX12_weightOf_63 : decode cX12_weightOf 63 = .ok (.lload 4, 2) := by decide +kernel
theorem dX12_weightOf_65 : decode cX12_weightOf 65 = .ok (.aload_n 0, 1) := by decide +kernel
theorem dX12_weightOf_66 : decode cX12_weightOf 66 = .ok (.iload_n 3, 1) := by decide +kernel
theorem dX12_weightOf_67 : decode cX12_weightOf 67 = .ok (.iconst 0, 1) := by decide +kernel
theorem dX12_weightOf_68 : decode cX12_weightOf 68 = .ok (.invokevirtual 184, 3) := by decide +kernel
theorem dX12_weightOf_71 : decode cX12_weightOf 71 = .ok (.i2l, 1) := by decide +kernel
theorem dX12_weightOf_72 : decode cX12_weightOf 72 = .ok (.lmul, 1) := by decide +kernel
theorem dX12_weightOf_73 : decode cX12_weightOf 73 = .ok (.lreturn, 1) := by decide +kernel
abbrev q_X12_weightOf (p : Int) (q : Int) (h : Int) (σ : tw_M) : Option tw_V → tw_M → Prop := fun z τ => ∃ r : Int, z = some (vL r) ∧ (-9223372036854775808 ≤ r ∧ r ≤ 9223372036854775807) ∧ tw_I τ ∧ tw_F (fun c j => (c = 88 ∧ (j = 19 ∨ j = 20 ∨ j = 21 ∨ j = 22 ∨ j = 23))) σ τ ∧ True
set_option maxHeartbeats 4000000 in
set_option maxRecDepth 100000 in
theorem l_X12_weightOf {G : tw_G} (hM : tw_isM G) (p : Int) (hp : -2147483648 ≤ p ∧ p ≤ 2147483647) (q : Int) (hq : -2147483648 ≤ q ∧ q ≤ 2147483647) (h : Int) (hh : 1 ≤ h ∧ h ≤ 40) (σ : tw_M) (hI : tw_I σ) : ∀ N_ : Nat, (∀ (s : Int) (hs : -9223372036854775808 ≤ s ∧ s ≤ 9223372036854775807) (g : Int) (hg : 0 ≤ g ∧ g ≤ 2147483647) (τ : tw_M) (hIτ : tw_I τ) (hFτ : tw_F (fun c j => (c = 88 ∧ (j = 19 ∨ j = 20 ∨ j = 21 ∨ j = 22 ∨ j = 23))) σ τ)  (hm : (2147483647 - g).toNat < N_), tw_J G (tw_mt RX12 cX12_weightOf 7 (some .long) 4) (tw_E G (q_X12_weightOf p q h σ)) 6 [(0, vR 88), (1, vI p), (2, vI q), (3, vI h), (4, vL s), (6, vI g)] [] τ) := by
  intro N_
  induction N_ with
  | zero => exact fun s hs g hg τ hIτ hFτ hm => absurd hm (Nat.not_lt_zero _)
  | succ N_ ih =>
    intro s hs g hg τ hIτ hFτ hm
    refine j_iload (pc := 6) dX12_weightOf_6 rfl ?_
    refine j_iconst (pc := 8) dX12_weightOf_8 ?_
    refine j_aload_n (pc := 9) dX12_weightOf_9 rfl rfl ?_
    refine j_iconst (pc := 10) dX12_weightOf_10 ?_
    refine j_callV (pc := 11) (As := [vI 0]) (st := [vI 1, vI g]) (c_X12_all hM 0 (by (first | decide | exact ⟨by omega, by omega⟩)) τ hIτ) mv_X12_192 rfl rfl rfl (a_88 hM) dX12_weightOf_11 ⟨Nat.le_of_ble_eq_true rfl, Nat.le_of_ble_eq_true rfl⟩ ⟨Nat.le_refl _, Nat.le_refl _⟩ rfl (Nat.le_of_ble_eq_true rfl) rfl (fun z1 σ2 hz1 => ?_)
    obtain ⟨r4, rfl, hr4, rfl, q3_0⟩ := hz1
    replace q3_0 : r4 = mc τ (0 : Int) (τ 91 0).toNat := q3_0
    refine j_st (st' := [vI r4, vI 1, vI g]) rfl ?_
    refine j_ishl (pc := 14) dX12_weightOf_14 (fun z5 ez5 => ?_)
    have hz5 : (-2147483648 : Int) ≤ z5 ∧ z5 ≤ 2147483647 := by rw [ez5]; exact shl_in _ _
    refine j_icmpR_ge (pc := 15) (tgt := 63) ⟨by omega, by omega⟩ ⟨by omega, by omega⟩ dX12_weightOf_15 rfl (fun h6 => ?_) (fun h6 => ?_)
    · refine j_lload (pc := 63) dX12_weightOf_63 rfl ?_
      refine j_aload_n (pc := 65) dX12_weightOf_65 rfl rfl ?_
      refine j_iload_n (pc := 66) dX12_weightOf_66 rfl rfl ?_
      refine j_iconst (pc := 67) dX12_weightOf_67 ?_
      refine j_callV (pc := 68) (As := [vI h, vI 0]) (st := [vL s]) (c_X12_of hM h ⟨by omega, by omega⟩ 0 (by (first | decide | exact ⟨by omega, by omega⟩)) τ hIτ) mv_X12_184 rfl rfl rfl (a_88 hM) dX12_weightOf_68 ⟨Nat.le_of_ble_eq_true rfl, Nat.le_of_ble_eq_true rfl⟩ ⟨Nat.le_refl _, Nat.le_refl _⟩ rfl (Nat.le_of_ble_eq_true rfl) rfl (fun z7 σ8 hz7 => ?_)
      obtain ⟨r10, rfl, hr10, rfl, q9_0⟩ := hz7
      replace q9_0 : r10 = τ 92 (5 * h + (0 : Int)).toNat := q9_0
      refine j_st (st' := [vI r10, vL s]) rfl ?_
      refine j_i2l (pc := 71) dX12_weightOf_71 ?_
      rw [w32_eq (a := r10) (by omega) (by omega)]
      refine j_lmul (pc := 72) dX12_weightOf_72 ?_
      refine j_topL (fun z11 ez11 hz11 => ?_)
      exact j_lret (pc := 73) ⟨rfl, rfl⟩ dX12_weightOf_73 rfl ⟨_, rfl, ⟨by omega, by omega⟩, hIτ, hFτ, trivial⟩
    · refine j_aload_n (pc := 18) dX12_weightOf_18 rfl rfl ?_
      refine j_iconst (pc := 19) dX12_weightOf_19 ?_
      refine j_iload_n (pc := 20) dX12_weightOf_20 rfl rfl ?_
      refine j_iload (pc := 21) dX12_weightOf_21 rfl ?_
      refine j_callV (pc := 23) (As := [vI 0, vI h, vI g]) (st := []) (c_X12_falls hM 0 (by (first | decide | exact ⟨by omega, by omega⟩)) h ⟨by omega, by omega⟩ g ⟨by omega, by omega⟩ τ hIτ (by omega)) mv_X12_245 rfl rfl rfl (a_88 hM) dX12_weightOf_23 ⟨Nat.le_of_ble_eq_true rfl, Nat.le_of_ble_eq_true rfl⟩ ⟨Nat.le_refl _, Nat.le_refl _⟩ rfl (Nat.le_of_ble_eq_true rfl) rfl (fun z12 σ13 hz12 => ?_)
      obtain ⟨rfl, hIσ13, hGσ13, q14_0, q14_1⟩ := hz12
      replace q14_0 : (σ13 88 19, σ13 88 20, σ13 88 21, σ13 88 22) = fallG (wM τ) (gM (0 : Int) τ) h g h.toNat 0 := q14_0
      replace q14_1 : σ13 88 23 = strS (wM τ) h (σ13 88 19) := q14_1
      have hFσ13 : tw_F (fun c j => (c = 88 ∧ (j = 19 ∨ j = 20 ∨ j = 21 ∨ j = 22 ∨ j = 23))) σ σ13 := tw_F_tr hFτ hGσ13 (fun c j q => (show (c = 88 ∧ (j = 19 ∨ j = 20 ∨ j = 21 ∨ j = 22 ∨ j = 23)) from by replace q : (c = 88 ∧ (j = 19 ∨ j = 20 ∨ j = 21 ∨ j = 22 ∨ j = 23)) := q; exact q))
      refine j_st (st' := []) rfl ?_
      refine j_lload (pc := 26) dX12_weightOf_26 rfl ?_
      refine j_aload_n (pc := 28) dX12_weightOf_28 rfl rfl ?_
      refine j_getI (pc := 29) fl_X12_232 dX12_weightOf_29 (a_88 hM) rfl ?_
      have f16 : (-2147483648 : Int) ≤ σ13 88 22 ∧ σ13 88 22 ≤ 2147483647 := hIσ13 88 22
      refine j_iload_n (pc := 32) dX12_weightOf_32 rfl rfl ?_
      refine j_icmpR_ne (pc := 33) (tgt := 53) ⟨by omega, by omega⟩ ⟨by omega, by omega⟩ dX12_weightOf_33 rfl (fun h17 => ?_) (fun h17 => ?_)
      · refine j_lconst (pc := 53) (z := 0) dX12_weightOf_53 rfl ?_
        refine j_ladd (pc := 54) dX12_weightOf_54 ?_
        refine j_lstore (pc := 55) (i := 4) (ls' := [(0, vR 88), (1, vI p), (2, vI q), (3, vI h), (4, vL (s + 0)), (6, vI g)]) [1, 2, 3, 4, 0, 5] dX12_weightOf_55 (Nat.le_of_ble_eq_true rfl) rfl rfl ?_
        refine j_iinc (pc := 57) (i := 6) (n := 1) (ls' := [(0, vR 88), (1, vI p), (2, vI q), (3, vI h), (4, vL (s + 0)), (6, vI (g + 1))]) [1, 2, 3, 4, 5, 0] dX12_weightOf_57 rfl (Nat.le_of_ble_eq_true rfl) rfl rfl ?_
        refine j_goto (pc := 60) (tgt := 6) dX12_weightOf_60 rfl ?_
        refine j_ls (ls' := [(0, vR 88), (1, vI p), (2, vI q), (3, vI h), (4, vL (s + 0)), (6, vI (g + 1))]) [0, 1, 2, 3, 4, 5] rfl ?_
        exact ih (s + 0) ⟨by omega, by omega⟩ (g + 1) ⟨by omega, by omega⟩ σ13 hIσ13 hFσ13 (show (2147483647 - (g + 1)).toNat < N_ from by omega)
      · refine j_aload_n (pc := 36) dX12_weightOf_36 rfl rfl ?_
        refine j_callV (pc := 37) (As := []) (st := [vL s]) (c_X12_hung hM σ13 hIσ13) mv_X12_249 rfl rfl rfl (a_88 hM) dX12_weightOf_37 ⟨Nat.le_of_ble_eq_true rfl, Nat.le_of_ble_eq_true rfl⟩ ⟨Nat.le_refl _, Nat.le_refl _⟩ rfl (Nat.le_of_ble_eq_true rfl) rfl (fun z18 σ19 hz18 => ?_)
        obtain ⟨r21, rfl, hr21, rfl, -⟩ := hz18
        refine j_st (st' := [vI r21, vL s]) rfl ?_
        refine j_iload_n (pc := 40) dX12_weightOf_40 rfl rfl ?_
        refine j_icmpR_ne (pc := 41) (tgt := 53) ⟨by omega, by omega⟩ ⟨by omega, by omega⟩ dX12_weightOf_41 rfl (fun h22 => ?_) (fun h22 => ?_)
        · refine j_lconst (pc := 53) (z := 0) dX12_weightOf_53 rfl ?_
          refine j_ladd (pc := 54) dX12_weightOf_54 ?_
          refine j_lstore (pc := 55) (i := 4) (ls' := [(0, vR 88), (1, vI p), (2, vI q), (3, vI h), (4, vL (s + 0)), (6, vI g)]) [1, 2, 3, 4, 0, 5] dX12_weightOf_55 (Nat.le_of_ble_eq_true rfl) rfl rfl ?_
          refine j_iinc (pc := 57) (i := 6) (n := 1) (ls' := [(0, vR 88), (1, vI p), (2, vI q), (3, vI h), (4, vL (s + 0)), (6, vI (g + 1))]) [1, 2, 3, 4, 5, 0] dX12_weightOf_57 rfl (Nat.le_of_ble_eq_true rfl) rfl rfl ?_
          refine j_goto (pc := 60) (tgt := 6) dX12_weightOf_60 rfl ?_
          refine j_ls (ls' := [(0, vR 88), (1, vI p), (2, vI q), (3, vI h), (4, vL (s + 0)), (6, vI (g + 1))]) [0, 1, 2, 3, 4, 5] rfl ?_
          exact ih (s + 0) ⟨by omega, by omega⟩ (g + 1) ⟨by omega, by omega⟩ σ13 hIσ13 hFσ13 (show (2147483647 - (g + 1)).toNat < N_ from by omega)
        · refine j_aload_n (pc := 44) dX12_weightOf_44 rfl rfl ?_
          refine j_iload (pc := 45) dX12_weightOf_45 rfl ?_
          refine j_callV (pc := 47) (As := [vI g]) (st := [vL s]) (c_X12_likely hM g ⟨by omega, by omega⟩ σ13 hIσ13) mv_X12_259 rfl rfl rfl (a_88 hM) dX12_weightOf_47 ⟨Nat.le_of_ble_eq_true rfl, Nat.le_of_ble_eq_true rfl⟩ ⟨Nat.le_refl _, Nat.le_refl _⟩ rfl (Nat.le_of_ble_eq_true rfl) rfl (fun z23 σ24 hz23 => ?_)
          obtain ⟨r26, rfl, hr26, rfl, -⟩ := hz23
          refine j_st (st' := [vL r26, vL s]) rfl ?_
          refine j_goto (pc := 50) (tgt := 54) dX12_weightOf_50 rfl ?_
          refine j_ladd (pc := 54) dX12_weightOf_54 ?_
          refine j_topL (fun z27 ez27 hz27 => ?_)
          refine j_lstore (pc := 55) (i := 4) (ls' := [(0, vR 88), (1, vI p), (2, vI q), (3, vI h), (4, vL z27), (6, vI g)]) [1, 2, 3, 4, 0, 5] dX12_weightOf_55 (Nat.le_of_ble_eq_true rfl) rfl rfl ?_
          refine j_iinc (pc := 57) (i := 6) (n := 1) (ls' := [(0, vR 88), (1, vI p), (2, vI q), (3, vI h), (4, vL z27), (6, vI (g + 1))]) [1, 2, 3, 4, 5, 0] dX12_weightOf_57 rfl (Nat.le_of_ble_eq_true rfl) rfl rfl ?_
          refine j_goto (pc := 60) (tgt := 6) dX12_weightOf_60 rfl ?_
          refine j_ls (ls' := [(0, vR 88), (1, vI p), (2, vI q), (3, vI h), (4, vL z27), (6, vI (g + 1))]) [0, 1, 2, 3, 4, 5] rfl ?_
          exact ih z27 ⟨by omega, by omega⟩ (g + 1) ⟨by omega, by omega⟩ σ13 hIσ13 hFσ13 (show (2147483647 - (g + 1)).toNat < N_ from by omega)
set_option maxHeartbeats 4000000 in
set_option maxRecDepth 100000 in
theorem c_X12_weightOf {G : tw_G} (hM : tw_isM G) (p : Int) (hp : -2147483648 ≤ p ∧ p ≤ 2147483647) (q : Int) (hq : -2147483648 ≤ q ∧ q ≤ 2147483647) (h : Int) (hh : 1 ≤ h ∧ h ≤ 40) (σ : tw_M) (hI : tw_I σ) : tw_C G yX12_weightOf cX12_weightOf 7 (some .long) 4 [vR 88, vI p, vI q, vI h] σ (q_X12_weightOf p q h σ) := by
  refine tw_met [(0, vR 88), (1, vI p), (2, vI q), (3, vI h)] (by decide +kernel) rfl (Nat.le_of_ble_eq_true rfl) ?_
  refine j_lconst (pc := 0) (z := 0) dX12_weightOf_0 rfl ?_
  refine j_lstore (pc := 1) (i := 4) (ls' := [(0, vR 88), (1, vI p), (2, vI q), (3, vI h), (4, vL 0)]) [1, 2, 3, 4, 0] dX12_weightOf_1 (Nat.le_of_ble_eq_true rfl) rfl rfl ?_
  refine j_iconst (pc := 3) dX12_weightOf_3 ?_
  refine j_istore (pc := 4) (i := 6) (ls' := [(0, vR 88), (1, vI p), (2, vI q), (3, vI h), (4, vL 0), (6, vI 0)]) [1, 2, 3, 4, 5, 0] dX12_weightOf_4 (Nat.le_of_ble_eq_true rfl) rfl rfl ?_
  refine j_ls (ls' := [(0, vR 88), (1, vI p), (2, vI q), (3, vI h), (4, vL 0), (6, vI 0)]) [0, 1, 2, 3, 4, 5] rfl ?_
  exact (l_X12_weightOf hM p hp q hq h hh σ hI (((2147483647 - (0 : Int)).toNat) + 1)) 0 (by (first | decide | exact ⟨by omega, by omega⟩)) 0 (by (first | decide | exact ⟨by omega, by omega⟩)) σ hI (tw_F_rf) (Nat.lt_succ_self _)
