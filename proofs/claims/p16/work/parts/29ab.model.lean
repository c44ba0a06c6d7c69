/-! 29ab.model -/
theorem dX12_follows_0 : decode cX12_follows 0 = .ok (.iconst 0, 1) := by decide +kernel
theorem dX12_follows_1 : decode cX12_follows 1 = .ok (.istore_n 2, 1) := by decide +kernel
theorem dX12_follows_2 : decode cX12_follows 2 = .ok (.iconst 0, 1) := by decide +kernel
theorem dX12_follows_3 : decode cX12_follows 3 = .ok (.istore_n 3, 1) := by decide +kernel
theorem dX12_follows_4 : decode cX12_follows 4 = .ok (.aload_n 0, 1) := by decide +kernel
theorem dX12_follows_5 : decode cX12_follows 5 = .ok (.invokevirtual 286, 3) := by decide +kernel
theorem dX12_follows_8 : decode cX12_follows 8 = .ok (.iconst 1, 1) := by decide +kernel
theorem dX12_follows_9 : decode cX12_follows 9 = .ok (.istore 4, 2) := by decide +kernel
theorem dX12_follows_11 : decode cX12_follows 11 = .ok (.iload 4, 2) := by decide +kernel
theorem dX12_follows_13 : decode cX12_follows 13 = .ok (.aload_n 0, 1) := by decide +kernel
theorem dX12_follows_14 : decode cX12_follows 14 = .ok (.getfield 17, 3) := by decide +kernel
theorem dX12_follows_17 : decode cX12_follows 17 = .ok (.iconst 0, 1) := by decide +kernel
theorem dX12_follows_18 : decode cX12_follows 18 = .ok (.iaload, 1) := by decide +kernel
theorem dX12_follows_19 : decode cX12_follows 19 = .ok (.if_icmp .gt 52, 3) := by decide +kernel
theorem dX12_follows_22 : decode cX12_follows 22 = .ok (.iload_n 3, 1) := by decide +kernel
theorem dX12_follows_23 : decode cX12_follows 23 = .ok (.bipush 10, 2) := by decide +kernel
theorem dX12_follows_25 : decode cX12_follows 25 = .ok (.if_icmp .ge 46, 3) := by decide +kernel
theorem dX12_follows_28 : decode cX12_follows 28 = .ok (.aload_n 0, 1) := by decide +kernel
theorem dX12_follows_29 : decode cX12_follows 29 = .ok (.iload 4, 2) := by decide +kernel
theorem dX12_follows_31 : decode cX12_follows 31 = .ok (.iconst 1, 1) := by decide +kernel
theorem dX12_follows_32 : decode cX12_follows 32 = .ok (.invokevirtual 184, 3) := by decide +kernel
theorem dX12_follows_35 : decode cX12_follows 35 = .ok (.ifCond .le 30, 3) := by decide +kernel
theorem dX12_follows_38 : decode cX12_follows 38 = .ok (.iload 4, 2) := by decide +kernel
theorem dX12_follows_40 : decode cX12_follows 40 = .ok (.iload_n 2, 1) := by decide +kernel
theorem dX12_follows_41 : decode cX12_follows 41 = .ok (.isub, 1) := by decide +kernel
theorem dX12_follows_42 : decode cX12_follows 42 = .ok (.iload_n 1, 1) := by decide +kernel
theorem dX12_follows_43 : decode cX12_follows 43 = .ok (.if_icmp .lt 17, 3) := by decide +kernel
theorem dX12_follows_46 : decode cX12_follows 46 = .ok (.aload_n 0, 1) := by decide +kernel
theorem dX12_follows_47 : decode cX12_follows 47 = .ok (.iload 4, 2) := by decide +kernel
theorem dX12_follows_49 : decode cX12_follows 49 = .ok (.invokevirtual 289, 3) := by decide +kernel
theorem dX12_follows_52 : decode cX12_follows 52 = .ok (.ifCond .eq 8, 3) := by decide +kernel
theorem dX12_follows_55 : decode cX12_follows 55 = .ok (.iload 4, 2) := by decide +kernel
theorem dX12_follows_57 : decode cX12_follows 57 = .ok (.goto 4, 3) := by decide +kernel
theorem dX12_follows_60 : decode cX12_follows 60 = .ok (.iload_n 2, 1) := by decide +kernel
theorem dX12_follows_61 : decode cX12_follows 61 = .ok (.istore_n 2, 1) := by decide +kernel
theorem dX12_follows_62 : decode cX12_follows 62 = .ok (.iinc 3 1, 3) := by decide +kernel
theorem dX12_follows_65 : decode cX12_follows 65 = .ok (.iinc 4 1, 3) := by decide +kernel
theorem dX12_follows_68 : decode cX12_follows 68 = .ok (.goto (-57), 3) := by decide +kernel
theorem dX12_follows_71 : decode cX12_follows 71 = .ok (.return_, 1) := by decide +kernel
abbrev q_X12_follows (e : Int) (σ : tw_M) : Option tw_V → tw_M → Prop := fun z τ => z = none ∧ tw_I τ ∧ tw_F (fun c j => (c = 89 ∧ 300 ≤ j)) σ τ ∧ True
set_option maxHeartbeats 4000000 in
set_option maxRecDepth 100000 in
theorem l_X12_follows {G : tw_G} (hM : tw_isM G) (e : Int) (he : -2147483648 ≤ e ∧ e ≤ 2147483647) (σ : tw_M) (hI : tw_I σ) : ∀ N_ : Nat, (∀ (l : Int) (hl : 0 ≤ l ∧ l ≤ 40) (n : Int) (hn : 0 ≤ n ∧ n ≤ 10) (h : Int) (hh : 1 ≤ h ∧ h ≤ 41) (τ : tw_M) (hIτ : tw_I τ) (hFτ : tw_F (fun c j => (c = 89 ∧ 300 ≤ j)) σ τ)  (hm : (41 - h).toNat < N_), tw_J G (tw_mt RX12 cX12_follows 5 none 2) (tw_E G (q_X12_follows e σ)) 11 [(0, vR 88), (1, vI e), (2, vI l), (3, vI n), (4, vI h)] [] τ) := by
  intro N_
  induction N_ with
  | zero => exact fun l hl n hn h hh τ hIτ hFτ hm => absurd hm (Nat.not_lt_zero _)
  | succ N_ ih =>
    intro l hl n hn h hh τ hIτ hFτ hm
    refine j_iload (pc := 11) dX12_follows_11 rfl ?_
    refine j_aload_n (pc := 13) dX12_follows_13 rfl rfl ?_
    refine j_getR (pc := 14) (r := 91) fl_X12_17 dX12_follows_14 (a_88 hM) rfl ?_
    refine j_iconst (pc := 17) dX12_follows_17 ?_
    refine j_iald (pc := 18) dX12_follows_18 (a_91 hM) (by omega) (by omega) (by decide) ?_
    refine j_topV (show τ 91 (Int.toNat 0) = τ 91 0 from rfl) ?_
    have f1 : (1 : Int) ≤ τ 91 0 ∧ τ 91 0 ≤ 40 := hIτ 91 0
    refine j_icmpR_gt (pc := 19) (tgt := 71) ⟨by omega, by omega⟩ ⟨by omega, by omega⟩ dX12_follows_19 rfl (fun h2 => ?_) (fun h2 => ?_)
    · exact j_vret (pc := 71) ⟨rfl, rfl⟩ dX12_follows_71 rfl ⟨rfl, hIτ, hFτ, trivial⟩
    · refine j_iload_n (pc := 22) dX12_follows_22 rfl rfl ?_
      refine j_bipush (pc := 23) dX12_follows_23 rfl ?_
      refine j_icmpR_ge (pc := 25) (tgt := 71) ⟨by omega, by omega⟩ ⟨by omega, by omega⟩ dX12_follows_25 rfl (fun h3 => ?_) (fun h3 => ?_)
      · exact j_vret (pc := 71) ⟨rfl, rfl⟩ dX12_follows_71 rfl ⟨rfl, hIτ, hFτ, trivial⟩
      · refine j_aload_n (pc := 28) dX12_follows_28 rfl rfl ?_
        refine j_iload (pc := 29) dX12_follows_29 rfl ?_
        refine j_iconst (pc := 31) dX12_follows_31 ?_
        refine j_callV (pc := 32) (As := [vI h, vI 1]) (st := []) (c_X12_of hM h ⟨by omega, by omega⟩ 1 (by (first | decide | exact ⟨by omega, by omega⟩)) τ hIτ) mv_X12_184 rfl rfl rfl (a_88 hM) dX12_follows_32 ⟨Nat.le_of_ble_eq_true rfl, Nat.le_of_ble_eq_true rfl⟩ ⟨Nat.le_refl _, Nat.le_refl _⟩ rfl (Nat.le_of_ble_eq_true rfl) rfl (fun z4 σ5 hz4 => ?_)
        obtain ⟨r7, rfl, hr7, rfl, q6_0⟩ := hz4
        replace q6_0 : r7 = τ 92 (5 * h + (1 : Int)).toNat := q6_0
        refine j_st (st' := [vI r7]) rfl ?_
        refine j_ifR_le (pc := 35) (tgt := 65) ⟨by omega, by omega⟩ dX12_follows_35 rfl (fun h8 => ?_) (fun h8 => ?_)
        · refine j_iinc (pc := 65) (i := 4) (n := 1) (ls' := [(0, vR 88), (1, vI e), (2, vI l), (3, vI n), (4, vI (h + 1))]) [1, 2, 3, 4, 0] dX12_follows_65 rfl (Nat.le_of_ble_eq_true rfl) rfl rfl ?_
          refine j_goto (pc := 68) (tgt := 11) dX12_follows_68 rfl ?_
          refine j_ls (ls' := [(0, vR 88), (1, vI e), (2, vI l), (3, vI n), (4, vI (h + 1))]) [0, 1, 2, 3, 4] rfl ?_
          exact ih l ⟨by omega, by omega⟩ n ⟨by omega, by omega⟩ (h + 1) ⟨by omega, by omega⟩ τ hIτ hFτ (show (41 - (h + 1)).toNat < N_ from by omega)
        · refine j_iload (pc := 38) dX12_follows_38 rfl ?_
          refine j_iload_n (pc := 40) dX12_follows_40 rfl rfl ?_
          refine j_isub (pc := 41) dX12_follows_41 ?_
          refine j_iload_n (pc := 42) dX12_follows_42 rfl rfl ?_
          refine j_icmpR_lt (pc := 43) (tgt := 60) ⟨by omega, by omega⟩ ⟨by omega, by omega⟩ dX12_follows_43 rfl (fun h9 => ?_) (fun h9 => ?_)
          · refine j_iload_n (pc := 60) dX12_follows_60 rfl rfl ?_
            refine j_istore_n (pc := 61) (i := 2) (ls' := [(0, vR 88), (1, vI e), (2, vI l), (3, vI n), (4, vI h)]) [1, 2, 0, 3, 4] dX12_follows_61 rfl (Nat.le_of_ble_eq_true rfl) rfl rfl ?_
            refine j_iinc (pc := 62) (i := 3) (n := 1) (ls' := [(0, vR 88), (1, vI e), (2, vI l), (3, vI (n + 1)), (4, vI h)]) [1, 2, 3, 0, 4] dX12_follows_62 rfl (Nat.le_of_ble_eq_true rfl) rfl rfl ?_
            refine j_iinc (pc := 65) (i := 4) (n := 1) (ls' := [(0, vR 88), (1, vI e), (2, vI l), (3, vI (n + 1)), (4, vI (h + 1))]) [1, 2, 3, 4, 0] dX12_follows_65 rfl (Nat.le_of_ble_eq_true rfl) rfl rfl ?_
            refine j_goto (pc := 68) (tgt := 11) dX12_follows_68 rfl ?_
            refine j_ls (ls' := [(0, vR 88), (1, vI e), (2, vI l), (3, vI (n + 1)), (4, vI (h + 1))]) [0, 1, 2, 3, 4] rfl ?_
            exact ih l ⟨by omega, by omega⟩ (n + 1) ⟨by omega, by omega⟩ (h + 1) ⟨by omega, by omega⟩ τ hIτ hFτ (show (41 - (h + 1)).toNat < N_ from by omega)
          · refine j_aload_n (pc := 46) dX12_follows_46 rfl rfl ?_
            refine j_iload (pc := 47) dX12_follows_47 rfl ?_
            refine j_callV (pc := 49) (As := [vI h]) (st := []) (c_X12_puts hM h ⟨by omega, by omega⟩ τ hIτ) mv_X12_289 rfl rfl rfl (a_88 hM) dX12_follows_49 ⟨Nat.le_of_ble_eq_true rfl, Nat.le_of_ble_eq_true rfl⟩ ⟨Nat.le_refl _, Nat.le_refl _⟩ rfl (Nat.le_of_ble_eq_true rfl) rfl (fun z10 σ11 hz10 => ?_)
            obtain ⟨r13, rfl, hr13, hIσ11, hGσ11, q12_0⟩ := hz10
            replace q12_0 : (r13 = 0 ∧ τ 89 (382 + mCr τ h).toNat = 0 ∧ σ11 = τ) ∨ (r13 = 1 ∧ ¬ τ 89 (382 + mCr τ h).toNat = 0 ∧ ∃ τ1, τ1 = tw_up τ 89 (382 + mCr τ h).toNat (tw_w32 (τ 89 (382 + mCr τ h).toNat - 1)) ∧ σ11 = tw_up τ1 89 (300 + h).toNat (mCr τ h)) := q12_0
            have hFσ11 : tw_F (fun c j => (c = 89 ∧ 300 ≤ j)) σ σ11 := tw_F_tr hFτ hGσ11 (fun c j q => (show (c = 89 ∧ 300 ≤ j) from by replace q : (c = 89 ∧ 300 ≤ j) := q; exact q))
            refine j_st (st' := [vI r13]) rfl ?_
            refine j_ifR_eq (pc := 52) (tgt := 60) ⟨by omega, by omega⟩ dX12_follows_52 rfl (fun h14 => ?_) (fun h14 => ?_)
            · refine j_iload_n (pc := 60) dX12_follows_60 rfl rfl ?_
              refine j_istore_n (pc := 61) (i := 2) (ls' := [(0, vR 88), (1, vI e), (2, vI l), (3, vI n), (4, vI h)]) [1, 2, 0, 3, 4] dX12_follows_61 rfl (Nat.le_of_ble_eq_true rfl) rfl rfl ?_
              refine j_iinc (pc := 62) (i := 3) (n := 1) (ls' := [(0, vR 88), (1, vI e), (2, vI l), (3, vI (n + 1)), (4, vI h)]) [1, 2, 3, 0, 4] dX12_follows_62 rfl (Nat.le_of_ble_eq_true rfl) rfl rfl ?_
              refine j_iinc (pc := 65) (i := 4) (n := 1) (ls' := [(0, vR 88), (1, vI e), (2, vI l), (3, vI (n + 1)), (4, vI (h + 1))]) [1, 2, 3, 4, 0] dX12_follows_65 rfl (Nat.le_of_ble_eq_true rfl) rfl rfl ?_
              refine j_goto (pc := 68) (tgt := 11) dX12_follows_68 rfl ?_
              refine j_ls (ls' := [(0, vR 88), (1, vI e), (2, vI l), (3, vI (n + 1)), (4, vI (h + 1))]) [0, 1, 2, 3, 4] rfl ?_
              exact ih l ⟨by omega, by omega⟩ (n + 1) ⟨by omega, by omega⟩ (h + 1) ⟨by omega, by omega⟩ σ11 hIσ11 hFσ11 (show (41 - (h + 1)).toNat < N_ from by omega)
            · refine j_iload (pc := 55) dX12_follows_55 rfl ?_
              refine j_goto (pc := 57) (tgt := 61) dX12_follows_57 rfl ?_
              refine j_istore_n (pc := 61) (i := 2) (ls' := [(0, vR 88), (1, vI e), (2, vI h), (3, vI n), (4, vI h)]) [1, 2, 0, 3, 4] dX12_follows_61 rfl (Nat.le_of_ble_eq_true rfl) rfl rfl ?_
              refine j_iinc (pc := 62) (i := 3) (n := 1) (ls' := [(0, vR 88), (1, vI e), (2, vI h), (3, vI (n + 1)), (4, vI h)]) [1, 2, 3, 0, 4] dX12_follows_62 rfl (Nat.le_of_ble_eq_true rfl) rfl rfl ?_
              refine j_iinc (pc := 65) (i := 4) (n := 1) (ls' := [(0, vR 88), (1, vI e), (2, vI h), (3, vI (n + 1)), (4, vI (h + 1))]) [1, 2, 3, 4, 0] dX12_follows_65 rfl (Nat.le_of_ble_eq_true rfl) rfl rfl ?_
              refine j_goto (pc := 68) (tgt := 11) dX12_follows_68 rfl ?_
              refine j_ls (ls' := [(0, vR 88), (1, vI e), (2, vI h), (3, vI (n + 1)), (4, vI (h + 1))]) [0, 1, 2, 3, 4] rfl ?_
              exact ih h ⟨by omega, by omega⟩ (n + 1) ⟨by omega, by omega⟩ (h + 1) ⟨by omega, by omega⟩ σ11 hIσ11 hFσ11 (show (41 - (h + 1)).toNat < N_ from by omega)
set_option maxHeartbeats 4000000 in
set_option maxRecDepth 100000 in
theorem c_X12_follows {G : tw_G} (hM : tw_isM G) (e : Int) (he : -2147483648 ≤ e ∧ e ≤ 2147483647) (σ : tw_M) (hI : tw_I σ) : tw_C G yX12_follows cX12_follows 5 none 2 [vR 88, vI e] σ (q_X12_follows e σ) := by
  refine tw_met [(0, vR 88), (1, vI e)] (by decide +kernel) rfl (Nat.le_of_ble_eq_true rfl) ?_
  refine j_iconst (pc := 0) dX12_follows_0 ?_
  refine j_istore_n (pc := 1) (i := 2) (ls' := [(0, vR 88), (1, vI e), (2, vI 0)]) [1, 2, 0] dX12_follows_1 rfl (Nat.le_of_ble_eq_true rfl) rfl rfl ?_
  refine j_iconst (pc := 2) dX12_follows_2 ?_
  refine j_istore_n (pc := 3) (i := 3) (ls' := [(0, vR 88), (1, vI e), (2, vI 0), (3, vI 0)]) [1, 2, 3, 0] dX12_follows_3 rfl (Nat.le_of_ble_eq_true rfl) rfl rfl ?_
  refine j_aload_n (pc := 4) dX12_follows_4 rfl rfl ?_
  refine j_callV (pc := 5) (As := []) (st := []) (c_X12_bares hM σ hI) mv_X12_286 rfl rfl rfl (a_88 hM) dX12_follows_5 ⟨Nat.le_of_ble_eq_true rfl, Nat.le_of_ble_eq_true rfl⟩ ⟨Nat.le_refl _, Nat.le_refl _⟩ rfl (Nat.le_of_ble_eq_true rfl) rfl (fun z15 σ16 hz15 => ?_)
  obtain ⟨rfl, hIσ16, hGσ16, q17_0, q17_1⟩ := hz15
  replace q17_0 : BZ σ σ16 := q17_0
  replace q17_1 : ∀ rk : Nat → Int, MOK rk σ → BJZ rk σ16 := q17_1
  have hFσ16 : tw_F (fun c j => (c = 89 ∧ 300 ≤ j)) σ σ16 := tw_F_tr (tw_F_rf) hGσ16 (fun c j q => (show (c = 89 ∧ 300 ≤ j) from by replace q : (c = 89 ∧ 300 ≤ j) := q; exact q))
  refine j_st (st' := []) rfl ?_
  refine j_iconst (pc := 8) dX12_follows_8 ?_
  refine j_istore (pc := 9) (i := 4) (ls' := [(0, vR 88), (1, vI e), (2, vI 0), (3, vI 0), (4, vI 1)]) [1, 2, 3, 4, 0] dX12_follows_9 (Nat.le_of_ble_eq_true rfl) rfl rfl ?_
  refine j_ls (ls' := [(0, vR 88), (1, vI e), (2, vI 0), (3, vI 0), (4, vI 1)]) [0, 1, 2, 3, 4] rfl ?_
  exact (l_X12_follows hM e he σ hI (((41 - (1 : Int)).toNat) + 1)) 0 (by (first | decide | exact ⟨by omega, by omega⟩)) 0 (by (first | decide | exact ⟨by omega, by omega⟩)) 1 (by (first | decide | exact ⟨by omega, by omega⟩)) σ16 hIσ16 hFσ16 (Nat.lt_succ_self _)
