/-! 21ab.main -/
theorem dX11_keep_0 : decode cX11_keep 0 = .ok (.iload_n 1, 1) := by decide +kernel
theorem dX11_keep_1 : decode cX11_keep 1 = .ok (.iconst 1, 1) := by decide +kernel
theorem dX11_keep_2 : decode cX11_keep 2 = .ok (.if_icmp .lt 18, 3) := by decide +kernel
theorem dX11_keep_5 : decode cX11_keep 5 = .ok (.iload_n 1, 1) := by decide +kernel
theorem dX11_keep_6 : decode cX11_keep 6 = .ok (.bipush 40, 2) := by decide +kernel
theorem dX11_keep_8 : decode cX11_keep 8 = .ok (.if_icmp .gt 12, 3) := by decide +kernel
theorem dX11_keep_11 : decode cX11_keep 11 = .ok (.iload_n 2, 1) := by decide +kernel
theorem dX11_keep_12 : decode cX11_keep 12 = .ok (.ifCond .lt 8, 3) := by decide +kernel
theorem dX11_keep_15 : decode cX11_keep 15 = .ok (.iload_n 2, 1) := by decide +kernel
theorem dX11_keep_16 : decode cX11_keep 16 = .ok (.iconst 2, 1) := by decide +kernel
theorem dX11_keep_17 : decode cX11_keep 17 = .ok (.if_icmp .le 5, 3) := by decide +kernel
theorem dX11_keep_20 : decode cX11_keep 20 = .ok (.iconst (-1), 1) := by decide +kernel
theorem dX11_keep_21 : decode cX11_keep 21 = .ok (.ireturn, 1) := by decide +kernel
theorem dX11_keep_22 : decode cX11_keep 22 = .ok (.aload_n 0, 1) := by decide +kernel
theorem dX11_keep_23 : decode cX11_keep 23 = .ok (.getfield 67, 3) := by decide +kernel
theorem dX11_keep_26 : decode cX11_keep 26 = .ok (.iload_n 1, 1) := by decide +kernel
theorem dX11_keep_27 : decode cX11_keep 27 = .ok (.invokevirtual 297, 3) := by decide +kernel
theorem dX11_keep_30 : decode cX11_keep 30 = .ok (.iload_n 2, 1) := by decide +kernel
theorem dX11_keep_31 : decode cX11_keep 31 = .ok (.ifCond .ne 11, 3) := by decide +kernel
theorem dX11_keep_34 : decode cX11_keep 34 = .ok (.aload_n 0, 1) := by decide +kernel
theorem dX11_keep_35 : decode cX11_keep 35 = .ok (.getfield 67, 3) := by decide +kernel
theorem dX11_keep_38 : decode cX11_keep 38 = .ok (.invokevirtual 301, 3) := by decide +kernel
theorem dX11_keep_41 : decode cX11_keep 41 = .ok (.ireturn, 1) := by decide +kernel
theorem dX11_keep_42 : decode cX11_keep 42 = .ok (.iload_n 2, 1) := by decide +kernel
theorem dX11_keep_43 : decode cX11_keep 43 = .ok (.iconst 1, 1) := by decide +kernel
theorem dX11_keep_44 : decode cX11_keep 44 = .ok (.if_icmp .ne 13, 3) := by decide +kernel
theorem dX11_keep_47 : decode cX11_keep 47 = .ok (.aload_n 0, 1) := by decide +kernel
theorem dX11_keep_48 : decode cX11_keep 48 = .ok (.getfield 67, 3) := by decide +kernel
theorem dX11_keep_51 : decode cX11_keep 51 = .ok (.invokevirtual 304, 3) := by decide +kernel
theorem dX11_keep_54 : decode cX11_keep 54 = .ok (.goto 18, 3) := by decide +kernel
theorem dX11_keep_57 : decode cX11_keep 57 = .ok (.aload_n 0, 1) := by decide +kernel
theorem dX11_keep_58 : decode cX11_keep 58 = .ok (.getfield 67, 3) := by decide +kernel
theorem dX11_keep_61 : decode cX11_keep 61 = .ok (.invokevirtual 307, 3) := by decide +kernel
theorem dX11_keep_64 : decode cX11_keep 64 = .ok (.ifCond .eq 7, 3) := by decide +kernel
theorem dX11_keep_67 : decode cX11_keep 67 = .ok (.iconst 1, 1) := by decide +kernel
theorem dX11_keep_68 : decode cX11_keep 68 = .ok (.goto 4, 3) := by decide +kernel
theorem dX11_keep_71 : decode cX11_keep 71 = .ok (.iconst 0, 1) := by decide +kernel
theorem dX11_keep_72 : decode cX11_keep 72 = .ok (.ireturn, 1) := by decide +kernel
abbrev q_X11_keep (k : Int) (w : Int) (σ : tw_M) : Option tw_V → tw_M → Prop := fun z τ => ∃ r : Int, z = some (vI r) ∧ (-2147483648 ≤ r ∧ r ≤ 2147483647) ∧ tw_I τ ∧ tw_F (fun c j => (56 ≤ c ∧ c < 58) ∨ (c = 60 ∧ (j = 5)) ∨ (61 ≤ c ∧ c < 67)) σ τ ∧ True
set_option maxHeartbeats 4000000 in
set_option maxRecDepth 100000 in
theorem c_X11_keep {G : tw_G} (hX : tw_isX G) (k : Int) (hk : -2147483648 ≤ k ∧ k ≤ 2147483647) (w : Int) (hw : -2147483648 ≤ w ∧ w ≤ 2147483647) (σ : tw_M) (hI : tw_I σ) : tw_C G yX11_keep cX11_keep 3 (some .int) 5 [vR 0, vI k, vI w] σ (q_X11_keep k w σ) := by
  refine tw_met [(0, vR 0), (1, vI k), (2, vI w)] (by decide +kernel) rfl (Nat.le_of_ble_eq_true rfl) ?_
  refine j_iload_n (pc := 0) dX11_keep_0 rfl rfl ?_
  refine j_iconst (pc := 1) dX11_keep_1 ?_
  refine j_icmpR_lt (pc := 2) (tgt := 20) ⟨by omega, by omega⟩ ⟨by omega, by omega⟩ dX11_keep_2 rfl (fun h1 => ?_) (fun h1 => ?_)
  · refine j_iconst (pc := 20) dX11_keep_20 ?_
    exact j_iret (pc := 21) ⟨rfl, rfl⟩ dX11_keep_21 rfl ⟨_, rfl, ⟨by omega, by omega⟩, hI, (tw_F_rf), trivial⟩
  · refine j_iload_n (pc := 5) dX11_keep_5 rfl rfl ?_
    refine j_bipush (pc := 6) dX11_keep_6 rfl ?_
    refine j_icmpR_gt (pc := 8) (tgt := 20) ⟨by omega, by omega⟩ ⟨by omega, by omega⟩ dX11_keep_8 rfl (fun h2 => ?_) (fun h2 => ?_)
    · refine j_iconst (pc := 20) dX11_keep_20 ?_
      exact j_iret (pc := 21) ⟨rfl, rfl⟩ dX11_keep_21 rfl ⟨_, rfl, ⟨by omega, by omega⟩, hI, (tw_F_rf), trivial⟩
    · refine j_iload_n (pc := 11) dX11_keep_11 rfl rfl ?_
      refine j_ifR_lt (pc := 12) (tgt := 20) ⟨by omega, by omega⟩ dX11_keep_12 rfl (fun h3 => ?_) (fun h3 => ?_)
      · refine j_iconst (pc := 20) dX11_keep_20 ?_
        exact j_iret (pc := 21) ⟨rfl, rfl⟩ dX11_keep_21 rfl ⟨_, rfl, ⟨by omega, by omega⟩, hI, (tw_F_rf), trivial⟩
      · refine j_iload_n (pc := 15) dX11_keep_15 rfl rfl ?_
        refine j_iconst (pc := 16) dX11_keep_16 ?_
        refine j_icmpR_le (pc := 17) (tgt := 22) ⟨by omega, by omega⟩ ⟨by omega, by omega⟩ dX11_keep_17 rfl (fun h4 => ?_) (fun h4 => ?_)
        · refine j_aload_n (pc := 22) dX11_keep_22 rfl rfl ?_
          refine j_getR (pc := 23) (r := 60) fl_X11_67 dX11_keep_23 (a_0 hX) rfl ?_
          refine j_iload_n (pc := 26) dX11_keep_26 rfl rfl ?_
          refine j_callV (pc := 27) (As := [vI k]) (st := []) (c_X5_follow hX k ⟨by omega, by omega⟩ σ hI) mv_X11_297 rfl rfl rfl (a_60 hX) dX11_keep_27 ⟨Nat.le_of_ble_eq_true rfl, Nat.le_of_ble_eq_true rfl⟩ ⟨Nat.le_refl _, Nat.le_refl _⟩ rfl (Nat.le_of_ble_eq_true rfl) rfl (fun z5 σ6 hz5 => ?_)
          obtain ⟨rfl, hIσ6, hGσ6, -⟩ := hz5
          have hFσ6 : tw_F (fun c j => (56 ≤ c ∧ c < 58) ∨ (c = 60 ∧ (j = 5)) ∨ (61 ≤ c ∧ c < 67)) σ σ6 := tw_F_tr (tw_F_rf) hGσ6 (fun c j q => (show (56 ≤ c ∧ c < 58) ∨ (c = 60 ∧ (j = 5)) ∨ (61 ≤ c ∧ c < 67) from by replace q : (c = 60 ∧ (j = 5)) ∨ (61 ≤ c ∧ c < 67) := q; exact (q.elim (fun q => (Or.inr (Or.inl q))) (fun q => (Or.inr (Or.inr q))))))
          refine j_st (st' := []) rfl ?_
          refine j_iload_n (pc := 30) dX11_keep_30 rfl rfl ?_
          refine j_ifR_ne (pc := 31) (tgt := 42) ⟨by omega, by omega⟩ dX11_keep_31 rfl (fun h9 => ?_) (fun h9 => ?_)
          · refine j_iload_n (pc := 42) dX11_keep_42 rfl rfl ?_
            refine j_iconst (pc := 43) dX11_keep_43 ?_
            refine j_icmpR_ne (pc := 44) (tgt := 57) ⟨by omega, by omega⟩ ⟨by omega, by omega⟩ dX11_keep_44 rfl (fun h10 => ?_) (fun h10 => ?_)
            · refine j_aload_n (pc := 57) dX11_keep_57 rfl rfl ?_
              refine j_getR (pc := 58) (r := 60) fl_X11_67 dX11_keep_58 (a_0 hX) rfl ?_
              refine j_callV (pc := 61) (As := []) (st := []) (c_X5_ruleIsTooMuch hX σ6 hIσ6) mv_X11_307 rfl rfl rfl (a_60 hX) dX11_keep_61 ⟨Nat.le_of_ble_eq_true rfl, Nat.le_of_ble_eq_true rfl⟩ ⟨Nat.le_refl _, Nat.le_refl _⟩ rfl (Nat.le_of_ble_eq_true rfl) rfl (fun z11 σ12 hz11 => ?_)
              obtain ⟨r14, rfl, hr14, hIσ12, hGσ12, -⟩ := hz11
              have hFσ12 : tw_F (fun c j => (56 ≤ c ∧ c < 58) ∨ (c = 60 ∧ (j = 5)) ∨ (61 ≤ c ∧ c < 67)) σ σ12 := tw_F_tr hFσ6 hGσ12 (fun c j q => (show (56 ≤ c ∧ c < 58) ∨ (c = 60 ∧ (j = 5)) ∨ (61 ≤ c ∧ c < 67) from by replace q : (56 ≤ c ∧ c < 58) := q; exact (Or.inl q)))
              refine j_st (st' := [vI r14]) rfl ?_
              refine j_ifR_eq (pc := 64) (tgt := 71) ⟨by omega, by omega⟩ dX11_keep_64 rfl (fun h15 => ?_) (fun h15 => ?_)
              · refine j_iconst (pc := 71) dX11_keep_71 ?_
                exact j_iret (pc := 72) ⟨rfl, rfl⟩ dX11_keep_72 rfl ⟨_, rfl, ⟨by omega, by omega⟩, hIσ12, hFσ12, trivial⟩
              · refine j_iconst (pc := 67) dX11_keep_67 ?_
                refine j_goto (pc := 68) (tgt := 72) dX11_keep_68 rfl ?_
                exact j_iret (pc := 72) ⟨rfl, rfl⟩ dX11_keep_72 rfl ⟨_, rfl, ⟨by omega, by omega⟩, hIσ12, hFσ12, trivial⟩
            · refine j_aload_n (pc := 47) dX11_keep_47 rfl rfl ?_
              refine j_getR (pc := 48) (r := 60) fl_X11_67 dX11_keep_48 (a_0 hX) rfl ?_
              refine j_callV (pc := 51) (As := []) (st := []) (c_X5_ruleSize hX σ6 hIσ6) mv_X11_304 rfl rfl rfl (a_60 hX) dX11_keep_51 ⟨Nat.le_of_ble_eq_true rfl, Nat.le_of_ble_eq_true rfl⟩ ⟨Nat.le_refl _, Nat.le_refl _⟩ rfl (Nat.le_of_ble_eq_true rfl) rfl (fun z16 σ17 hz16 => ?_)
              obtain ⟨r19, rfl, hr19, rfl, -⟩ := hz16
              refine j_st (st' := [vI r19]) rfl ?_
              refine j_goto (pc := 54) (tgt := 72) dX11_keep_54 rfl ?_
              exact j_iret (pc := 72) ⟨rfl, rfl⟩ dX11_keep_72 rfl ⟨_, rfl, ⟨by omega, by omega⟩, hIσ6, hFσ6, trivial⟩
          · refine j_aload_n (pc := 34) dX11_keep_34 rfl rfl ?_
            refine j_getR (pc := 35) (r := 60) fl_X11_67 dX11_keep_35 (a_0 hX) rfl ?_
            refine j_callV (pc := 38) (As := []) (st := []) (c_X5_ruleRisk hX σ6 hIσ6) mv_X11_301 rfl rfl rfl (a_60 hX) dX11_keep_38 ⟨Nat.le_of_ble_eq_true rfl, Nat.le_of_ble_eq_true rfl⟩ ⟨Nat.le_refl _, Nat.le_refl _⟩ rfl (Nat.le_of_ble_eq_true rfl) rfl (fun z20 σ21 hz20 => ?_)
            obtain ⟨r23, rfl, hr23, hIσ21, hGσ21, -⟩ := hz20
            have hFσ21 : tw_F (fun c j => (56 ≤ c ∧ c < 58) ∨ (c = 60 ∧ (j = 5)) ∨ (61 ≤ c ∧ c < 67)) σ σ21 := tw_F_tr hFσ6 hGσ21 (fun c j q => (show (56 ≤ c ∧ c < 58) ∨ (c = 60 ∧ (j = 5)) ∨ (61 ≤ c ∧ c < 67) from by replace q : (56 ≤ c ∧ c < 58) := q; exact (Or.inl q)))
            refine j_st (st' := [vI r23]) rfl ?_
            exact j_iret (pc := 41) ⟨rfl, rfl⟩ dX11_keep_41 rfl ⟨_, rfl, ⟨by omega, by omega⟩, hIσ21, hFσ21, trivial⟩
        · refine j_iconst (pc := 20) dX11_keep_20 ?_
          exact j_iret (pc := 21) ⟨rfl, rfl⟩ dX11_keep_21 rfl ⟨_, rfl, ⟨by omega, by omega⟩, hI, (tw_F_rf), trivial⟩
