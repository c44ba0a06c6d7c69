/-! 35ad.model -/
theorem dX12_highest_0 : decode cX12_highest 0 = .ok (.iload_n 1, 1) := by decide +kernel
theorem dX12_highest_1 : decode cX12_highest 1 = .ok (.ifCond .ne 8, 3) := by decide +kernel
theorem dX12_highest_4 : decode cX12_highest 4 = .ok (.bipush 40, 2) := by decide +kernel
theorem dX12_highest_6 : decode cX12_highest 6 = .ok (.goto 62, 3) := by decide +kernel
theorem dX12_highest_9 : decode cX12_highest 9 = .ok (.iload_n 1, 1) := by decide +kernel
theorem dX12_highest_10 : decode cX12_highest 10 = .ok (.iconst 1, 1) := by decide +kernel
theorem dX12_highest_11 : decode cX12_highest 11 = .ok (.if_icmp .ne 9, 3) := by decide +kernel
theorem dX12_highest_14 : decode cX12_highest 14 = .ok (.sipush 999, 3) := by decide +kernel
theorem dX12_highest_17 : decode cX12_highest 17 = .ok (.goto 51, 3) := by decide +kernel
theorem dX12_highest_20 : decode cX12_highest 20 = .ok (.iload_n 1, 1) := by decide +kernel
theorem dX12_highest_21 : decode cX12_highest 21 = .ok (.iconst 2, 1) := by decide +kernel
theorem dX12_highest_22 : decode cX12_highest 22 = .ok (.if_icmp .ne 8, 3) := by decide +kernel
theorem dX12_highest_25 : decode cX12_highest 25 = .ok (.bipush 99, 2) := by decide +kernel
theorem dX12_highest_27 : decode cX12_highest 27 = .ok (.goto 41, 3) := by decide +kernel
theorem dX12_highest_30 : decode cX12_highest 30 = .ok (.iload_n 1, 1) := by decide +kernel
theorem dX12_highest_31 : decode cX12_highest 31 = .ok (.iconst 3, 1) := by decide +kernel
theorem dX12_highest_32 : decode cX12_highest 32 = .ok (.if_icmp .eq 9, 3) := by decide +kernel
theorem dX12_highest_35 : decode cX12_highest 35 = .ok (.iload_n 1, 1) := by decide +kernel
theorem dX12_highest_36 : decode cX12_highest 36 = .ok (.bipush 7, 2) := by decide +kernel
theorem dX12_highest_38 : decode cX12_highest 38 = .ok (.if_icmp .ne 8, 3) := by decide +kernel
theorem dX12_highest_41 : decode cX12_highest 41 = .ok (.bipush 60, 2) := by decide +kernel
theorem dX12_highest_43 : decode cX12_highest 43 = .ok (.goto 25, 3) := by decide +kernel
theorem dX12_highest_46 : decode cX12_highest 46 = .ok (.iload_n 1, 1) := by decide +kernel
theorem dX12_highest_47 : decode cX12_highest 47 = .ok (.iconst 4, 1) := by decide +kernel
theorem dX12_highest_48 : decode cX12_highest 48 = .ok (.if_icmp .ne 8, 3) := by decide +kernel
theorem dX12_highest_51 : decode cX12_highest 51 = .ok (.bipush 50, 2) := by decide +kernel
theorem dX12_highest_53 : decode cX12_highest 53 = .ok (.goto 15, 3) := by decide +kernel
theorem dX12_highest_56 : decode cX12_highest 56 = .ok (.iload_n 1, 1) := by decide +kernel
theorem dX12_highest_57 : decode cX12_highest 57 = .ok (.iconst 5, 1) := by decide +kernel
theorem dX12_highest_58 : decode cX12_highest 58 = .ok (.if_icmp .ne 8, 3) := by decide +kernel
theorem dX12_highest_61 : decode cX12_highest 61 = .ok (.bipush 20, 2) := by decide +kernel
theorem dX12_highest_63 : decode cX12_highest 63 = .ok (.goto 5, 3) := by decide +kernel
theorem dX12_highest_66 : decode cX12_highest 66 = .ok (.bipush 9, 2) := by decide +kernel
theorem dX12_highest_68 : decode cX12_highest 68 = .ok (.ireturn, 1) := by decide +kernel
abbrev q_X12_highest (k : Int) (σ : tw_M) : Option tw_V → tw_M → Prop := fun z τ => ∃ r : Int, z = some (vI r) ∧ (-2147483648 ≤ r ∧ r ≤ 2147483647) ∧ σ = τ ∧ ((k = 0 ∧ r = 40) ∨ (k = 1 ∧ r = 999) ∨ (k = 2 ∧ r = 99) ∨ (k = 3 ∧ r = 60) ∨ (k = 7 ∧ r = 60) ∨ (k = 4 ∧ r = 50) ∨ (k = 5 ∧ r = 20) ∨ ((k < 0 ∨ k = 6 ∨ 7 < k) ∧ r = 9))
set_option maxHeartbeats 4000000 in
set_option maxRecDepth 100000 in
theorem c_X12_highest {G : tw_G} (hM : tw_isM G) (k : Int) (hk : -2147483648 ≤ k ∧ k ≤ 2147483647) (σ : tw_M) (hI : tw_I σ) : tw_C G yX12_highest cX12_highest 2 (some .int) 0 [vR 88, vI k] σ (q_X12_highest k σ) := by
  refine tw_met [(0, vR 88), (1, vI k)] (by decide +kernel) rfl (Nat.le_of_ble_eq_true rfl) ?_
  refine j_iload_n (pc := 0) dX12_highest_0 rfl rfl ?_
  refine j_ifR_ne (pc := 1) (tgt := 9) ⟨by omega, by omega⟩ dX12_highest_1 rfl (fun h1 => ?_) (fun h1 => ?_)
  · refine j_iload_n (pc := 9) dX12_highest_9 rfl rfl ?_
    refine j_iconst (pc := 10) dX12_highest_10 ?_
    refine j_icmpR_ne (pc := 11) (tgt := 20) ⟨by omega, by omega⟩ ⟨by omega, by omega⟩ dX12_highest_11 rfl (fun h2 => ?_) (fun h2 => ?_)
    · refine j_iload_n (pc := 20) dX12_highest_20 rfl rfl ?_
      refine j_iconst (pc := 21) dX12_highest_21 ?_
      refine j_icmpR_ne (pc := 22) (tgt := 30) ⟨by omega, by omega⟩ ⟨by omega, by omega⟩ dX12_highest_22 rfl (fun h3 => ?_) (fun h3 => ?_)
      · refine j_iload_n (pc := 30) dX12_highest_30 rfl rfl ?_
        refine j_iconst (pc := 31) dX12_highest_31 ?_
        refine j_icmpR_eq (pc := 32) (tgt := 41) ⟨by omega, by omega⟩ ⟨by omega, by omega⟩ dX12_highest_32 rfl (fun h4 => ?_) (fun h4 => ?_)
        · refine j_bipush (pc := 41) dX12_highest_41 rfl ?_
          refine j_goto (pc := 43) (tgt := 68) dX12_highest_43 rfl ?_
          exact j_iret (pc := 68) ⟨rfl, rfl⟩ dX12_highest_68 rfl ⟨_, rfl, ⟨by omega, by omega⟩, rfl, by omega⟩
        · refine j_iload_n (pc := 35) dX12_highest_35 rfl rfl ?_
          refine j_bipush (pc := 36) dX12_highest_36 rfl ?_
          refine j_icmpR_ne (pc := 38) (tgt := 46) ⟨by omega, by omega⟩ ⟨by omega, by omega⟩ dX12_highest_38 rfl (fun h5 => ?_) (fun h5 => ?_)
          · refine j_iload_n (pc := 46) dX12_highest_46 rfl rfl ?_
            refine j_iconst (pc := 47) dX12_highest_47 ?_
            refine j_icmpR_ne (pc := 48) (tgt := 56) ⟨by omega, by omega⟩ ⟨by omega, by omega⟩ dX12_highest_48 rfl (fun h6 => ?_) (fun h6 => ?_)
            · refine j_iload_n (pc := 56) dX12_highest_56 rfl rfl ?_
              refine j_iconst (pc := 57) dX12_highest_57 ?_
              refine j_icmpR_ne (pc := 58) (tgt := 66) ⟨by omega, by omega⟩ ⟨by omega, by omega⟩ dX12_highest_58 rfl (fun h7 => ?_) (fun h7 => ?_)
              · refine j_bipush (pc := 66) dX12_highest_66 rfl ?_
                exact j_iret (pc := 68) ⟨rfl, rfl⟩ dX12_highest_68 rfl ⟨_, rfl, ⟨by omega, by omega⟩, rfl, by omega⟩
              · refine j_bipush (pc := 61) dX12_highest_61 rfl ?_
                refine j_goto (pc := 63) (tgt := 68) dX12_highest_63 rfl ?_
                exact j_iret (pc := 68) ⟨rfl, rfl⟩ dX12_highest_68 rfl ⟨_, rfl, ⟨by omega, by omega⟩, rfl, by omega⟩
            · refine j_bipush (pc := 51) dX12_highest_51 rfl ?_
              refine j_goto (pc := 53) (tgt := 68) dX12_highest_53 rfl ?_
              exact j_iret (pc := 68) ⟨rfl, rfl⟩ dX12_highest_68 rfl ⟨_, rfl, ⟨by omega, by omega⟩, rfl, by omega⟩
          · refine j_bipush (pc := 41) dX12_highest_41 rfl ?_
            refine j_goto (pc := 43) (tgt := 68) dX12_highest_43 rfl ?_
            exact j_iret (pc := 68) ⟨rfl, rfl⟩ dX12_highest_68 rfl ⟨_, rfl, ⟨by omega, by omega⟩, rfl, by omega⟩
      · refine j_bipush (pc := 25) dX12_highest_25 rfl ?_
        refine j_goto (pc := 27) (tgt := 68) dX12_highest_27 rfl ?_
        exact j_iret (pc := 68) ⟨rfl, rfl⟩ dX12_highest_68 rfl ⟨_, rfl, ⟨by omega, by omega⟩, rfl, by omega⟩
    · refine j_sipush (pc := 14) dX12_highest_14 rfl ?_
      refine j_goto (pc := 17) (tgt := 68) dX12_highest_17 rfl ?_
      exact j_iret (pc := 68) ⟨rfl, rfl⟩ dX12_highest_68 rfl ⟨_, rfl, ⟨by omega, by omega⟩, rfl, by omega⟩
  · refine j_bipush (pc := 4) dX12_highest_4 rfl ?_
    refine j_goto (pc := 6) (tgt := 68) dX12_highest_6 rfl ?_
    exact j_iret (pc := 68) ⟨rfl, rfl⟩ dX12_highest_68 rfl ⟨_, rfl, ⟨by omega, by omega⟩, rfl, by omega⟩
