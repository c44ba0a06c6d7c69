/-! 20aj.main -/
theorem dX11_rule_0 : decode cX11_rule 0 = .ok (.iload_n 1, 1) := by decide +kernel
theorem dX11_rule_1 : decode cX11_rule 1 = .ok (.iconst 5, 1) := by decide +kernel
theorem dX11_rule_2 : decode cX11_rule 2 = .ok (.if_icmp .ne 11, 3) := by decide +kernel
theorem dX11_rule_5 : decode cX11_rule 5 = .ok (.aload_n 0, 1) := by decide +kernel
theorem dX11_rule_6 : decode cX11_rule 6 = .ok (.getfield 26, 3) := by decide +kernel
theorem dX11_rule_9 : decode cX11_rule 9 = .ok (.getfield 136, 3) := by decide +kernel
theorem dX11_rule_12 : decode cX11_rule 12 = .ok (.ireturn, 1) := by decide +kernel
theorem dX11_rule_13 : decode cX11_rule 13 = .ok (.iload_n 1, 1) := by decide +kernel
theorem dX11_rule_14 : decode cX11_rule 14 = .ok (.bipush 6, 2) := by decide +kernel
theorem dX11_rule_16 : decode cX11_rule 16 = .ok (.if_icmp .ne 11, 3) := by decide +kernel
theorem dX11_rule_19 : decode cX11_rule 19 = .ok (.aload_n 0, 1) := by decide +kernel
theorem dX11_rule_20 : decode cX11_rule 20 = .ok (.getfield 26, 3) := by decide +kernel
theorem dX11_rule_23 : decode cX11_rule 23 = .ok (.getfield 139, 3) := by decide +kernel
theorem dX11_rule_26 : decode cX11_rule 26 = .ok (.ireturn, 1) := by decide +kernel
theorem dX11_rule_27 : decode cX11_rule 27 = .ok (.iload_n 1, 1) := by decide +kernel
theorem dX11_rule_28 : decode cX11_rule 28 = .ok (.ifCond .lt 19, 3) := by decide +kernel
theorem dX11_rule_31 : decode cX11_rule 31 = .ok (.iload_n 1, 1) := by decide +kernel
theorem dX11_rule_32 : decode cX11_rule 32 = .ok (.bipush 9, 2) := by decide +kernel
theorem dX11_rule_34 : decode cX11_rule 34 = .ok (.if_icmp .ge 13, 3) := by decide +kernel
theorem dX11_rule_37 : decode cX11_rule 37 = .ok (.aload_n 0, 1) := by decide +kernel
theorem dX11_rule_38 : decode cX11_rule 38 = .ok (.getfield 10, 3) := by decide +kernel
theorem dX11_rule_41 : decode cX11_rule 41 = .ok (.getfield 142, 3) := by decide +kernel
theorem dX11_rule_44 : decode cX11_rule 44 = .ok (.iload_n 1, 1) := by decide +kernel
theorem dX11_rule_45 : decode cX11_rule 45 = .ok (.iaload, 1) := by decide +kernel
theorem dX11_rule_46 : decode cX11_rule 46 = .ok (.ireturn, 1) := by decide +kernel
theorem dX11_rule_47 : decode cX11_rule 47 = .ok (.iload_n 1, 1) := by decide +kernel
theorem dX11_rule_48 : decode cX11_rule 48 = .ok (.bipush 10, 2) := by decide +kernel
theorem dX11_rule_50 : decode cX11_rule 50 = .ok (.isub, 1) := by decide +kernel
theorem dX11_rule_51 : decode cX11_rule 51 = .ok (.istore_n 2, 1) := by decide +kernel
theorem dX11_rule_52 : decode cX11_rule 52 = .ok (.iload_n 1, 1) := by decide +kernel
theorem dX11_rule_53 : decode cX11_rule 53 = .ok (.bipush 10, 2) := by decide +kernel
theorem dX11_rule_55 : decode cX11_rule 55 = .ok (.if_icmp .le 21, 3) := by decide +kernel
theorem dX11_rule_58 : decode cX11_rule 58 = .ok (.iload_n 2, 1) := by decide +kernel
theorem dX11_rule_59 : decode cX11_rule 59 = .ok (.bipush 10, 2) := by decide +kernel
theorem dX11_rule_61 : decode cX11_rule 61 = .ok (.if_icmp .gt 15, 3) := by decide +kernel
theorem dX11_rule_64 : decode cX11_rule 64 = .ok (.aload_n 0, 1) := by decide +kernel
theorem dX11_rule_65 : decode cX11_rule 65 = .ok (.getfield 26, 3) := by decide +kernel
theorem dX11_rule_68 : decode cX11_rule 68 = .ok (.getfield 146, 3) := by decide +kernel
theorem dX11_rule_71 : decode cX11_rule 71 = .ok (.iload_n 2, 1) := by decide +kernel
theorem dX11_rule_72 : decode cX11_rule 72 = .ok (.iaload, 1) := by decide +kernel
theorem dX11_rule_73 : decode cX11_rule 73 = .ok (.goto 4, 3) := by decide +kernel
theorem dX11_rule_76 : decode cX11_rule 76 = .ok (.iconst (-1), 1) := by decide +kernel
theorem dX11_rule_77 : decode cX11_rule 77 = .ok (.ireturn, 1) := by decide +kernel
abbrev q_X11_rule (w : Int) (σ : tw_M) : Option tw_V → tw_M → Prop := fun z τ => ∃ r : Int, z = some (vI r) ∧ (-2147483648 ≤ r ∧ r ≤ 2147483647) ∧ σ = τ ∧ ((w = 5 ∧ r = σ 23 4) ∨ (w = 6 ∧ r = σ 23 5) ∨ ((0 ≤ w ∧ w < 9 ∧ ¬ w = 5 ∧ ¬ w = 6) ∧ r = σ 2 w.toNat) ∨ ((11 ≤ w ∧ w ≤ 20) ∧ r = σ 28 (w - 10).toNat) ∨ (r = -1 ∧ ¬ (0 ≤ w ∧ w < 9) ∧ ¬ (11 ≤ w ∧ w ≤ 20)))
set_option maxHeartbeats 4000000 in
set_option maxRecDepth 100000 in
theorem c_X11_rule {G : tw_G} (hX : tw_isX G) (w : Int) (hw : -2147483648 ≤ w ∧ w ≤ 2147483647) (σ : tw_M) (hI : tw_I σ) : tw_C G yX11_rule cX11_rule 3 (some .int) 0 [vR 0, vI w] σ (q_X11_rule w σ) := by
  refine tw_met [(0, vR 0), (1, vI w)] (by decide +kernel) rfl (Nat.le_of_ble_eq_true rfl) ?_
  refine j_iload_n (pc := 0) dX11_rule_0 rfl rfl ?_
  refine j_iconst (pc := 1) dX11_rule_1 ?_
  refine j_icmpR_ne (pc := 2) (tgt := 13) ⟨by omega, by omega⟩ ⟨by omega, by omega⟩ dX11_rule_2 rfl (fun h1 => ?_) (fun h1 => ?_)
  · refine j_iload_n (pc := 13) dX11_rule_13 rfl rfl ?_
    refine j_bipush (pc := 14) dX11_rule_14 rfl ?_
    refine j_icmpR_ne (pc := 16) (tgt := 27) ⟨by omega, by omega⟩ ⟨by omega, by omega⟩ dX11_rule_16 rfl (fun h2 => ?_) (fun h2 => ?_)
    · refine j_iload_n (pc := 27) dX11_rule_27 rfl rfl ?_
      refine j_ifR_lt (pc := 28) (tgt := 47) ⟨by omega, by omega⟩ dX11_rule_28 rfl (fun h3 => ?_) (fun h3 => ?_)
      · refine j_iload_n (pc := 47) dX11_rule_47 rfl rfl ?_
        refine j_bipush (pc := 48) dX11_rule_48 rfl ?_
        refine j_isub (pc := 50) dX11_rule_50 ?_
        refine j_top (fun z4 ez4 hz4 => ?_)
        have gz4 : w - 10 < -2147483648 ∨ 2147483647 < w - 10 ∨ z4 = w - 10 := by rw [ez4]; exact w32_or _
        refine j_istore_n (pc := 51) (i := 2) (ls' := [(0, vR 0), (1, vI w), (2, vI z4)]) [1, 2, 0] dX11_rule_51 rfl (Nat.le_of_ble_eq_true rfl) rfl rfl ?_
        refine j_iload_n (pc := 52) dX11_rule_52 rfl rfl ?_
        refine j_bipush (pc := 53) dX11_rule_53 rfl ?_
        refine j_icmpR_le (pc := 55) (tgt := 76) ⟨by omega, by omega⟩ ⟨by omega, by omega⟩ dX11_rule_55 rfl (fun h5 => ?_) (fun h5 => by exfalso; omega)
        refine j_iconst (pc := 76) dX11_rule_76 ?_
        exact j_iret (pc := 77) ⟨rfl, rfl⟩ dX11_rule_77 rfl ⟨_, rfl, ⟨by omega, by omega⟩, rfl, (by first | exact Or.inl ⟨by omega, rfl⟩ | exact Or.inr (Or.inl ⟨by omega, rfl⟩) | exact Or.inr (Or.inr (Or.inl ⟨by omega, rfl⟩)) | exact Or.inr (Or.inr (Or.inr (Or.inl ⟨by omega, congrArg (fun x => σ 28 (Int.toNat x)) (by omega)⟩))) | exact Or.inr (Or.inr (Or.inr (Or.inr ⟨rfl, by omega, by omega⟩))))⟩
      · refine j_iload_n (pc := 31) dX11_rule_31 rfl rfl ?_
        refine j_bipush (pc := 32) dX11_rule_32 rfl ?_
        refine j_icmpR_ge (pc := 34) (tgt := 47) ⟨by omega, by omega⟩ ⟨by omega, by omega⟩ dX11_rule_34 rfl (fun h6 => ?_) (fun h6 => ?_)
        · refine j_iload_n (pc := 47) dX11_rule_47 rfl rfl ?_
          refine j_bipush (pc := 48) dX11_rule_48 rfl ?_
          refine j_isub (pc := 50) dX11_rule_50 ?_
          refine j_istore_n (pc := 51) (i := 2) (ls' := [(0, vR 0), (1, vI w), (2, vI (w - 10))]) [1, 2, 0] dX11_rule_51 rfl (Nat.le_of_ble_eq_true rfl) rfl rfl ?_
          refine j_iload_n (pc := 52) dX11_rule_52 rfl rfl ?_
          refine j_bipush (pc := 53) dX11_rule_53 rfl ?_
          refine j_icmpR_le (pc := 55) (tgt := 76) ⟨by omega, by omega⟩ ⟨by omega, by omega⟩ dX11_rule_55 rfl (fun h7 => ?_) (fun h7 => ?_)
          · refine j_iconst (pc := 76) dX11_rule_76 ?_
            exact j_iret (pc := 77) ⟨rfl, rfl⟩ dX11_rule_77 rfl ⟨_, rfl, ⟨by omega, by omega⟩, rfl, (by first | exact Or.inl ⟨by omega, rfl⟩ | exact Or.inr (Or.inl ⟨by omega, rfl⟩) | exact Or.inr (Or.inr (Or.inl ⟨by omega, rfl⟩)) | exact Or.inr (Or.inr (Or.inr (Or.inl ⟨by omega, congrArg (fun x => σ 28 (Int.toNat x)) (by omega)⟩))) | exact Or.inr (Or.inr (Or.inr (Or.inr ⟨rfl, by omega, by omega⟩))))⟩
          · refine j_iload_n (pc := 58) dX11_rule_58 rfl rfl ?_
            refine j_bipush (pc := 59) dX11_rule_59 rfl ?_
            refine j_icmpR_gt (pc := 61) (tgt := 76) ⟨by omega, by omega⟩ ⟨by omega, by omega⟩ dX11_rule_61 rfl (fun h8 => ?_) (fun h8 => ?_)
            · refine j_iconst (pc := 76) dX11_rule_76 ?_
              exact j_iret (pc := 77) ⟨rfl, rfl⟩ dX11_rule_77 rfl ⟨_, rfl, ⟨by omega, by omega⟩, rfl, (by first | exact Or.inl ⟨by omega, rfl⟩ | exact Or.inr (Or.inl ⟨by omega, rfl⟩) | exact Or.inr (Or.inr (Or.inl ⟨by omega, rfl⟩)) | exact Or.inr (Or.inr (Or.inr (Or.inl ⟨by omega, congrArg (fun x => σ 28 (Int.toNat x)) (by omega)⟩))) | exact Or.inr (Or.inr (Or.inr (Or.inr ⟨rfl, by omega, by omega⟩))))⟩
            · refine j_aload_n (pc := 64) dX11_rule_64 rfl rfl ?_
              refine j_getR (pc := 65) (r := 23) fl_X11_26 dX11_rule_65 (a_0 hX) rfl ?_
              refine j_getR (pc := 68) (r := 28) fl_X11_146 dX11_rule_68 (a_23 hX) rfl ?_
              refine j_iload_n (pc := 71) dX11_rule_71 rfl rfl ?_
              refine j_iald (pc := 72) dX11_rule_72 (a_28 hX) (by omega) (by omega) (by decide) ?_
              have f9 : (-2147483648 : Int) ≤ σ 28 ((w - 10).toNat) ∧ σ 28 ((w - 10).toNat) ≤ 2147483647 := hI 28 ((w - 10).toNat)
              refine j_goto (pc := 73) (tgt := 77) dX11_rule_73 rfl ?_
              exact j_iret (pc := 77) ⟨rfl, rfl⟩ dX11_rule_77 rfl ⟨_, rfl, ⟨by omega, by omega⟩, rfl, (by first | exact Or.inl ⟨by omega, rfl⟩ | exact Or.inr (Or.inl ⟨by omega, rfl⟩) | exact Or.inr (Or.inr (Or.inl ⟨by omega, rfl⟩)) | exact Or.inr (Or.inr (Or.inr (Or.inl ⟨by omega, congrArg (fun x => σ 28 (Int.toNat x)) (by omega)⟩))) | exact Or.inr (Or.inr (Or.inr (Or.inr ⟨rfl, by omega, by omega⟩))))⟩
        · refine j_aload_n (pc := 37) dX11_rule_37 rfl rfl ?_
          refine j_getR (pc := 38) (r := 1) fl_X11_10 dX11_rule_38 (a_0 hX) rfl ?_
          refine j_getR (pc := 41) (r := 2) fl_X11_142 dX11_rule_41 (a_1 hX) rfl ?_
          refine j_iload_n (pc := 44) dX11_rule_44 rfl rfl ?_
          refine j_iald (pc := 45) dX11_rule_45 (a_2 hX) (by omega) (by omega) (by decide) ?_
          have f10 : (-2147483648 : Int) ≤ σ 2 (w.toNat) ∧ σ 2 (w.toNat) ≤ 2147483647 := rb_D (hI 2 (w.toNat))
          exact j_iret (pc := 46) ⟨rfl, rfl⟩ dX11_rule_46 rfl ⟨_, rfl, ⟨by omega, by omega⟩, rfl, (by first | exact Or.inl ⟨by omega, rfl⟩ | exact Or.inr (Or.inl ⟨by omega, rfl⟩) | exact Or.inr (Or.inr (Or.inl ⟨by omega, rfl⟩)) | exact Or.inr (Or.inr (Or.inr (Or.inl ⟨by omega, congrArg (fun x => σ 28 (Int.toNat x)) (by omega)⟩))) | exact Or.inr (Or.inr (Or.inr (Or.inr ⟨rfl, by omega, by omega⟩))))⟩
    · refine j_aload_n (pc := 19) dX11_rule_19 rfl rfl ?_
      refine j_getR (pc := 20) (r := 23) fl_X11_26 dX11_rule_20 (a_0 hX) rfl ?_
      refine j_getI (pc := 23) fl_X11_139 dX11_rule_23 (a_23 hX) rfl ?_
      have f11 : (-2147483648 : Int) ≤ σ 23 5 ∧ σ 23 5 ≤ 2147483647 := hI 23 5
      exact j_iret (pc := 26) ⟨rfl, rfl⟩ dX11_rule_26 rfl ⟨_, rfl, ⟨by omega, by omega⟩, rfl, (by first | exact Or.inl ⟨by omega, rfl⟩ | exact Or.inr (Or.inl ⟨by omega, rfl⟩) | exact Or.inr (Or.inr (Or.inl ⟨by omega, rfl⟩)) | exact Or.inr (Or.inr (Or.inr (Or.inl ⟨by omega, congrArg (fun x => σ 28 (Int.toNat x)) (by omega)⟩))) | exact Or.inr (Or.inr (Or.inr (Or.inr ⟨rfl, by omega, by omega⟩))))⟩
  · refine j_aload_n (pc := 5) dX11_rule_5 rfl rfl ?_
    refine j_getR (pc := 6) (r := 23) fl_X11_26 dX11_rule_6 (a_0 hX) rfl ?_
    refine j_getI (pc := 9) fl_X11_136 dX11_rule_9 (a_23 hX) rfl ?_
    have f12 : (-2147483648 : Int) ≤ σ 23 4 ∧ σ 23 4 ≤ 2147483647 := hI 23 4
    exact j_iret (pc := 12) ⟨rfl, rfl⟩ dX11_rule_12 rfl ⟨_, rfl, ⟨by omega, by omega⟩, rfl, (by first | exact Or.inl ⟨by omega, rfl⟩ | exact Or.inr (Or.inl ⟨by omega, rfl⟩) | exact Or.inr (Or.inr (Or.inl ⟨by omega, rfl⟩)) | exact Or.inr (Or.inr (Or.inr (Or.inl ⟨by omega, congrArg (fun x => σ 28 (Int.toNat x)) (by omega)⟩))) | exact Or.inr (Or.inr (Or.inr (Or.inr ⟨rfl, by omega, by omega⟩))))⟩
