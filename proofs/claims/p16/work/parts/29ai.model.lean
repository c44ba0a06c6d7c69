/-! 29ai.model -/
theorem dX12_slings_0 : decode cX12_slings 0 = .ok (.iload_n 1, 1) := by decide +kernel
theorem dX12_slings_1 : decode cX12_slings 1 = .ok (.i2l, 1) := by decide +kernel
theorem dX12_slings_2 : decode cX12_slings 2 = .ok (.lconst 0, 1) := by decide +kernel
theorem dX12_slings_3 : decode cX12_slings 3 = .ok (.ldc2_w 187, 3) := by decide +kernel
theorem dX12_slings_6 : decode cX12_slings 6 = .ok (.invokestatic 82, 3) := by decide +kernel
theorem dX12_slings_9 : decode cX12_slings 9 = .ok (.ifCond .eq 13, 3) := by decide +kernel
theorem dX12_slings_12 : decode cX12_slings 12 = .ok (.iload_n 2, 1) := by decide +kernel
theorem dX12_slings_13 : decode cX12_slings 13 = .ok (.i2l, 1) := by decide +kernel
theorem dX12_slings_14 : decode cX12_slings 14 = .ok (.lconst 0, 1) := by decide +kernel
theorem dX12_slings_15 : decode cX12_slings 15 = .ok (.lconst 1, 1) := by decide +kernel
theorem dX12_slings_16 : decode cX12_slings 16 = .ok (.invokestatic 82, 3) := by decide +kernel
theorem dX12_slings_19 : decode cX12_slings 19 = .ok (.ifCond .ne 5, 3) := by decide +kernel
theorem dX12_slings_22 : decode cX12_slings 22 = .ok (.iconst (-1), 1) := by decide +kernel
theorem dX12_slings_23 : decode cX12_slings 23 = .ok (.ireturn, 1) := by decide +kernel
theorem dX12_slings_24 : decode cX12_slings 24 = .ok (.iconst 0, 1) := by decide +kernel
theorem dX12_slings_25 : decode cX12_slings 25 = .ok (.istore_n 3, 1) := by decide +kernel
theorem dX12_slings_26 : decode cX12_slings 26 = .ok (.aload_n 0, 1) := by decide +kernel
theorem dX12_slings_27 : decode cX12_slings 27 = .ok (.iconst 0, 1) := by decide +kernel
theorem dX12_slings_28 : decode cX12_slings 28 = .ok (.invokevirtual 320, 3) := by decide +kernel
theorem dX12_slings_31 : decode cX12_slings 31 = .ok (.istore 4, 2) := by decide +kernel
theorem dX12_slings_33 : decode cX12_slings 33 = .ok (.iconst 1, 1) := by decide +kernel
theorem dX12_slings_34 : decode cX12_slings 34 = .ok (.istore 5, 2) := by decide +kernel
theorem dX12_slings_36 : decode cX12_slings 36 = .ok (.iload 5, 2) := by decide +kernel
theorem dX12_slings_38 : decode cX12_slings 38 = .ok (.iconst 1, 1) := by decide +kernel
theorem dX12_slings_39 : decode cX12_slings 39 = .ok (.aload_n 0, 1) := by decide +kernel
theorem dX12_slings_40 : decode cX12_slings 40 = .ok (.iconst 0, 1) := by decide +kernel
theorem dX12_slings_41 : decode cX12_slings 41 = .ok (.invokevirtual 192, 3) := by decide +kernel
theorem dX12_slings_44 : decode cX12_slings 44 = .ok (.ishl, 1) := by decide +kernel
theorem dX12_slings_45 : decode cX12_slings 45 = .ok (.if_icmp .ge 85, 3) := by decide +kernel
theorem dX12_slings_48 : decode cX12_slings 48 = .ok (.iload 5, 2) := by decide +kernel
theorem dX12_slings_50 : decode cX12_slings 50 = .ok (.invokestatic 304, 3) := by decide +kernel
theorem dX12_slings_53 : decode cX12_slings 53 = .ok (.iload_n 1, 1) := by decide +kernel
theorem dX12_slings_54 : decode cX12_slings 54 = .ok (.if_icmp .gt 70, 3) := by decide +kernel
theorem dX12_slings_57 : decode cX12_slings 57 = .ok (.aload_n 0, 1) := by decide +kernel
theorem dX12_slings_58 : decode cX12_slings 58 = .ok (.iload 5, 2) := by decide +kernel
theorem dX12_slings_60 : decode cX12_slings 60 = .ok (.invokevirtual 320, 3) := by decide +kernel
theorem dX12_slings_63 : decode cX12_slings 63 = .ok (.istore 6, 2) := by decide +kernel
theorem dX12_slings_65 : decode cX12_slings 65 = .ok (.iload 6, 2) := by decide +kernel
theorem dX12_slings_67 : decode cX12_slings 67 = .ok (.iload 4, 2) := by decide +kernel
theorem dX12_slings_69 : decode cX12_slings 69 = .ok (.if_icmp .lt 22, 3) := by decide +kernel
theorem dX12_slings_72 : decode cX12_slings 72 = .ok (.iload 6, 2) := by decide +kernel
theorem dX12_slings_74 : decode cX12_slings 74 = .ok (.iload 4, 2) := by decide +kernel
theorem dX12_slings_76 : decode cX12_slings 76 = .ok (.if_icmp .ne 19, 3) := by decide +kernel
theorem dX12_slings_79 : decode cX12_slings 79 = .ok (.iload 5, 2) := by decide +kernel
theorem dX12_slings_81 : decode cX12_slings 81 = .ok (.invokestatic 304, 3) := by decide +kernel
theorem dX12_slings_84 : decode cX12_slings 84 = .ok (.iload_n 3, 1) := by decide +kernel
theorem dX12_slings_85 : decode cX12_slings 85 = .ok (.invokestatic 304, 3) := by decide +kernel
theorem dX12_slings_88 : decode cX12_slings 88 = .ok (.if_icmp .ge 7, 3) := by decide +kernel
theorem dX12_slings_91 : decode cX12_slings 91 = .ok (.iconst 1, 1) := by decide +kernel
theorem dX12_slings_92 : decode cX12_slings 92 = .ok (.goto 4, 3) := by decide +kernel
theorem dX12_slings_95 : decode cX12_slings 95 = .ok (.iconst 0, 1) := by decide +kernel
theorem dX12_slings_96 : decode cX12_slings 96 = .ok (.istore 7, 2) := by decide +kernel
theorem dX12_slings_98 : decode cX12_slings 98 = .ok (.iload 7, 2) := by decide +kernel
theorem dX12_slings_100 : decode cX12_slings 100 = .ok (.ifCond .eq 8, 3) := by decide +kernel
theorem dX12_slings_103 : decode cX12_slings 103 = .ok (.iload 5, 2) := by decide +kernel
theorem dX12_slings_105 : decode cX12_slings 105 = .ok (.goto 4, 3) := by decide +kernel
theorem dX12_slings_108 : decode cX12_slings 108 = .ok (.iload_n 3, 1) := by decide +kernel
theorem dX12_slings_109 : decode cX12_slings 109 = .ok (.istore_n 3, 1) := by decide +kernel
theorem dX12_slings_110 : decode cX12_slings 110 = .ok (.iload 7, 2) := by decide +kernel
theorem dX12_slings_112 : decode cX12_slings 112 = .ok (.ifCond .eq 8, 3) := by decide +kernel
theorem dX12_slings_115 : decode cX12_slings 115 = .ok (.iload 6, 2) := by decide +kernel
theorem dX12_slings_117 : decode cX12_slings 117 = .ok (.goto 5, 3) := by decide +kernel
theorem dX12_slings_120 : decode cX12_slings 120 = .ok (.iload 4, 2) := by decide +kernel
theorem dX12_slings_122 : decode cX12_slings 122 = .ok (.istore 4, 2) := by decide +kernel
theorem dX12_slings_124 : decode cX12_slings 124 = .ok (.iinc 5 1, 3) := by decide +kernel
theorem dX12_slings_127 : decode cX12_slings 127 = .ok (.goto (-91), 3) := by decide +kernel
theorem dX12_slings_130 : decode cX12_slings 130 = .ok (.iload_n 2, 1) := by decide +kernel
theorem dX12_slings_131 : decode cX12_slings 131 = .ok (.ifCond .ne 8, 3) := by decide +kernel
theorem dX12_slings_134 : decode cX12_slings 134 = .ok (.iload 4, 2) := by decide +kernel
theorem dX12_slings_136 : decode cX12_slings 136 = .ok (.goto 4, 3) := by decide +kernel
theorem dX12_slings_139 : decode cX12_slings 139 = .ok (.iload_n 3, 1) := by decide +kernel
theorem dX12_slings_140 : decode cX12_slings 140 = .ok (.ireturn, 1) := by decide +kernel
abbrev q_X12_slings (n : Int) (w : Int) (σ : tw_M) : Option tw_V → tw_M → Prop := fun z τ => ∃ r : Int, z = some (vI r) ∧ (-2147483648 ≤ r ∧ r ≤ 2147483647) ∧ σ = τ ∧ True
set_option maxHeartbeats 4000000 in
set_option maxRecDepth 100000 in
theorem l_X12_slings {G : tw_G} (hM : tw_isM G) (n : Int) (hn : -2147483648 ≤ n ∧ n ≤ 2147483647) (w : Int) (hw : -2147483648 ≤ w ∧ w ≤ 2147483647) (σ : tw_M) (hI : tw_I σ) (hq0 : mc σ 0 (σ 91 0).toNat ≤ 10) : ∀ N_ : Nat, (∀ (b : Int) (hb : -2147483648 ≤ b ∧ b ≤ 2147483647) (l : Int) (hl : -2147483648 ≤ l ∧ l ≤ 2147483647) (s : Int) (hs : 1 ≤ s ∧ s ≤ 2147483647)  (hm : (2147483647 - s).toNat < N_), tw_J G (tw_mt RX12 cX12_slings 8 (some .int) 6) (tw_E G (q_X12_slings n w σ)) 36 [(0, vR 88), (1, vI n), (2, vI w), (3, vI b), (4, vI l), (5, vI s)] [] σ) := by
  intro N_
  induction N_ with
  | zero => exact fun b hb l hl s hs hm => absurd hm (Nat.not_lt_zero _)
  | succ N_ ih =>
    intro b hb l hl s hs hm
    refine j_iload (pc := 36) dX12_slings_36 rfl ?_
    refine j_iconst (pc := 38) dX12_slings_38 ?_
    refine j_aload_n (pc := 39) dX12_slings_39 rfl rfl ?_
    refine j_iconst (pc := 40) dX12_slings_40 ?_
    refine j_callV (pc := 41) (As := [vI 0]) (st := [vI 1, vI s]) (c_X12_all hM 0 (by (first | decide | exact ⟨by omega, by omega⟩)) σ hI) mv_X12_192 rfl rfl rfl (a_88 hM) dX12_slings_41 ⟨Nat.le_of_ble_eq_true rfl, Nat.le_of_ble_eq_true rfl⟩ ⟨Nat.le_refl _, Nat.le_refl _⟩ rfl (Nat.le_of_ble_eq_true rfl) rfl (fun z1 σ2 hz1 => ?_)
    obtain ⟨r4, rfl, hr4, rfl, q3_0⟩ := hz1
    replace q3_0 : r4 = mc σ (0 : Int) (σ 91 0).toNat := q3_0
    refine j_st (st' := [vI r4, vI 1, vI s]) rfl ?_
    refine j_ishl (pc := 44) dX12_slings_44 (fun z5 ez5 => ?_)
    have hz5 : (-2147483648 : Int) ≤ z5 ∧ z5 ≤ 2147483647 := by rw [ez5]; exact shl_in _ _
    refine j_icmpR_ge (pc := 45) (tgt := 130) ⟨by omega, by omega⟩ ⟨by omega, by omega⟩ dX12_slings_45 rfl (fun h6 => ?_) (fun h6 => ?_)
    · refine j_iload_n (pc := 130) dX12_slings_130 rfl rfl ?_
      refine j_ifR_ne (pc := 131) (tgt := 139) ⟨by omega, by omega⟩ dX12_slings_131 rfl (fun h7 => ?_) (fun h7 => ?_)
      · refine j_iload_n (pc := 139) dX12_slings_139 rfl rfl ?_
        exact j_iret (pc := 140) ⟨rfl, rfl⟩ dX12_slings_140 rfl ⟨_, rfl, ⟨by omega, by omega⟩, rfl, trivial⟩
      · refine j_iload (pc := 134) dX12_slings_134 rfl ?_
        refine j_goto (pc := 136) (tgt := 140) dX12_slings_136 rfl ?_
        exact j_iret (pc := 140) ⟨rfl, rfl⟩ dX12_slings_140 rfl ⟨_, rfl, ⟨by omega, by omega⟩, rfl, trivial⟩
    · refine j_iload (pc := 48) dX12_slings_48 rfl ?_
      refine j_callS (pc := 50) (As := [vI s]) (st := []) (c_X12_countOf s ⟨by omega, by omega⟩ σ hI) ms_X12_304 rfl dX12_slings_50 ⟨Nat.le_of_ble_eq_true rfl, Nat.le_of_ble_eq_true rfl⟩ ⟨Nat.le_refl _, Nat.le_refl _⟩ rfl (Nat.le_of_ble_eq_true rfl) rfl (fun z8 σ9 hz8 => ?_)
      obtain ⟨r11, rfl, hr11, rfl, q10_0⟩ := hz8
      replace q10_0 : r11 = mPop s 12 := q10_0
      refine j_st (st' := [vI r11]) rfl ?_
      refine j_iload_n (pc := 53) dX12_slings_53 rfl rfl ?_
      refine j_icmpR_gt (pc := 54) (tgt := 124) ⟨by omega, by omega⟩ ⟨by omega, by omega⟩ dX12_slings_54 rfl (fun h12 => ?_) (fun h12 => ?_)
      · refine j_iinc (pc := 124) (i := 5) (n := 1) (ls' := [(0, vR 88), (1, vI n), (2, vI w), (3, vI b), (4, vI l), (5, vI (s + 1))]) [1, 2, 3, 4, 5, 0] dX12_slings_124 rfl (Nat.le_of_ble_eq_true rfl) rfl rfl ?_
        refine j_goto (pc := 127) (tgt := 36) dX12_slings_127 rfl ?_
        refine j_ls (ls' := [(0, vR 88), (1, vI n), (2, vI w), (3, vI b), (4, vI l), (5, vI (s + 1))]) [0, 1, 2, 3, 4, 5] rfl ?_
        exact ih b ⟨by omega, by omega⟩ l ⟨by omega, by omega⟩ (s + 1) ⟨by omega, by omega⟩ (show (2147483647 - (s + 1)).toNat < N_ from by omega)
      · refine j_aload_n (pc := 57) dX12_slings_57 rfl rfl ?_
        refine j_iload (pc := 58) dX12_slings_58 rfl ?_
        refine j_callV (pc := 60) (As := [vI s]) (st := []) (c_X12_dragBy hM s ⟨by omega, by omega⟩ σ hI (by omega)) mv_X12_320 rfl rfl rfl (a_88 hM) dX12_slings_60 ⟨Nat.le_of_ble_eq_true rfl, Nat.le_of_ble_eq_true rfl⟩ ⟨Nat.le_refl _, Nat.le_refl _⟩ rfl (Nat.le_of_ble_eq_true rfl) rfl (fun z13 σ14 hz13 => ?_)
        obtain ⟨r16, rfl, hr16, rfl, -⟩ := hz13
        refine j_st (st' := [vI r16]) rfl ?_
        refine j_istore (pc := 63) (i := 6) (ls' := [(0, vR 88), (1, vI n), (2, vI w), (3, vI b), (4, vI l), (5, vI s), (6, vI r16)]) [1, 2, 3, 4, 5, 6, 0] dX12_slings_63 (Nat.le_of_ble_eq_true rfl) rfl rfl ?_
        refine j_iload (pc := 65) dX12_slings_65 rfl ?_
        refine j_iload (pc := 67) dX12_slings_67 rfl ?_
        refine j_icmpR_lt (pc := 69) (tgt := 91) ⟨by omega, by omega⟩ ⟨by omega, by omega⟩ dX12_slings_69 rfl (fun h17 => ?_) (fun h17 => ?_)
        · refine j_iconst (pc := 91) dX12_slings_91 ?_
          refine j_goto (pc := 92) (tgt := 96) dX12_slings_92 rfl ?_
          refine j_istore (pc := 96) (i := 7) (ls' := [(0, vR 88), (1, vI n), (2, vI w), (3, vI b), (4, vI l), (5, vI s), (6, vI r16), (7, vI 1)]) [1, 2, 3, 4, 5, 6, 7, 0] dX12_slings_96 (Nat.le_of_ble_eq_true rfl) rfl rfl ?_
          refine j_iload (pc := 98) dX12_slings_98 rfl ?_
          refine j_ifR_eq (pc := 100) (tgt := 108) ⟨by omega, by omega⟩ dX12_slings_100 rfl (fun h18 => by exfalso; omega) (fun h18 => ?_)
          refine j_iload (pc := 103) dX12_slings_103 rfl ?_
          refine j_goto (pc := 105) (tgt := 109) dX12_slings_105 rfl ?_
          refine j_istore_n (pc := 109) (i := 3) (ls' := [(0, vR 88), (1, vI n), (2, vI w), (3, vI s), (4, vI l), (5, vI s), (6, vI r16), (7, vI 1)]) [1, 2, 3, 0, 4, 5, 6, 7] dX12_slings_109 rfl (Nat.le_of_ble_eq_true rfl) rfl rfl ?_
          refine j_iload (pc := 110) dX12_slings_110 rfl ?_
          refine j_ifR_eq (pc := 112) (tgt := 120) ⟨by omega, by omega⟩ dX12_slings_112 rfl (fun h19 => by exfalso; omega) (fun h19 => ?_)
          refine j_iload (pc := 115) dX12_slings_115 rfl ?_
          refine j_goto (pc := 117) (tgt := 122) dX12_slings_117 rfl ?_
          refine j_istore (pc := 122) (i := 4) (ls' := [(0, vR 88), (1, vI n), (2, vI w), (3, vI s), (4, vI r16), (5, vI s)]) [1, 2, 3, 4, 0, 5] dX12_slings_122 (Nat.le_of_ble_eq_true rfl) rfl rfl ?_
          refine j_iinc (pc := 124) (i := 5) (n := 1) (ls' := [(0, vR 88), (1, vI n), (2, vI w), (3, vI s), (4, vI r16), (5, vI (s + 1))]) [1, 2, 3, 4, 5, 0] dX12_slings_124 rfl (Nat.le_of_ble_eq_true rfl) rfl rfl ?_
          refine j_goto (pc := 127) (tgt := 36) dX12_slings_127 rfl ?_
          refine j_ls (ls' := [(0, vR 88), (1, vI n), (2, vI w), (3, vI s), (4, vI r16), (5, vI (s + 1))]) [0, 1, 2, 3, 4, 5] rfl ?_
          exact ih s ⟨by omega, by omega⟩ r16 ⟨by omega, by omega⟩ (s + 1) ⟨by omega, by omega⟩ (show (2147483647 - (s + 1)).toNat < N_ from by omega)
        · refine j_iload (pc := 72) dX12_slings_72 rfl ?_
          refine j_iload (pc := 74) dX12_slings_74 rfl ?_
          refine j_icmpR_ne (pc := 76) (tgt := 95) ⟨by omega, by omega⟩ ⟨by omega, by omega⟩ dX12_slings_76 rfl (fun h20 => ?_) (fun h20 => ?_)
          · refine j_iconst (pc := 95) dX12_slings_95 ?_
            refine j_istore (pc := 96) (i := 7) (ls' := [(0, vR 88), (1, vI n), (2, vI w), (3, vI b), (4, vI l), (5, vI s), (6, vI r16), (7, vI 0)]) [1, 2, 3, 4, 5, 6, 7, 0] dX12_slings_96 (Nat.le_of_ble_eq_true rfl) rfl rfl ?_
            refine j_iload (pc := 98) dX12_slings_98 rfl ?_
            refine j_ifR_eq (pc := 100) (tgt := 108) ⟨by omega, by omega⟩ dX12_slings_100 rfl (fun h21 => ?_) (fun h21 => by exfalso; omega)
            refine j_iload_n (pc := 108) dX12_slings_108 rfl rfl ?_
            refine j_istore_n (pc := 109) (i := 3) (ls' := [(0, vR 88), (1, vI n), (2, vI w), (3, vI b), (4, vI l), (5, vI s), (6, vI r16), (7, vI 0)]) [1, 2, 3, 0, 4, 5, 6, 7] dX12_slings_109 rfl (Nat.le_of_ble_eq_true rfl) rfl rfl ?_
            refine j_iload (pc := 110) dX12_slings_110 rfl ?_
            refine j_ifR_eq (pc := 112) (tgt := 120) ⟨by omega, by omega⟩ dX12_slings_112 rfl (fun h22 => ?_) (fun h22 => by exfalso; omega)
            refine j_iload (pc := 120) dX12_slings_120 rfl ?_
            refine j_istore (pc := 122) (i := 4) (ls' := [(0, vR 88), (1, vI n), (2, vI w), (3, vI b), (4, vI l), (5, vI s)]) [1, 2, 3, 4, 0, 5] dX12_slings_122 (Nat.le_of_ble_eq_true rfl) rfl rfl ?_
            refine j_iinc (pc := 124) (i := 5) (n := 1) (ls' := [(0, vR 88), (1, vI n), (2, vI w), (3, vI b), (4, vI l), (5, vI (s + 1))]) [1, 2, 3, 4, 5, 0] dX12_slings_124 rfl (Nat.le_of_ble_eq_true rfl) rfl rfl ?_
            refine j_goto (pc := 127) (tgt := 36) dX12_slings_127 rfl ?_
            refine j_ls (ls' := [(0, vR 88), (1, vI n), (2, vI w), (3, vI b), (4, vI l), (5, vI (s + 1))]) [0, 1, 2, 3, 4, 5] rfl ?_
            exact ih b ⟨by omega, by omega⟩ l ⟨by omega, by omega⟩ (s + 1) ⟨by omega, by omega⟩ (show (2147483647 - (s + 1)).toNat < N_ from by omega)
          · refine j_iload (pc := 79) dX12_slings_79 rfl ?_
            refine j_callS (pc := 81) (As := [vI s]) (st := []) (c_X12_countOf s ⟨by omega, by omega⟩ σ hI) ms_X12_304 rfl dX12_slings_81 ⟨Nat.le_of_ble_eq_true rfl, Nat.le_of_ble_eq_true rfl⟩ ⟨Nat.le_refl _, Nat.le_refl _⟩ rfl (Nat.le_of_ble_eq_true rfl) rfl (fun z23 σ24 hz23 => ?_)
            obtain ⟨r26, rfl, hr26, rfl, q25_0⟩ := hz23
            replace q25_0 : r26 = mPop s 12 := q25_0
            refine j_st (st' := [vI r26]) rfl ?_
            refine j_iload_n (pc := 84) dX12_slings_84 rfl rfl ?_
            refine j_callS (pc := 85) (As := [vI b]) (st := [vI r26]) (c_X12_countOf b ⟨by omega, by omega⟩ σ hI) ms_X12_304 rfl dX12_slings_85 ⟨Nat.le_of_ble_eq_true rfl, Nat.le_of_ble_eq_true rfl⟩ ⟨Nat.le_refl _, Nat.le_refl _⟩ rfl (Nat.le_of_ble_eq_true rfl) rfl (fun z27 σ28 hz27 => ?_)
            obtain ⟨r30, rfl, hr30, rfl, q29_0⟩ := hz27
            replace q29_0 : r30 = mPop b 12 := q29_0
            refine j_st (st' := [vI r30, vI r26]) rfl ?_
            refine j_icmpR_ge (pc := 88) (tgt := 95) ⟨by omega, by omega⟩ ⟨by omega, by omega⟩ dX12_slings_88 rfl (fun h31 => ?_) (fun h31 => ?_)
            · refine j_iconst (pc := 95) dX12_slings_95 ?_
              refine j_istore (pc := 96) (i := 7) (ls' := [(0, vR 88), (1, vI n), (2, vI w), (3, vI b), (4, vI l), (5, vI s), (6, vI r16), (7, vI 0)]) [1, 2, 3, 4, 5, 6, 7, 0] dX12_slings_96 (Nat.le_of_ble_eq_true rfl) rfl rfl ?_
              refine j_iload (pc := 98) dX12_slings_98 rfl ?_
              refine j_ifR_eq (pc := 100) (tgt := 108) ⟨by omega, by omega⟩ dX12_slings_100 rfl (fun h32 => ?_) (fun h32 => by exfalso; omega)
              refine j_iload_n (pc := 108) dX12_slings_108 rfl rfl ?_
              refine j_istore_n (pc := 109) (i := 3) (ls' := [(0, vR 88), (1, vI n), (2, vI w), (3, vI b), (4, vI l), (5, vI s), (6, vI r16), (7, vI 0)]) [1, 2, 3, 0, 4, 5, 6, 7] dX12_slings_109 rfl (Nat.le_of_ble_eq_true rfl) rfl rfl ?_
              refine j_iload (pc := 110) dX12_slings_110 rfl ?_
              refine j_ifR_eq (pc := 112) (tgt := 120) ⟨by omega, by omega⟩ dX12_slings_112 rfl (fun h33 => ?_) (fun h33 => by exfalso; omega)
              refine j_iload (pc := 120) dX12_slings_120 rfl ?_
              refine j_istore (pc := 122) (i := 4) (ls' := [(0, vR 88), (1, vI n), (2, vI w), (3, vI b), (4, vI l), (5, vI s)]) [1, 2, 3, 4, 0, 5] dX12_slings_122 (Nat.le_of_ble_eq_true rfl) rfl rfl ?_
              refine j_iinc (pc := 124) (i := 5) (n := 1) (ls' := [(0, vR 88), (1, vI n), (2, vI w), (3, vI b), (4, vI l), (5, vI (s + 1))]) [1, 2, 3, 4, 5, 0] dX12_slings_124 rfl (Nat.le_of_ble_eq_true rfl) rfl rfl ?_
              refine j_goto (pc := 127) (tgt := 36) dX12_slings_127 rfl ?_
              refine j_ls (ls' := [(0, vR 88), (1, vI n), (2, vI w), (3, vI b), (4, vI l), (5, vI (s + 1))]) [0, 1, 2, 3, 4, 5] rfl ?_
              exact ih b ⟨by omega, by omega⟩ l ⟨by omega, by omega⟩ (s + 1) ⟨by omega, by omega⟩ (show (2147483647 - (s + 1)).toNat < N_ from by omega)
            · refine j_iconst (pc := 91) dX12_slings_91 ?_
              refine j_goto (pc := 92) (tgt := 96) dX12_slings_92 rfl ?_
              refine j_istore (pc := 96) (i := 7) (ls' := [(0, vR 88), (1, vI n), (2, vI w), (3, vI b), (4, vI l), (5, vI s), (6, vI r16), (7, vI 1)]) [1, 2, 3, 4, 5, 6, 7, 0] dX12_slings_96 (Nat.le_of_ble_eq_true rfl) rfl rfl ?_
              refine j_iload (pc := 98) dX12_slings_98 rfl ?_
              refine j_ifR_eq (pc := 100) (tgt := 108) ⟨by omega, by omega⟩ dX12_slings_100 rfl (fun h34 => by exfalso; omega) (fun h34 => ?_)
              refine j_iload (pc := 103) dX12_slings_103 rfl ?_
              refine j_goto (pc := 105) (tgt := 109) dX12_slings_105 rfl ?_
              refine j_istore_n (pc := 109) (i := 3) (ls' := [(0, vR 88), (1, vI n), (2, vI w), (3, vI s), (4, vI l), (5, vI s), (6, vI r16), (7, vI 1)]) [1, 2, 3, 0, 4, 5, 6, 7] dX12_slings_109 rfl (Nat.le_of_ble_eq_true rfl) rfl rfl ?_
              refine j_iload (pc := 110) dX12_slings_110 rfl ?_
              refine j_ifR_eq (pc := 112) (tgt := 120) ⟨by omega, by omega⟩ dX12_slings_112 rfl (fun h35 => by exfalso; omega) (fun h35 => ?_)
              refine j_iload (pc := 115) dX12_slings_115 rfl ?_
              refine j_goto (pc := 117) (tgt := 122) dX12_slings_117 rfl ?_
              refine j_istore (pc := 122) (i := 4) (ls' := [(0, vR 88), (1, vI n), (2, vI w), (3, vI s), (4, vI r16), (5, vI s)]) [1, 2, 3, 4, 0, 5] dX12_slings_122 (Nat.le_of_ble_eq_true rfl) rfl rfl ?_
              refine j_iinc (pc := 124) (i := 5) (n := 1) (ls' := [(0, vR 88), (1, vI n), (2, vI w), (3, vI s), (4, vI r16), (5, vI (s + 1))]) [1, 2, 3, 4, 5, 0] dX12_slings_124 rfl (Nat.le_of_ble_eq_true rfl) rfl rfl ?_
              refine j_goto (pc := 127) (tgt := 36) dX12_slings_127 rfl ?_
              refine j_ls (ls' := [(0, vR 88), (1, vI n), (2, vI w), (3, vI s), (4, vI r16), (5, vI (s + 1))]) [0, 1, 2, 3, 4, 5] rfl ?_
              exact ih s ⟨by omega, by omega⟩ r16 ⟨by omega, by omega⟩ (s + 1) ⟨by omega, by omega⟩ (show (2147483647 - (s + 1)).toNat < N_ from by omega)
set_option maxHeartbeats 4000000 in
set_option maxRecDepth 100000 in
theorem c_X12_slings {G : tw_G} (hM : tw_isM G) (n : Int) (hn : -2147483648 ≤ n ∧ n ≤ 2147483647) (w : Int) (hw : -2147483648 ≤ w ∧ w ≤ 2147483647) (σ : tw_M) (hI : tw_I σ) (hq0 : mc σ 0 (σ 91 0).toNat ≤ 10) : tw_C G yX12_slings cX12_slings 8 (some .int) 6 [vR 88, vI n, vI w] σ (q_X12_slings n w σ) := by
  refine tw_met [(0, vR 88), (1, vI n), (2, vI w)] (by decide +kernel) rfl (Nat.le_of_ble_eq_true rfl) ?_
  refine j_iload_n (pc := 0) dX12_slings_0 rfl rfl ?_
  refine j_i2l (pc := 1) dX12_slings_1 ?_
  rw [w32_eq (a := n) (by omega) (by omega)]
  refine j_lconst (pc := 2) (z := 0) dX12_slings_2 rfl ?_
  refine j_ldc2 (pc := 3) (z := 10) dX12_slings_3 (tw_inc tm_6 (i := 239) rfl rfl) ?_
  refine j_callS (pc := 6) (As := [vL n, vL 0, vL 10]) (st := []) (c_X12_in n ⟨by omega, by omega⟩ 0 (by (first | decide | exact ⟨by omega, by omega⟩)) 10 (by (first | decide | exact ⟨by omega, by omega⟩)) σ hI) ms_X12_82 rfl dX12_slings_6 ⟨Nat.le_of_ble_eq_true rfl, Nat.le_of_ble_eq_true rfl⟩ ⟨Nat.le_refl _, Nat.le_refl _⟩ rfl (Nat.le_of_ble_eq_true rfl) rfl (fun z36 σ37 hz36 => ?_)
  obtain ⟨r39, rfl, hr39, rfl, q38_0⟩ := hz36
  replace q38_0 : (r39 = 1 ∧ (0 : Int) ≤ n ∧ n ≤ (10 : Int)) ∨ (r39 = 0 ∧ ¬ ((0 : Int) ≤ n ∧ n ≤ (10 : Int))) := q38_0
  refine j_st (st' := [vI r39]) rfl ?_
  refine j_ifR_eq (pc := 9) (tgt := 22) ⟨by omega, by omega⟩ dX12_slings_9 rfl (fun h40 => ?_) (fun h40 => ?_)
  · refine j_iconst (pc := 22) dX12_slings_22 ?_
    exact j_iret (pc := 23) ⟨rfl, rfl⟩ dX12_slings_23 rfl ⟨_, rfl, ⟨by omega, by omega⟩, rfl, trivial⟩
  · refine j_iload_n (pc := 12) dX12_slings_12 rfl rfl ?_
    refine j_i2l (pc := 13) dX12_slings_13 ?_
    rw [w32_eq (a := w) (by omega) (by omega)]
    refine j_lconst (pc := 14) (z := 0) dX12_slings_14 rfl ?_
    refine j_lconst (pc := 15) (z := 1) dX12_slings_15 rfl ?_
    refine j_callS (pc := 16) (As := [vL w, vL 0, vL 1]) (st := []) (c_X12_in w ⟨by omega, by omega⟩ 0 (by (first | decide | exact ⟨by omega, by omega⟩)) 1 (by (first | decide | exact ⟨by omega, by omega⟩)) σ hI) ms_X12_82 rfl dX12_slings_16 ⟨Nat.le_of_ble_eq_true rfl, Nat.le_of_ble_eq_true rfl⟩ ⟨Nat.le_refl _, Nat.le_refl _⟩ rfl (Nat.le_of_ble_eq_true rfl) rfl (fun z41 σ42 hz41 => ?_)
    obtain ⟨r44, rfl, hr44, rfl, q43_0⟩ := hz41
    replace q43_0 : (r44 = 1 ∧ (0 : Int) ≤ w ∧ w ≤ (1 : Int)) ∨ (r44 = 0 ∧ ¬ ((0 : Int) ≤ w ∧ w ≤ (1 : Int))) := q43_0
    refine j_st (st' := [vI r44]) rfl ?_
    refine j_ifR_ne (pc := 19) (tgt := 24) ⟨by omega, by omega⟩ dX12_slings_19 rfl (fun h45 => ?_) (fun h45 => ?_)
    · refine j_iconst (pc := 24) dX12_slings_24 ?_
      refine j_istore_n (pc := 25) (i := 3) (ls' := [(0, vR 88), (1, vI n), (2, vI w), (3, vI 0)]) [1, 2, 3, 0] dX12_slings_25 rfl (Nat.le_of_ble_eq_true rfl) rfl rfl ?_
      refine j_aload_n (pc := 26) dX12_slings_26 rfl rfl ?_
      refine j_iconst (pc := 27) dX12_slings_27 ?_
      refine j_callV (pc := 28) (As := [vI 0]) (st := []) (c_X12_dragBy hM 0 (by (first | decide | exact ⟨by omega, by omega⟩)) σ hI (by omega)) mv_X12_320 rfl rfl rfl (a_88 hM) dX12_slings_28 ⟨Nat.le_of_ble_eq_true rfl, Nat.le_of_ble_eq_true rfl⟩ ⟨Nat.le_refl _, Nat.le_refl _⟩ rfl (Nat.le_of_ble_eq_true rfl) rfl (fun z46 σ47 hz46 => ?_)
      obtain ⟨r49, rfl, hr49, rfl, -⟩ := hz46
      refine j_st (st' := [vI r49]) rfl ?_
      refine j_istore (pc := 31) (i := 4) (ls' := [(0, vR 88), (1, vI n), (2, vI w), (3, vI 0), (4, vI r49)]) [1, 2, 3, 4, 0] dX12_slings_31 (Nat.le_of_ble_eq_true rfl) rfl rfl ?_
      refine j_iconst (pc := 33) dX12_slings_33 ?_
      refine j_istore (pc := 34) (i := 5) (ls' := [(0, vR 88), (1, vI n), (2, vI w), (3, vI 0), (4, vI r49), (5, vI 1)]) [1, 2, 3, 4, 5, 0] dX12_slings_34 (Nat.le_of_ble_eq_true rfl) rfl rfl ?_
      refine j_ls (ls' := [(0, vR 88), (1, vI n), (2, vI w), (3, vI 0), (4, vI r49), (5, vI 1)]) [0, 1, 2, 3, 4, 5] rfl ?_
      exact (l_X12_slings hM n hn w hw σ hI hq0 (((2147483647 - (1 : Int)).toNat) + 1)) 0 (by (first | decide | exact ⟨by omega, by omega⟩)) r49 ⟨by omega, by omega⟩ 1 (by (first | decide | exact ⟨by omega, by omega⟩)) (Nat.lt_succ_self _)
    · refine j_iconst (pc := 22) dX12_slings_22 ?_
      exact j_iret (pc := 23) ⟨rfl, rfl⟩ dX12_slings_23 rfl ⟨_, rfl, ⟨by omega, by omega⟩, rfl, trivial⟩
