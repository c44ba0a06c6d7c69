/-! 19c.tape -/
theorem dX9_advance_0 : decode cX9_advance 0 = .ok (.aload_n 0, 1) := by decide +kernel
theorem dX9_advance_1 : decode cX9_advance 1 = .ok (.getfield 33, 3) := by decide +kernel
theorem dX9_advance_4 : decode cX9_advance 4 = .ok (.ifCond .eq 4, 3) := by decide +kernel
theorem dX9_advance_7 : decode cX9_advance 7 = .ok (.return_, 1) := by decide +kernel
theorem dX9_advance_8 : decode cX9_advance 8 = .ok (.iconst 0, 1) := by decide +kernel
theorem dX9_advance_9 : decode cX9_advance 9 = .ok (.istore_n 1, 1) := by decide +kernel
theorem dX9_advance_10 : decode cX9_advance 10 = .ok (.iload_n 1, 1) := by decide +kernel
theorem dX9_advance_11 : decode cX9_advance 11 = .ok (.sipush 400, 3) := by decide +kernel
theorem dX9_advance_14 : decode cX9_advance 14 = .ok (.if_icmp .ge 32, 3) := by decide +kernel
theorem dX9_advance_17 : decode cX9_advance 17 = .ok (.aload_n 0, 1) := by decide +kernel
theorem dX9_advance_18 : decode cX9_advance 18 = .ok (.aload_n 0, 1) := by decide +kernel
theorem dX9_advance_19 : decode cX9_advance 19 = .ok (.getfield 69, 3) := by decide +kernel
theorem dX9_advance_22 : decode cX9_advance 22 = .ok (.invokevirtual 72, 3) := by decide +kernel
theorem dX9_advance_25 : decode cX9_advance 25 = .ok (.bipush 32, 2) := by decide +kernel
theorem dX9_advance_27 : decode cX9_advance 27 = .ok (.if_icmp .ne 19, 3) := by decide +kernel
theorem dX9_advance_30 : decode cX9_advance 30 = .ok (.aload_n 0, 1) := by decide +kernel
theorem dX9_advance_31 : decode cX9_advance 31 = .ok (.dup, 1) := by decide +kernel
theorem dX9_advance_32 : decode cX9_advance 32 = .ok (.getfield 69, 3) := by decide +kernel
theorem dX9_advance_35 : decode cX9_advance 35 = .ok (.iconst 1, 1) := by decide +kernel
theorem dX9_advance_36 : decode cX9_advance 36 = .ok (.iadd, 1) := by decide +kernel
theorem dX9_advance_37 : decode cX9_advance 37 = .ok (.putfield 69, 3) := by decide +kernel
theorem dX9_advance_40 : decode cX9_advance 40 = .ok (.iinc 1 1, 3) := by decide +kernel
theorem dX9_advance_43 : decode cX9_advance 43 = .ok (.goto (-33), 3) := by decide +kernel
theorem dX9_advance_46 : decode cX9_advance 46 = .ok (.aload_n 0, 1) := by decide +kernel
theorem dX9_advance_47 : decode cX9_advance 47 = .ok (.aload_n 0, 1) := by decide +kernel
theorem dX9_advance_48 : decode cX9_advance 48 = .ok (.getfield 69, 3) := by decide +kernel
theorem dX9_advance_51 : decode cX9_advance 51 = .ok (.putfield 76, 3) := by decide +kernel
theorem dX9_advance_54 : decode cX9_advance 54 = .ok (.aload_n 0, 1) := by decide +kernel
theorem dX9_advance_55 : decode cX9_advance 55 = .ok (.aload_n 0, 1) := by decide +kernel
theorem dX9_advance_56 : decode cX9_advance 56 = .ok (.getfield 69, 3) := by decide +kernel
theorem dX9_advance_59 : decode cX9_advance 59 = .ok (.invokevirtual 72, 3) := by decide +kernel
theorem dX9_advance_62 : decode cX9_advance 62 = .ok (.istore_n 1, 1) := by decide +kernel
theorem dX9_advance_63 : decode cX9_advance 63 = .ok (.iload_n 1, 1) := by decide +kernel
theorem dX9_advance_64 : decode cX9_advance 64 = .ok (.ifCond .ge 11, 3) := by decide +kernel
theorem dX9_advance_67 : decode cX9_advance 67 = .ok (.aload_n 0, 1) := by decide +kernel
theorem dX9_advance_68 : decode cX9_advance 68 = .ok (.iconst 0, 1) := by decide +kernel
theorem dX9_advance_69 : decode cX9_advance 69 = .ok (.putfield 48, 3) := by decide +kernel
theorem dX9_advance_72 : decode cX9_advance 72 = .ok (.goto 53, 3) := by decide +kernel
theorem dX9_advance_75 : decode cX9_advance 75 = .ok (.iload_n 1, 1) := by decide +kernel
theorem dX9_advance_76 : decode cX9_advance 76 = .ok (.invokestatic 79, 3) := by decide +kernel
theorem dX9_advance_79 : decode cX9_advance 79 = .ok (.ifCond .eq 10, 3) := by decide +kernel
theorem dX9_advance_82 : decode cX9_advance 82 = .ok (.aload_n 0, 1) := by decide +kernel
theorem dX9_advance_83 : decode cX9_advance 83 = .ok (.invokevirtual 83, 3) := by decide +kernel
theorem dX9_advance_86 : decode cX9_advance 86 = .ok (.goto 39, 3) := by decide +kernel
theorem dX9_advance_89 : decode cX9_advance 89 = .ok (.iload_n 1, 1) := by decide +kernel
theorem dX9_advance_90 : decode cX9_advance 90 = .ok (.invokestatic 86, 3) := by decide +kernel
theorem dX9_advance_93 : decode cX9_advance 93 = .ok (.ifCond .eq 10, 3) := by decide +kernel
theorem dX9_advance_96 : decode cX9_advance 96 = .ok (.aload_n 0, 1) := by decide +kernel
theorem dX9_advance_97 : decode cX9_advance 97 = .ok (.invokevirtual 89, 3) := by decide +kernel
theorem dX9_advance_100 : decode cX9_advance 100 = .ok (.goto 25, 3) := by decide +kernel
theorem dX9_advance_103 : decode cX9_advance 103 = .ok (.iload_n 1, 1) := by decide +kernel
theorem dX9_advance_104 : decode cX9_advance 104 = .ok (.bipush 59, 2) := by decide +kernel
theorem dX9_advance_106 : decode cX9_advance 106 = .ok (.if_icmp .ne 10, 3) := by decide +kernel
theorem dX9_advance_109 : decode cX9_advance 109 = .ok (.aload_n 0, 1) := by decide +kernel
theorem dX9_advance_110 : decode cX9_advance 110 = .ok (.invokevirtual 92, 3) := by decide +kernel
theorem dX9_advance_113 : decode cX9_advance 113 = .ok (.goto 12, 3) := by decide +kernel
theorem dX9_advance_116 : decode cX9_advance 116 = .ok (.aload_n 0, 1) := by decide +kernel
theorem dX9_advance_117 : decode cX9_advance 117 = .ok (.iconst 1, 1) := by decide +kernel
theorem dX9_advance_118 : decode cX9_advance 118 = .ok (.aload_n 0, 1) := by decide +kernel
theorem dX9_advance_119 : decode cX9_advance 119 = .ok (.getfield 76, 3) := by decide +kernel
theorem dX9_advance_122 : decode cX9_advance 122 = .ok (.invokevirtual 61, 3) := by decide +kernel
theorem dX9_advance_125 : decode cX9_advance 125 = .ok (.return_, 1) := by decide +kernel
abbrev q_X9_advance  (σ : tw_M) : Option tw_V → tw_M → Prop := fun z τ => z = none ∧ tw_I τ ∧ tw_F (fun c j => (c = 10 ∧ (j = 5 ∨ j = 6 ∨ j = 7 ∨ j = 8 ∨ j = 11 ∨ j = 12))) σ τ ∧ (aX τ = tok (fX σ) (aX σ)) ∧ (¬ σ 10 5 ≤ σ 10 10 ∨ τ 10 5 ≤ σ 10 10) ∧ (¬ σ 10 5 ≤ σ 10 10 ∨ ¬ τ 10 11 = 0 ∨ ¬ τ 10 6 = 0 ∨ τ 10 7 = σ 10 10) ∧ (¬ τ 10 11 = 0 ∨ (σ 10 11 = 0 ∧ σ 10 5 ≤ τ 10 5 ∧ (τ 10 6 = 0 ∨ σ 10 5 < τ 10 5)))
set_option maxHeartbeats 4000000 in
set_option maxRecDepth 100000 in
theorem l_X9_advance {G : tw_G} (hX : tw_isX G) (σ : tw_M) (hI : tw_I σ) : ∀ N_ : Nat, (∀ (i : Int) (hi : 0 ≤ i ∧ i ≤ 400) (τ : tw_M) (hIτ : tw_I τ) (hFτ : tw_F (fun c j => (c = 10 ∧ (j = 5 ∨ j = 6 ∨ j = 7 ∨ j = 8 ∨ j = 11 ∨ j = 12))) σ τ) (i0 : σ 10 11 = 0) (i1 : τ 10 11 = 0) (i2 : τ 10 12 = σ 10 12) (i3 : τ 10 5 = σ 10 5 + i) (i4 : run isS (fX σ) (τ 10 5) = run isS (fX σ) (σ 10 5)) (i5 : ¬ σ 10 5 ≤ σ 10 10 ∨ τ 10 5 ≤ σ 10 10) (hm : (400 - i).toNat < N_), tw_J G (tw_mt RX9 cX9_advance 2 none 2) (tw_E G (q_X9_advance σ)) 10 [(0, vR 10), (1, vI i)] [] τ) := by
  intro N_
  induction N_ with
  | zero => exact fun i hi τ hIτ hFτ i0 i1 i2 i3 i4 i5 hm => absurd hm (Nat.not_lt_zero _)
  | succ N_ ih =>
    intro i hi τ hIτ hFτ i0 i1 i2 i3 i4 i5 hm
    have fx : fX τ = fX σ := fX_F (hFτ 10 10 (show ¬ ((10 = 10 ∧ (10 = 5 ∨ 10 = 6 ∨ 10 = 7 ∨ 10 = 8 ∨ 10 = 11 ∨ 10 = 12))) from by decide)) (fun j => hFτ 11 j (show ¬ ((11 = 10 ∧ (j = 5 ∨ j = 6 ∨ j = 7 ∨ j = 8 ∨ j = 11 ∨ j = 12))) from fun h => absurd h.1 (by decide)))
    have f10 : (0 : Int) ≤ σ 10 10 ∧ σ 10 10 ≤ 400 := hI 10 10
    have e10 : τ 10 10 = σ 10 10 := hFτ 10 10 (show ¬ ((10 = 10 ∧ (10 = 5 ∨ 10 = 6 ∨ 10 = 7 ∨ 10 = 8 ∨ 10 = 11 ∨ 10 = 12))) from by decide); have f05 : (0 : Int) ≤ σ 10 5 ∧ σ 10 5 ≤ 400 := hI 10 5; have f15 : (0 : Int) ≤ τ 10 5 ∧ τ 10 5 ≤ 400 := hIτ 10 5
    refine j_iload_n (pc := 10) dX9_advance_10 rfl rfl ?_
    refine j_sipush (pc := 11) dX9_advance_11 rfl ?_
    refine j_icmpR_ge (pc := 14) (tgt := 46) ⟨by omega, by omega⟩ ⟨by omega, by omega⟩ dX9_advance_14 rfl (fun h1 => ?_) (fun h1 => ?_)
    · have rs : τ 10 5 = run isS (fX σ) (σ 10 5) := (by rw [show τ 10 5 = τ 10 5 from rfl, ← i4]; exact (run_n (show isS (fX σ (τ 10 5)) = false from decide_eq_false (by first | omega | (rw [fX_no (by omega)]; decide)))).symm)
      refine j_aload_n (pc := 46) dX9_advance_46 rfl rfl ?_
      refine j_aload_n (pc := 47) dX9_advance_47 rfl rfl ?_
      refine j_getI (pc := 48) fl_X9_69 dX9_advance_48 (a_10 hX) rfl ?_
      have f2 : (0 : Int) ≤ τ 10 5 ∧ τ 10 5 ≤ 400 := hIτ 10 5
      refine j_putI (pc := 51) fl_X9_76 fp_X9_7 dX9_advance_51 (a_10 hX) rfl (j_nm (fun σ3 (eσ3 : σ3 = tw_up τ 10 7 (τ 10 5)) => ?_))
      have hIσ3 : tw_I σ3 := tw_I_up hIτ eσ3 (show (0 : Int) ≤ τ 10 5 ∧ τ 10 5 ≤ 400 from ⟨by omega, by omega⟩)
      have hFσ3 : tw_F (fun c j => (c = 10 ∧ (j = 5 ∨ j = 6 ∨ j = 7 ∨ j = 8 ∨ j = 11 ∨ j = 12))) σ σ3 := tw_F_up hFτ eσ3 (show (10 = 10 ∧ (7 = 5 ∨ 7 = 6 ∨ 7 = 7 ∨ 7 = 8 ∨ 7 = 11 ∨ 7 = 12)) from ⟨rfl, (Or.inr (Or.inr (Or.inl rfl)))⟩)
      refine j_aload_n (pc := 54) dX9_advance_54 rfl rfl ?_
      refine j_aload_n (pc := 55) dX9_advance_55 rfl rfl ?_
      refine j_getI (pc := 56) fl_X9_69 dX9_advance_56 (a_10 hX) rfl ?_
      refine j_topV (show σ3 10 5 = τ 10 5 from (tw_ne1 eσ3 (by (first | decide | omega)))) ?_
      refine j_callV (pc := 59) (As := [vI (τ 10 5)]) (st := []) (c_X9_byteAt hX (τ 10 5) ⟨by omega, by omega⟩ σ3 hIσ3) mv_X9_72 rfl rfl rfl (a_10 hX) dX9_advance_59 ⟨Nat.le_of_ble_eq_true rfl, Nat.le_of_ble_eq_true rfl⟩ ⟨Nat.le_refl _, Nat.le_refl _⟩ rfl (Nat.le_of_ble_eq_true rfl) rfl (fun z4 σ5 hz4 => ?_)
      obtain ⟨r7, rfl, hr7, rfl, q6_0, q6_1⟩ := hz4
      replace q6_0 : (¬ (0 ≤ (τ 10 5) ∧ (τ 10 5) < σ3 10 10 ∧ (τ 10 5) < 400) ∧ r7 = -1) ∨ (0 ≤ (τ 10 5) ∧ (τ 10 5) < σ3 10 10 ∧ (τ 10 5) < 400 ∧ 0 ≤ r7 ∧ r7 = tw_and (σ3 11 (τ 10 5).toNat) 255) := q6_0
      have y8 : σ3 10 10 = τ 10 10 := (tw_ne1 eσ3 (by (first | decide | omega)))
      have f9 : (0 : Int) ≤ τ 10 10 ∧ τ 10 10 ≤ 400 := hIτ 10 10
      have y10 : σ3 11 ((τ 10 5).toNat) = τ 11 ((τ 10 5).toNat) := (tw_ne1 eσ3 (by (first | decide | omega)))
      replace q6_1 : r7 = fX σ3 (τ 10 5) := q6_1
      refine j_st (st' := [vI r7]) rfl ?_
      have fy : fX σ3 = fX σ := fX_F (hFσ3 10 10 (show ¬ ((10 = 10 ∧ (10 = 5 ∨ 10 = 6 ∨ 10 = 7 ∨ 10 = 8 ∨ 10 = 11 ∨ 10 = 12))) from by decide)) (fun j => hFσ3 11 j (show ¬ ((11 = 10 ∧ (j = 5 ∨ j = 6 ∨ j = 7 ∨ j = 8 ∨ j = 11 ∨ j = 12))) from fun h => absurd h.1 (by decide)))
      have b7 := q6_1; rw [fy] at b7
      have pa : σ3 10 5 = τ 10 5 := (tw_ne1 eσ3 (by (first | decide | omega)))
      have y11 : σ3 10 7 = τ 10 5 := (tw_eq1 eσ3)
      refine j_istore_n (pc := 62) (i := 1) (ls' := [(0, vR 10), (1, vI r7)]) [1, 0] dX9_advance_62 rfl (Nat.le_of_ble_eq_true rfl) rfl rfl ?_
      refine j_iload_n (pc := 63) dX9_advance_63 rfl rfl ?_
      refine j_ifR_ge (pc := 64) (tgt := 75) ⟨by omega, by omega⟩ dX9_advance_64 rfl (fun h12 => ?_) (fun h12 => ?_)
      · refine j_iload_n (pc := 75) dX9_advance_75 rfl rfl ?_
        refine j_callS (pc := 76) (As := [vI r7]) (st := []) (c_X9_isLetter r7 ⟨by omega, by omega⟩ σ3 hIσ3) ms_X9_79 rfl dX9_advance_76 ⟨Nat.le_of_ble_eq_true rfl, Nat.le_of_ble_eq_true rfl⟩ ⟨Nat.le_refl _, Nat.le_refl _⟩ rfl (Nat.le_of_ble_eq_true rfl) rfl (fun z13 σ14 hz13 => ?_)
        obtain ⟨r16, rfl, hr16, rfl, q15_0⟩ := hz13
        replace q15_0 : (r16 = 1 ∧ 97 ≤ r7 ∧ r7 ≤ 122) ∨ (r16 = 0 ∧ ¬ (97 ≤ r7 ∧ r7 ≤ 122)) := q15_0
        refine j_st (st' := [vI r16]) rfl ?_
        refine j_ifR_eq (pc := 79) (tgt := 89) ⟨by omega, by omega⟩ dX9_advance_79 rfl (fun h17 => ?_) (fun h17 => ?_)
        · refine j_iload_n (pc := 89) dX9_advance_89 rfl rfl ?_
          refine j_callS (pc := 90) (As := [vI r7]) (st := []) (c_X9_isFigure r7 ⟨by omega, by omega⟩ σ3 hIσ3) ms_X9_86 rfl dX9_advance_90 ⟨Nat.le_of_ble_eq_true rfl, Nat.le_of_ble_eq_true rfl⟩ ⟨Nat.le_refl _, Nat.le_refl _⟩ rfl (Nat.le_of_ble_eq_true rfl) rfl (fun z18 σ19 hz18 => ?_)
          obtain ⟨r21, rfl, hr21, rfl, q20_0⟩ := hz18
          replace q20_0 : (r21 = 1 ∧ 48 ≤ r7 ∧ r7 ≤ 57) ∨ (r21 = 0 ∧ ¬ (48 ≤ r7 ∧ r7 ≤ 57)) := q20_0
          refine j_st (st' := [vI r21]) rfl ?_
          refine j_ifR_eq (pc := 93) (tgt := 103) ⟨by omega, by omega⟩ dX9_advance_93 rfl (fun h22 => ?_) (fun h22 => ?_)
          · refine j_iload_n (pc := 103) dX9_advance_103 rfl rfl ?_
            refine j_bipush (pc := 104) dX9_advance_104 rfl ?_
            refine j_icmpR_ne (pc := 106) (tgt := 116) ⟨by omega, by omega⟩ ⟨by omega, by omega⟩ dX9_advance_106 rfl (fun h23 => ?_) (fun h23 => ?_)
            · refine j_aload_n (pc := 116) dX9_advance_116 rfl rfl ?_
              refine j_iconst (pc := 117) dX9_advance_117 ?_
              refine j_aload_n (pc := 118) dX9_advance_118 rfl rfl ?_
              refine j_getI (pc := 119) fl_X9_76 dX9_advance_119 (a_10 hX) rfl ?_
              refine j_topV (show σ3 10 7 = τ 10 5 from (tw_eq1 eσ3)) ?_
              refine j_callV (pc := 122) (As := [vI 1, vI (τ 10 5)]) (st := []) (c_X9_fail hX 1 (by (first | decide | exact ⟨by omega, by omega⟩)) (τ 10 5) ⟨by omega, by omega⟩ σ3 hIσ3) mv_X9_61 rfl rfl rfl (a_10 hX) dX9_advance_122 ⟨Nat.le_of_ble_eq_true rfl, Nat.le_of_ble_eq_true rfl⟩ ⟨Nat.le_refl _, Nat.le_refl _⟩ rfl (Nat.le_of_ble_eq_true rfl) rfl (fun z24 σ25 hz24 => ?_)
              obtain ⟨rfl, hIσ25, hGσ25, q26_0⟩ := hz24
              replace q26_0 : (σ3 10 11 = 0 ∧ σ25 10 11 = (1 : Int) ∧ σ25 10 12 = (τ 10 5)) ∨ (¬ σ3 10 11 = 0 ∧ σ25 10 11 = σ3 10 11 ∧ σ25 10 12 = σ3 10 12) := q26_0
              have y28 : σ3 10 11 = τ 10 11 := (tw_ne1 eσ3 (by (first | decide | omega)))
              have f29 : (0 : Int) ≤ τ 10 11 ∧ τ 10 11 ≤ 5 := hIτ 10 11
              have y30 : σ3 10 12 = τ 10 12 := (tw_ne1 eσ3 (by (first | decide | omega)))
              have f31 : (0 : Int) ≤ τ 10 12 ∧ τ 10 12 ≤ 400 := hIτ 10 12
              have hFσ25 : tw_F (fun c j => (c = 10 ∧ (j = 5 ∨ j = 6 ∨ j = 7 ∨ j = 8 ∨ j = 11 ∨ j = 12))) σ σ25 := tw_F_tr hFσ3 hGσ25 (fun c j q => (show (c = 10 ∧ (j = 5 ∨ j = 6 ∨ j = 7 ∨ j = 8 ∨ j = 11 ∨ j = 12)) from by replace q : (c = 10 ∧ (j = 11 ∨ j = 12)) := q; exact ⟨q.1, (q.2.elim (fun z => (Or.inr (Or.inr (Or.inr (Or.inr (Or.inl z)))))) (fun z => (Or.inr (Or.inr (Or.inr (Or.inr (Or.inr z)))))))⟩))
              refine j_st (st' := []) rfl ?_
              have y32 : σ25 10 5 = τ 10 5 := ((hGσ25 10 5 (show ¬ ((10 = 10 ∧ (5 = 11 ∨ 5 = 12))) from by decide))).trans (tw_ne1 eσ3 (by (first | decide | omega)))
              have y33 : σ25 10 6 = τ 10 6 := ((hGσ25 10 6 (show ¬ ((10 = 10 ∧ (6 = 11 ∨ 6 = 12))) from by decide))).trans (tw_ne1 eσ3 (by (first | decide | omega)))
              have y34 : σ25 10 7 = τ 10 5 := ((hGσ25 10 7 (show ¬ ((10 = 10 ∧ (7 = 11 ∨ 7 = 12))) from by decide))).trans (tw_eq1 eσ3)
              have y35 : σ25 10 8 = τ 10 8 := ((hGσ25 10 8 (show ¬ ((10 = 10 ∧ (8 = 11 ∨ 8 = 12))) from by decide))).trans (tw_ne1 eσ3 (by (first | decide | omega)))
              skip
              skip
              have ax : aX σ25 = tok (fX σ) (aX σ) := adv_bad (by omega) (by omega) (by omega) (by omega) (by rw [show σ25 10 7 = τ 10 5 from by omega]; omega)
              have am := adv_mon ax (hI 10 10)
              have y36 : σ25 10 5 = τ 10 5 := ((hGσ25 10 5 (show ¬ ((10 = 10 ∧ (5 = 11 ∨ 5 = 12))) from by decide))).trans (tw_ne1 eσ3 (by (first | decide | omega)))
              have y37 : σ25 10 6 = τ 10 6 := ((hGσ25 10 6 (show ¬ ((10 = 10 ∧ (6 = 11 ∨ 6 = 12))) from by decide))).trans (tw_ne1 eσ3 (by (first | decide | omega)))
              have f38 : (0 : Int) ≤ τ 10 6 ∧ τ 10 6 ≤ 3 := hIτ 10 6
              have y39 : σ25 10 7 = τ 10 5 := ((hGσ25 10 7 (show ¬ ((10 = 10 ∧ (7 = 11 ∨ 7 = 12))) from by decide))).trans (tw_eq1 eσ3)
              have y40 : σ25 10 5 = τ 10 5 := ((hGσ25 10 5 (show ¬ ((10 = 10 ∧ (5 = 11 ∨ 5 = 12))) from by decide))).trans (tw_ne1 eσ3 (by (first | decide | omega)))
              have y41 : σ25 10 6 = τ 10 6 := ((hGσ25 10 6 (show ¬ ((10 = 10 ∧ (6 = 11 ∨ 6 = 12))) from by decide))).trans (tw_ne1 eσ3 (by (first | decide | omega)))
              exact j_vret (pc := 125) ⟨rfl, rfl⟩ dX9_advance_125 rfl ⟨rfl, hIσ25, hFσ25, ax, by omega, by omega, am⟩
            · refine j_aload_n (pc := 109) dX9_advance_109 rfl rfl ?_
              have y42 : σ3 10 5 = τ 10 5 := (tw_ne1 eσ3 (by (first | decide | omega)))
              refine j_callV (pc := 110) (As := []) (st := []) (c_X9_readSign hX σ3 hIσ3 (by omega)) mv_X9_92 rfl rfl rfl (a_10 hX) dX9_advance_110 ⟨Nat.le_of_ble_eq_true rfl, Nat.le_of_ble_eq_true rfl⟩ ⟨Nat.le_refl _, Nat.le_refl _⟩ rfl (Nat.le_of_ble_eq_true rfl) rfl (fun z43 σ44 hz43 => ?_)
              obtain ⟨rfl, hIσ44, hGσ44, q45_0, q45_1⟩ := hz43
              replace q45_0 : σ44 10 6 = 3 := q45_0
              replace q45_1 : σ44 10 5 = σ3 10 5 + 1 := q45_1
              have y47 : σ3 10 5 = τ 10 5 := (tw_ne1 eσ3 (by (first | decide | omega)))
              have hFσ44 : tw_F (fun c j => (c = 10 ∧ (j = 5 ∨ j = 6 ∨ j = 7 ∨ j = 8 ∨ j = 11 ∨ j = 12))) σ σ44 := tw_F_tr hFσ3 hGσ44 (fun c j q => (show (c = 10 ∧ (j = 5 ∨ j = 6 ∨ j = 7 ∨ j = 8 ∨ j = 11 ∨ j = 12)) from by replace q : (c = 10 ∧ (j = 5 ∨ j = 6)) := q; exact ⟨q.1, (q.2.elim (fun z => (Or.inl z)) (fun z => (Or.inr (Or.inl z))))⟩))
              refine j_st (st' := []) rfl ?_
              skip
              skip
              have y48 : σ44 10 7 = τ 10 5 := ((hGσ44 10 7 (show ¬ ((10 = 10 ∧ (7 = 5 ∨ 7 = 6))) from by decide))).trans (tw_eq1 eσ3)
              have y49 : σ44 10 8 = τ 10 8 := ((hGσ44 10 8 (show ¬ ((10 = 10 ∧ (8 = 5 ∨ 8 = 6))) from by decide))).trans (tw_ne1 eσ3 (by (first | decide | omega)))
              have y50 : σ44 10 11 = τ 10 11 := ((hGσ44 10 11 (show ¬ ((10 = 10 ∧ (11 = 5 ∨ 11 = 6))) from by decide))).trans (tw_ne1 eσ3 (by (first | decide | omega)))
              have y51 : σ44 10 12 = τ 10 12 := ((hGσ44 10 12 (show ¬ ((10 = 10 ∧ (12 = 5 ∨ 12 = 6))) from by decide))).trans (tw_ne1 eσ3 (by (first | decide | omega)))
              have ax : aX σ44 = tok (fX σ) (aX σ) := adv_stop (by omega) (drX_F (hFσ44 10 3 (show ¬ ((10 = 10 ∧ (3 = 5 ∨ 3 = 6 ∨ 3 = 7 ∨ 3 = 8 ∨ 3 = 11 ∨ 3 = 12))) from by decide)) (hFσ44 10 4 (show ¬ ((10 = 10 ∧ (4 = 5 ∨ 4 = 6 ∨ 4 = 7 ∨ 4 = 8 ∨ 4 = 11 ∨ 4 = 12))) from by decide)) (fun c j h => hFσ44 c j (show ¬ ((c = 10 ∧ (j = 5 ∨ j = 6 ∨ j = 7 ∨ j = 8 ∨ j = 11 ∨ j = 12))) from by omega))) (by omega) (by omega) (by rw [show σ44 10 7 = τ 10 5 from by omega]; omega) (by omega) (by omega)
              refine j_goto (pc := 113) (tgt := 125) dX9_advance_113 rfl ?_
              have am := adv_mon ax (hI 10 10)
              have y52 : σ44 10 11 = τ 10 11 := ((hGσ44 10 11 (show ¬ ((10 = 10 ∧ (11 = 5 ∨ 11 = 6))) from by decide))).trans (tw_ne1 eσ3 (by (first | decide | omega)))
              have f53 : (0 : Int) ≤ τ 10 11 ∧ τ 10 11 ≤ 5 := hIτ 10 11
              have y54 : σ44 10 7 = τ 10 5 := ((hGσ44 10 7 (show ¬ ((10 = 10 ∧ (7 = 5 ∨ 7 = 6))) from by decide))).trans (tw_eq1 eσ3)
              have y55 : σ44 10 11 = τ 10 11 := ((hGσ44 10 11 (show ¬ ((10 = 10 ∧ (11 = 5 ∨ 11 = 6))) from by decide))).trans (tw_ne1 eσ3 (by (first | decide | omega)))
              exact j_vret (pc := 125) ⟨rfl, rfl⟩ dX9_advance_125 rfl ⟨rfl, hIσ44, hFσ44, ax, by omega, by omega, am⟩
          · refine j_aload_n (pc := 96) dX9_advance_96 rfl rfl ?_
            refine j_callV (pc := 97) (As := []) (st := []) (c_X9_readNumber hX σ3 hIσ3) mv_X9_89 rfl rfl rfl (a_10 hX) dX9_advance_97 ⟨Nat.le_of_ble_eq_true rfl, Nat.le_of_ble_eq_true rfl⟩ ⟨Nat.le_refl _, Nat.le_refl _⟩ rfl (Nat.le_of_ble_eq_true rfl) rfl (fun z56 σ57 hz56 => ?_)
            obtain ⟨rfl, hIσ57, hGσ57, q58_0, q58_1, q58_2, q58_3, q58_4⟩ := hz56
            replace q58_0 : σ57 10 6 = 2 := q58_0
            replace q58_1 : σ57 10 5 = run isG (fX σ3) (σ3 10 5) := q58_1
            have y60 : σ3 10 5 = τ 10 5 := (tw_ne1 eσ3 (by (first | decide | omega)))
            replace q58_2 : σ57 10 8 = nv (fX σ3) (σ3 10 5) (σ57 10 5 - σ3 10 5).toNat := q58_2
            have y61 : σ3 10 5 = τ 10 5 := (tw_ne1 eσ3 (by (first | decide | omega)))
            replace q58_3 : (σ57 10 5 - σ3 10 7 ≤ 3 ∧ σ57 10 11 = σ3 10 11 ∧ σ57 10 12 = σ3 10 12) ∨ (3 < σ57 10 5 - σ3 10 7 ∧ σ3 10 11 = 0 ∧ σ57 10 11 = 1 ∧ σ57 10 12 = σ3 10 7) ∨ (3 < σ57 10 5 - σ3 10 7 ∧ ¬ σ3 10 11 = 0 ∧ σ57 10 11 = σ3 10 11 ∧ σ57 10 12 = σ3 10 12) := q58_3
            have y62 : σ3 10 7 = τ 10 5 := (tw_eq1 eσ3)
            have y63 : σ3 10 11 = τ 10 11 := (tw_ne1 eσ3 (by (first | decide | omega)))
            have f64 : (0 : Int) ≤ τ 10 11 ∧ τ 10 11 ≤ 5 := hIτ 10 11
            have y65 : σ3 10 12 = τ 10 12 := (tw_ne1 eσ3 (by (first | decide | omega)))
            have f66 : (0 : Int) ≤ τ 10 12 ∧ τ 10 12 ≤ 400 := hIτ 10 12
            replace q58_4 : ¬ σ3 10 5 ≤ σ3 10 10 ∨ σ57 10 5 ≤ σ3 10 10 := q58_4
            have y67 : σ3 10 5 = τ 10 5 := (tw_ne1 eσ3 (by (first | decide | omega)))
            have y68 : σ3 10 10 = τ 10 10 := (tw_ne1 eσ3 (by (first | decide | omega)))
            have hFσ57 : tw_F (fun c j => (c = 10 ∧ (j = 5 ∨ j = 6 ∨ j = 7 ∨ j = 8 ∨ j = 11 ∨ j = 12))) σ σ57 := tw_F_tr hFσ3 hGσ57 (fun c j q => (show (c = 10 ∧ (j = 5 ∨ j = 6 ∨ j = 7 ∨ j = 8 ∨ j = 11 ∨ j = 12)) from by replace q : (c = 10 ∧ (j = 5 ∨ j = 6 ∨ j = 8 ∨ j = 11 ∨ j = 12)) := q; exact ⟨q.1, (q.2.elim (fun z => (Or.inl z)) (fun z => (z.elim (fun z => (Or.inr (Or.inl z))) (fun z => (z.elim (fun z => (Or.inr (Or.inr (Or.inr (Or.inl z))))) (fun z => (z.elim (fun z => (Or.inr (Or.inr (Or.inr (Or.inr (Or.inl z)))))) (fun z => (Or.inr (Or.inr (Or.inr (Or.inr (Or.inr z)))))))))))))⟩))
            refine j_st (st' := []) rfl ?_
            skip
            skip
            have y69 : σ57 10 7 = τ 10 5 := ((hGσ57 10 7 (show ¬ ((10 = 10 ∧ (7 = 5 ∨ 7 = 6 ∨ 7 = 8 ∨ 7 = 11 ∨ 7 = 12))) from by decide))).trans (tw_eq1 eσ3)
            skip
            skip
            skip
            have z1 := q58_1; rw [fy, pa] at z1
            have z2 := q58_2; rw [fy, pa] at z2
            have ax : aX σ57 = tok (fX σ) (aX σ) := by (rcases (show σ57 10 5 - τ 10 5 ≤ 3 ∨ 3 < σ57 10 5 - τ 10 5 from by omega) with u | u); (exact adv_num (by omega) (drX_F (hFσ57 10 3 (show ¬ ((10 = 10 ∧ (3 = 5 ∨ 3 = 6 ∨ 3 = 7 ∨ 3 = 8 ∨ 3 = 11 ∨ 3 = 12))) from by decide)) (hFσ57 10 4 (show ¬ ((10 = 10 ∧ (4 = 5 ∨ 4 = 6 ∨ 4 = 7 ∨ 4 = 8 ∨ 4 = 11 ∨ 4 = 12))) from by decide)) (fun c j h => hFσ57 c j (show ¬ ((c = 10 ∧ (j = 5 ∨ j = 6 ∨ j = 7 ∨ j = 8 ∨ j = 11 ∨ j = 12))) from by omega))) (by omega) (by omega) (by rw [show σ57 10 7 = τ 10 5 from by omega]; omega) (by omega) (by rw [show σ57 10 7 = τ 10 5 from by omega]; exact z1) (by rw [show σ57 10 7 = τ 10 5 from by omega]; exact z2) (by omega)); (exact adv_long (by omega) (by omega) (by omega) (by omega) (by rw [show σ57 10 7 = τ 10 5 from by omega]; omega) (by rw [show σ57 10 7 = τ 10 5 from by omega]; exact z1) (by omega))
            refine j_goto (pc := 100) (tgt := 125) dX9_advance_100 rfl ?_
            have am := adv_mon ax (hI 10 10)
            have y70 : σ57 10 7 = τ 10 5 := ((hGσ57 10 7 (show ¬ ((10 = 10 ∧ (7 = 5 ∨ 7 = 6 ∨ 7 = 8 ∨ 7 = 11 ∨ 7 = 12))) from by decide))).trans (tw_eq1 eσ3)
            exact j_vret (pc := 125) ⟨rfl, rfl⟩ dX9_advance_125 rfl ⟨rfl, hIσ57, hFσ57, ax, by omega, by omega, am⟩
        · refine j_aload_n (pc := 82) dX9_advance_82 rfl rfl ?_
          refine j_callV (pc := 83) (As := []) (st := []) (c_X9_readName hX σ3 hIσ3) mv_X9_83 rfl rfl rfl (a_10 hX) dX9_advance_83 ⟨Nat.le_of_ble_eq_true rfl, Nat.le_of_ble_eq_true rfl⟩ ⟨Nat.le_refl _, Nat.le_refl _⟩ rfl (Nat.le_of_ble_eq_true rfl) rfl (fun z71 σ72 hz71 => ?_)
          obtain ⟨rfl, hIσ72, hGσ72, q73_0, q73_1, q73_2⟩ := hz71
          replace q73_0 : σ72 10 6 = 1 := q73_0
          replace q73_1 : σ72 10 5 = run isL (fX σ3) (σ3 10 5) := q73_1
          have y75 : σ3 10 5 = τ 10 5 := (tw_ne1 eσ3 (by (first | decide | omega)))
          replace q73_2 : ¬ σ3 10 5 ≤ σ3 10 10 ∨ σ72 10 5 ≤ σ3 10 10 := q73_2
          have y76 : σ3 10 5 = τ 10 5 := (tw_ne1 eσ3 (by (first | decide | omega)))
          have y77 : σ3 10 10 = τ 10 10 := (tw_ne1 eσ3 (by (first | decide | omega)))
          have hFσ72 : tw_F (fun c j => (c = 10 ∧ (j = 5 ∨ j = 6 ∨ j = 7 ∨ j = 8 ∨ j = 11 ∨ j = 12))) σ σ72 := tw_F_tr hFσ3 hGσ72 (fun c j q => (show (c = 10 ∧ (j = 5 ∨ j = 6 ∨ j = 7 ∨ j = 8 ∨ j = 11 ∨ j = 12)) from by replace q : (c = 10 ∧ (j = 5 ∨ j = 6)) := q; exact ⟨q.1, (q.2.elim (fun z => (Or.inl z)) (fun z => (Or.inr (Or.inl z))))⟩))
          refine j_st (st' := []) rfl ?_
          skip
          skip
          have y78 : σ72 10 7 = τ 10 5 := ((hGσ72 10 7 (show ¬ ((10 = 10 ∧ (7 = 5 ∨ 7 = 6))) from by decide))).trans (tw_eq1 eσ3)
          have y79 : σ72 10 8 = τ 10 8 := ((hGσ72 10 8 (show ¬ ((10 = 10 ∧ (8 = 5 ∨ 8 = 6))) from by decide))).trans (tw_ne1 eσ3 (by (first | decide | omega)))
          have y80 : σ72 10 11 = τ 10 11 := ((hGσ72 10 11 (show ¬ ((10 = 10 ∧ (11 = 5 ∨ 11 = 6))) from by decide))).trans (tw_ne1 eσ3 (by (first | decide | omega)))
          have y81 : σ72 10 12 = τ 10 12 := ((hGσ72 10 12 (show ¬ ((10 = 10 ∧ (12 = 5 ∨ 12 = 6))) from by decide))).trans (tw_ne1 eσ3 (by (first | decide | omega)))
          have z1 := q73_1; rw [fy, pa] at z1
          have ax : aX σ72 = tok (fX σ) (aX σ) := adv_name (by omega) (drX_F (hFσ72 10 3 (show ¬ ((10 = 10 ∧ (3 = 5 ∨ 3 = 6 ∨ 3 = 7 ∨ 3 = 8 ∨ 3 = 11 ∨ 3 = 12))) from by decide)) (hFσ72 10 4 (show ¬ ((10 = 10 ∧ (4 = 5 ∨ 4 = 6 ∨ 4 = 7 ∨ 4 = 8 ∨ 4 = 11 ∨ 4 = 12))) from by decide)) (fun c j h => hFσ72 c j (show ¬ ((c = 10 ∧ (j = 5 ∨ j = 6 ∨ j = 7 ∨ j = 8 ∨ j = 11 ∨ j = 12))) from by omega))) (by omega) (by omega) (by rw [show σ72 10 7 = τ 10 5 from by omega]; omega) (by omega) (by rw [show σ72 10 7 = τ 10 5 from by omega]; exact z1)
          refine j_goto (pc := 86) (tgt := 125) dX9_advance_86 rfl ?_
          have am := adv_mon ax (hI 10 10)
          have y82 : σ72 10 11 = τ 10 11 := ((hGσ72 10 11 (show ¬ ((10 = 10 ∧ (11 = 5 ∨ 11 = 6))) from by decide))).trans (tw_ne1 eσ3 (by (first | decide | omega)))
          have f83 : (0 : Int) ≤ τ 10 11 ∧ τ 10 11 ≤ 5 := hIτ 10 11
          have y84 : σ72 10 7 = τ 10 5 := ((hGσ72 10 7 (show ¬ ((10 = 10 ∧ (7 = 5 ∨ 7 = 6))) from by decide))).trans (tw_eq1 eσ3)
          have y85 : σ72 10 11 = τ 10 11 := ((hGσ72 10 11 (show ¬ ((10 = 10 ∧ (11 = 5 ∨ 11 = 6))) from by decide))).trans (tw_ne1 eσ3 (by (first | decide | omega)))
          exact j_vret (pc := 125) ⟨rfl, rfl⟩ dX9_advance_125 rfl ⟨rfl, hIσ72, hFσ72, ax, by omega, by omega, am⟩
      · refine j_aload_n (pc := 67) dX9_advance_67 rfl rfl ?_
        refine j_iconst (pc := 68) dX9_advance_68 ?_
        refine j_putI (pc := 69) fl_X9_48 fp_X9_6 dX9_advance_69 (a_10 hX) rfl (j_nm (fun σ86 (eσ86 : σ86 = tw_up σ3 10 6 0) => ?_))
        have hIσ86 : tw_I σ86 := tw_I_up hIσ3 eσ86 (show (0 : Int) ≤ 0 ∧ 0 ≤ 3 from by decide)
        have hFσ86 : tw_F (fun c j => (c = 10 ∧ (j = 5 ∨ j = 6 ∨ j = 7 ∨ j = 8 ∨ j = 11 ∨ j = 12))) σ σ86 := tw_F_up hFσ3 eσ86 (show (10 = 10 ∧ (6 = 5 ∨ 6 = 6 ∨ 6 = 7 ∨ 6 = 8 ∨ 6 = 11 ∨ 6 = 12)) from ⟨rfl, (Or.inr (Or.inl rfl))⟩)
        have y87 : σ86 10 5 = τ 10 5 := ((tw_ne1 eσ86 (by (first | decide | omega)))).trans (tw_ne1 eσ3 (by (first | decide | omega)))
        have y88 : σ86 10 6 = 0 := (tw_eq1 eσ86)
        have y89 : σ86 10 7 = τ 10 5 := ((tw_ne1 eσ86 (by (first | decide | omega)))).trans (tw_eq1 eσ3)
        have y90 : σ86 10 8 = τ 10 8 := ((tw_ne1 eσ86 (by (first | decide | omega)))).trans (tw_ne1 eσ3 (by (first | decide | omega)))
        have y91 : σ86 10 11 = τ 10 11 := ((tw_ne1 eσ86 (by (first | decide | omega)))).trans (tw_ne1 eσ3 (by (first | decide | omega)))
        have y92 : σ86 10 12 = τ 10 12 := ((tw_ne1 eσ86 (by (first | decide | omega)))).trans (tw_ne1 eσ3 (by (first | decide | omega)))
        have ax : aX σ86 = tok (fX σ) (aX σ) := adv_end (by omega) (drX_F (hFσ86 10 3 (show ¬ ((10 = 10 ∧ (3 = 5 ∨ 3 = 6 ∨ 3 = 7 ∨ 3 = 8 ∨ 3 = 11 ∨ 3 = 12))) from by decide)) (hFσ86 10 4 (show ¬ ((10 = 10 ∧ (4 = 5 ∨ 4 = 6 ∨ 4 = 7 ∨ 4 = 8 ∨ 4 = 11 ∨ 4 = 12))) from by decide)) (fun c j h => hFσ86 c j (show ¬ ((c = 10 ∧ (j = 5 ∨ j = 6 ∨ j = 7 ∨ j = 8 ∨ j = 11 ∨ j = 12))) from by omega))) (by omega) (by omega) (by rw [show σ86 10 7 = τ 10 5 from by omega]; omega) (by omega) (by omega)
        refine j_goto (pc := 72) (tgt := 125) dX9_advance_72 rfl ?_
        have am := adv_mon ax (hI 10 10)
        have y93 : σ86 10 5 = τ 10 5 := ((tw_ne1 eσ86 (by (first | decide | omega)))).trans (tw_ne1 eσ3 (by (first | decide | omega)))
        have y94 : σ86 10 11 = τ 10 11 := ((tw_ne1 eσ86 (by (first | decide | omega)))).trans (tw_ne1 eσ3 (by (first | decide | omega)))
        have f95 : (0 : Int) ≤ τ 10 11 ∧ τ 10 11 ≤ 5 := hIτ 10 11
        have y96 : σ86 10 6 = 0 := (tw_eq1 eσ86)
        have y97 : σ86 10 7 = τ 10 5 := ((tw_ne1 eσ86 (by (first | decide | omega)))).trans (tw_eq1 eσ3)
        have y98 : σ86 10 11 = τ 10 11 := ((tw_ne1 eσ86 (by (first | decide | omega)))).trans (tw_ne1 eσ3 (by (first | decide | omega)))
        have y99 : σ86 10 5 = τ 10 5 := ((tw_ne1 eσ86 (by (first | decide | omega)))).trans (tw_ne1 eσ3 (by (first | decide | omega)))
        have y100 : σ86 10 6 = 0 := (tw_eq1 eσ86)
        exact j_vret (pc := 125) ⟨rfl, rfl⟩ dX9_advance_125 rfl ⟨rfl, hIσ86, hFσ86, ax, by omega, by omega, am⟩
    · refine j_aload_n (pc := 17) dX9_advance_17 rfl rfl ?_
      refine j_aload_n (pc := 18) dX9_advance_18 rfl rfl ?_
      refine j_getI (pc := 19) fl_X9_69 dX9_advance_19 (a_10 hX) rfl ?_
      have f101 : (0 : Int) ≤ τ 10 5 ∧ τ 10 5 ≤ 400 := hIτ 10 5
      refine j_callV (pc := 22) (As := [vI (τ 10 5)]) (st := []) (c_X9_byteAt hX (τ 10 5) ⟨by omega, by omega⟩ τ hIτ) mv_X9_72 rfl rfl rfl (a_10 hX) dX9_advance_22 ⟨Nat.le_of_ble_eq_true rfl, Nat.le_of_ble_eq_true rfl⟩ ⟨Nat.le_refl _, Nat.le_refl _⟩ rfl (Nat.le_of_ble_eq_true rfl) rfl (fun z102 σ103 hz102 => ?_)
      obtain ⟨r105, rfl, hr105, rfl, q104_0, q104_1⟩ := hz102
      replace q104_0 : (¬ (0 ≤ (τ 10 5) ∧ (τ 10 5) < τ 10 10 ∧ (τ 10 5) < 400) ∧ r105 = -1) ∨ (0 ≤ (τ 10 5) ∧ (τ 10 5) < τ 10 10 ∧ (τ 10 5) < 400 ∧ 0 ≤ r105 ∧ r105 = tw_and (τ 11 (τ 10 5).toNat) 255) := q104_0
      replace q104_1 : r105 = fX τ (τ 10 5) := q104_1
      refine j_st (st' := [vI r105]) rfl ?_
      have b9 := q104_1; rw [fx] at b9
      refine j_bipush (pc := 25) dX9_advance_25 rfl ?_
      refine j_icmpR_ne (pc := 27) (tgt := 46) ⟨by omega, by omega⟩ ⟨by omega, by omega⟩ dX9_advance_27 rfl (fun h106 => ?_) (fun h106 => ?_)
      · have rs : τ 10 5 = run isS (fX σ) (σ 10 5) := (by rw [show τ 10 5 = τ 10 5 from rfl, ← i4]; exact (run_n (show isS (fX σ (τ 10 5)) = false from decide_eq_false (by first | omega | (rw [fX_no (by omega)]; decide)))).symm)
        refine j_aload_n (pc := 46) dX9_advance_46 rfl rfl ?_
        refine j_aload_n (pc := 47) dX9_advance_47 rfl rfl ?_
        refine j_getI (pc := 48) fl_X9_69 dX9_advance_48 (a_10 hX) rfl ?_
        refine j_putI (pc := 51) fl_X9_76 fp_X9_7 dX9_advance_51 (a_10 hX) rfl (j_nm (fun σ107 (eσ107 : σ107 = tw_up τ 10 7 (τ 10 5)) => ?_))
        have hIσ107 : tw_I σ107 := tw_I_up hIτ eσ107 (show (0 : Int) ≤ τ 10 5 ∧ τ 10 5 ≤ 400 from ⟨by omega, by omega⟩)
        have hFσ107 : tw_F (fun c j => (c = 10 ∧ (j = 5 ∨ j = 6 ∨ j = 7 ∨ j = 8 ∨ j = 11 ∨ j = 12))) σ σ107 := tw_F_up hFτ eσ107 (show (10 = 10 ∧ (7 = 5 ∨ 7 = 6 ∨ 7 = 7 ∨ 7 = 8 ∨ 7 = 11 ∨ 7 = 12)) from ⟨rfl, (Or.inr (Or.inr (Or.inl rfl)))⟩)
        refine j_aload_n (pc := 54) dX9_advance_54 rfl rfl ?_
        refine j_aload_n (pc := 55) dX9_advance_55 rfl rfl ?_
        refine j_getI (pc := 56) fl_X9_69 dX9_advance_56 (a_10 hX) rfl ?_
        refine j_topV (show σ107 10 5 = τ 10 5 from (tw_ne1 eσ107 (by (first | decide | omega)))) ?_
        refine j_callV (pc := 59) (As := [vI (τ 10 5)]) (st := []) (c_X9_byteAt hX (τ 10 5) ⟨by omega, by omega⟩ σ107 hIσ107) mv_X9_72 rfl rfl rfl (a_10 hX) dX9_advance_59 ⟨Nat.le_of_ble_eq_true rfl, Nat.le_of_ble_eq_true rfl⟩ ⟨Nat.le_refl _, Nat.le_refl _⟩ rfl (Nat.le_of_ble_eq_true rfl) rfl (fun z108 σ109 hz108 => ?_)
        obtain ⟨r111, rfl, hr111, rfl, q110_0, q110_1⟩ := hz108
        replace q110_0 : (¬ (0 ≤ (τ 10 5) ∧ (τ 10 5) < σ107 10 10 ∧ (τ 10 5) < 400) ∧ r111 = -1) ∨ (0 ≤ (τ 10 5) ∧ (τ 10 5) < σ107 10 10 ∧ (τ 10 5) < 400 ∧ 0 ≤ r111 ∧ r111 = tw_and (σ107 11 (τ 10 5).toNat) 255) := q110_0
        have y112 : σ107 10 10 = τ 10 10 := (tw_ne1 eσ107 (by (first | decide | omega)))
        have f113 : (0 : Int) ≤ τ 10 10 ∧ τ 10 10 ≤ 400 := hIτ 10 10
        have y114 : σ107 11 ((τ 10 5).toNat) = τ 11 ((τ 10 5).toNat) := (tw_ne1 eσ107 (by (first | decide | omega)))
        replace q110_1 : r111 = fX σ107 (τ 10 5) := q110_1
        refine j_st (st' := [vI r111]) rfl ?_
        have fy : fX σ107 = fX σ := fX_F (hFσ107 10 10 (show ¬ ((10 = 10 ∧ (10 = 5 ∨ 10 = 6 ∨ 10 = 7 ∨ 10 = 8 ∨ 10 = 11 ∨ 10 = 12))) from by decide)) (fun j => hFσ107 11 j (show ¬ ((11 = 10 ∧ (j = 5 ∨ j = 6 ∨ j = 7 ∨ j = 8 ∨ j = 11 ∨ j = 12))) from fun h => absurd h.1 (by decide)))
        have b7 := q110_1; rw [fy] at b7
        have pa : σ107 10 5 = τ 10 5 := (tw_ne1 eσ107 (by (first | decide | omega)))
        have y115 : σ107 10 7 = τ 10 5 := (tw_eq1 eσ107)
        refine j_istore_n (pc := 62) (i := 1) (ls' := [(0, vR 10), (1, vI r111)]) [1, 0] dX9_advance_62 rfl (Nat.le_of_ble_eq_true rfl) rfl rfl ?_
        refine j_iload_n (pc := 63) dX9_advance_63 rfl rfl ?_
        refine j_ifR_ge (pc := 64) (tgt := 75) ⟨by omega, by omega⟩ dX9_advance_64 rfl (fun h116 => ?_) (fun h116 => ?_)
        · refine j_iload_n (pc := 75) dX9_advance_75 rfl rfl ?_
          refine j_callS (pc := 76) (As := [vI r111]) (st := []) (c_X9_isLetter r111 ⟨by omega, by omega⟩ σ107 hIσ107) ms_X9_79 rfl dX9_advance_76 ⟨Nat.le_of_ble_eq_true rfl, Nat.le_of_ble_eq_true rfl⟩ ⟨Nat.le_refl _, Nat.le_refl _⟩ rfl (Nat.le_of_ble_eq_true rfl) rfl (fun z117 σ118 hz117 => ?_)
          obtain ⟨r120, rfl, hr120, rfl, q119_0⟩ := hz117
          replace q119_0 : (r120 = 1 ∧ 97 ≤ r111 ∧ r111 ≤ 122) ∨ (r120 = 0 ∧ ¬ (97 ≤ r111 ∧ r111 ≤ 122)) := q119_0
          refine j_st (st' := [vI r120]) rfl ?_
          refine j_ifR_eq (pc := 79) (tgt := 89) ⟨by omega, by omega⟩ dX9_advance_79 rfl (fun h121 => ?_) (fun h121 => ?_)
          · refine j_iload_n (pc := 89) dX9_advance_89 rfl rfl ?_
            refine j_callS (pc := 90) (As := [vI r111]) (st := []) (c_X9_isFigure r111 ⟨by omega, by omega⟩ σ107 hIσ107) ms_X9_86 rfl dX9_advance_90 ⟨Nat.le_of_ble_eq_true rfl, Nat.le_of_ble_eq_true rfl⟩ ⟨Nat.le_refl _, Nat.le_refl _⟩ rfl (Nat.le_of_ble_eq_true rfl) rfl (fun z122 σ123 hz122 => ?_)
            obtain ⟨r125, rfl, hr125, rfl, q124_0⟩ := hz122
            replace q124_0 : (r125 = 1 ∧ 48 ≤ r111 ∧ r111 ≤ 57) ∨ (r125 = 0 ∧ ¬ (48 ≤ r111 ∧ r111 ≤ 57)) := q124_0
            refine j_st (st' := [vI r125]) rfl ?_
            refine j_ifR_eq (pc := 93) (tgt := 103) ⟨by omega, by omega⟩ dX9_advance_93 rfl (fun h126 => ?_) (fun h126 => ?_)
            · refine j_iload_n (pc := 103) dX9_advance_103 rfl rfl ?_
              refine j_bipush (pc := 104) dX9_advance_104 rfl ?_
              refine j_icmpR_ne (pc := 106) (tgt := 116) ⟨by omega, by omega⟩ ⟨by omega, by omega⟩ dX9_advance_106 rfl (fun h127 => ?_) (fun h127 => ?_)
              · refine j_aload_n (pc := 116) dX9_advance_116 rfl rfl ?_
                refine j_iconst (pc := 117) dX9_advance_117 ?_
                refine j_aload_n (pc := 118) dX9_advance_118 rfl rfl ?_
                refine j_getI (pc := 119) fl_X9_76 dX9_advance_119 (a_10 hX) rfl ?_
                refine j_topV (show σ107 10 7 = τ 10 5 from (tw_eq1 eσ107)) ?_
                refine j_callV (pc := 122) (As := [vI 1, vI (τ 10 5)]) (st := []) (c_X9_fail hX 1 (by (first | decide | exact ⟨by omega, by omega⟩)) (τ 10 5) ⟨by omega, by omega⟩ σ107 hIσ107) mv_X9_61 rfl rfl rfl (a_10 hX) dX9_advance_122 ⟨Nat.le_of_ble_eq_true rfl, Nat.le_of_ble_eq_true rfl⟩ ⟨Nat.le_refl _, Nat.le_refl _⟩ rfl (Nat.le_of_ble_eq_true rfl) rfl (fun z128 σ129 hz128 => ?_)
                obtain ⟨rfl, hIσ129, hGσ129, q130_0⟩ := hz128
                replace q130_0 : (σ107 10 11 = 0 ∧ σ129 10 11 = (1 : Int) ∧ σ129 10 12 = (τ 10 5)) ∨ (¬ σ107 10 11 = 0 ∧ σ129 10 11 = σ107 10 11 ∧ σ129 10 12 = σ107 10 12) := q130_0
                have y132 : σ107 10 11 = τ 10 11 := (tw_ne1 eσ107 (by (first | decide | omega)))
                have f133 : (0 : Int) ≤ τ 10 11 ∧ τ 10 11 ≤ 5 := hIτ 10 11
                have y134 : σ107 10 12 = τ 10 12 := (tw_ne1 eσ107 (by (first | decide | omega)))
                have f135 : (0 : Int) ≤ τ 10 12 ∧ τ 10 12 ≤ 400 := hIτ 10 12
                have hFσ129 : tw_F (fun c j => (c = 10 ∧ (j = 5 ∨ j = 6 ∨ j = 7 ∨ j = 8 ∨ j = 11 ∨ j = 12))) σ σ129 := tw_F_tr hFσ107 hGσ129 (fun c j q => (show (c = 10 ∧ (j = 5 ∨ j = 6 ∨ j = 7 ∨ j = 8 ∨ j = 11 ∨ j = 12)) from by replace q : (c = 10 ∧ (j = 11 ∨ j = 12)) := q; exact ⟨q.1, (q.2.elim (fun z => (Or.inr (Or.inr (Or.inr (Or.inr (Or.inl z)))))) (fun z => (Or.inr (Or.inr (Or.inr (Or.inr (Or.inr z)))))))⟩))
                refine j_st (st' := []) rfl ?_
                have y136 : σ129 10 5 = τ 10 5 := ((hGσ129 10 5 (show ¬ ((10 = 10 ∧ (5 = 11 ∨ 5 = 12))) from by decide))).trans (tw_ne1 eσ107 (by (first | decide | omega)))
                have y137 : σ129 10 6 = τ 10 6 := ((hGσ129 10 6 (show ¬ ((10 = 10 ∧ (6 = 11 ∨ 6 = 12))) from by decide))).trans (tw_ne1 eσ107 (by (first | decide | omega)))
                have y138 : σ129 10 7 = τ 10 5 := ((hGσ129 10 7 (show ¬ ((10 = 10 ∧ (7 = 11 ∨ 7 = 12))) from by decide))).trans (tw_eq1 eσ107)
                have y139 : σ129 10 8 = τ 10 8 := ((hGσ129 10 8 (show ¬ ((10 = 10 ∧ (8 = 11 ∨ 8 = 12))) from by decide))).trans (tw_ne1 eσ107 (by (first | decide | omega)))
                skip
                skip
                have ax : aX σ129 = tok (fX σ) (aX σ) := adv_bad (by omega) (by omega) (by omega) (by omega) (by rw [show σ129 10 7 = τ 10 5 from by omega]; omega)
                have am := adv_mon ax (hI 10 10)
                have y140 : σ129 10 5 = τ 10 5 := ((hGσ129 10 5 (show ¬ ((10 = 10 ∧ (5 = 11 ∨ 5 = 12))) from by decide))).trans (tw_ne1 eσ107 (by (first | decide | omega)))
                have y141 : σ129 10 6 = τ 10 6 := ((hGσ129 10 6 (show ¬ ((10 = 10 ∧ (6 = 11 ∨ 6 = 12))) from by decide))).trans (tw_ne1 eσ107 (by (first | decide | omega)))
                have f142 : (0 : Int) ≤ τ 10 6 ∧ τ 10 6 ≤ 3 := hIτ 10 6
                have y143 : σ129 10 7 = τ 10 5 := ((hGσ129 10 7 (show ¬ ((10 = 10 ∧ (7 = 11 ∨ 7 = 12))) from by decide))).trans (tw_eq1 eσ107)
                have y144 : σ129 10 5 = τ 10 5 := ((hGσ129 10 5 (show ¬ ((10 = 10 ∧ (5 = 11 ∨ 5 = 12))) from by decide))).trans (tw_ne1 eσ107 (by (first | decide | omega)))
                have y145 : σ129 10 6 = τ 10 6 := ((hGσ129 10 6 (show ¬ ((10 = 10 ∧ (6 = 11 ∨ 6 = 12))) from by decide))).trans (tw_ne1 eσ107 (by (first | decide | omega)))
                exact j_vret (pc := 125) ⟨rfl, rfl⟩ dX9_advance_125 rfl ⟨rfl, hIσ129, hFσ129, ax, by omega, by omega, am⟩
              · refine j_aload_n (pc := 109) dX9_advance_109 rfl rfl ?_
                have y146 : σ107 10 5 = τ 10 5 := (tw_ne1 eσ107 (by (first | decide | omega)))
                refine j_callV (pc := 110) (As := []) (st := []) (c_X9_readSign hX σ107 hIσ107 (by omega)) mv_X9_92 rfl rfl rfl (a_10 hX) dX9_advance_110 ⟨Nat.le_of_ble_eq_true rfl, Nat.le_of_ble_eq_true rfl⟩ ⟨Nat.le_refl _, Nat.le_refl _⟩ rfl (Nat.le_of_ble_eq_true rfl) rfl (fun z147 σ148 hz147 => ?_)
                obtain ⟨rfl, hIσ148, hGσ148, q149_0, q149_1⟩ := hz147
                replace q149_0 : σ148 10 6 = 3 := q149_0
                replace q149_1 : σ148 10 5 = σ107 10 5 + 1 := q149_1
                have y151 : σ107 10 5 = τ 10 5 := (tw_ne1 eσ107 (by (first | decide | omega)))
                have hFσ148 : tw_F (fun c j => (c = 10 ∧ (j = 5 ∨ j = 6 ∨ j = 7 ∨ j = 8 ∨ j = 11 ∨ j = 12))) σ σ148 := tw_F_tr hFσ107 hGσ148 (fun c j q => (show (c = 10 ∧ (j = 5 ∨ j = 6 ∨ j = 7 ∨ j = 8 ∨ j = 11 ∨ j = 12)) from by replace q : (c = 10 ∧ (j = 5 ∨ j = 6)) := q; exact ⟨q.1, (q.2.elim (fun z => (Or.inl z)) (fun z => (Or.inr (Or.inl z))))⟩))
                refine j_st (st' := []) rfl ?_
                skip
                skip
                have y152 : σ148 10 7 = τ 10 5 := ((hGσ148 10 7 (show ¬ ((10 = 10 ∧ (7 = 5 ∨ 7 = 6))) from by decide))).trans (tw_eq1 eσ107)
                have y153 : σ148 10 8 = τ 10 8 := ((hGσ148 10 8 (show ¬ ((10 = 10 ∧ (8 = 5 ∨ 8 = 6))) from by decide))).trans (tw_ne1 eσ107 (by (first | decide | omega)))
                have y154 : σ148 10 11 = τ 10 11 := ((hGσ148 10 11 (show ¬ ((10 = 10 ∧ (11 = 5 ∨ 11 = 6))) from by decide))).trans (tw_ne1 eσ107 (by (first | decide | omega)))
                have y155 : σ148 10 12 = τ 10 12 := ((hGσ148 10 12 (show ¬ ((10 = 10 ∧ (12 = 5 ∨ 12 = 6))) from by decide))).trans (tw_ne1 eσ107 (by (first | decide | omega)))
                have ax : aX σ148 = tok (fX σ) (aX σ) := adv_stop (by omega) (drX_F (hFσ148 10 3 (show ¬ ((10 = 10 ∧ (3 = 5 ∨ 3 = 6 ∨ 3 = 7 ∨ 3 = 8 ∨ 3 = 11 ∨ 3 = 12))) from by decide)) (hFσ148 10 4 (show ¬ ((10 = 10 ∧ (4 = 5 ∨ 4 = 6 ∨ 4 = 7 ∨ 4 = 8 ∨ 4 = 11 ∨ 4 = 12))) from by decide)) (fun c j h => hFσ148 c j (show ¬ ((c = 10 ∧ (j = 5 ∨ j = 6 ∨ j = 7 ∨ j = 8 ∨ j = 11 ∨ j = 12))) from by omega))) (by omega) (by omega) (by rw [show σ148 10 7 = τ 10 5 from by omega]; omega) (by omega) (by omega)
                refine j_goto (pc := 113) (tgt := 125) dX9_advance_113 rfl ?_
                have am := adv_mon ax (hI 10 10)
                have y156 : σ148 10 11 = τ 10 11 := ((hGσ148 10 11 (show ¬ ((10 = 10 ∧ (11 = 5 ∨ 11 = 6))) from by decide))).trans (tw_ne1 eσ107 (by (first | decide | omega)))
                have f157 : (0 : Int) ≤ τ 10 11 ∧ τ 10 11 ≤ 5 := hIτ 10 11
                have y158 : σ148 10 7 = τ 10 5 := ((hGσ148 10 7 (show ¬ ((10 = 10 ∧ (7 = 5 ∨ 7 = 6))) from by decide))).trans (tw_eq1 eσ107)
                have y159 : σ148 10 11 = τ 10 11 := ((hGσ148 10 11 (show ¬ ((10 = 10 ∧ (11 = 5 ∨ 11 = 6))) from by decide))).trans (tw_ne1 eσ107 (by (first | decide | omega)))
                exact j_vret (pc := 125) ⟨rfl, rfl⟩ dX9_advance_125 rfl ⟨rfl, hIσ148, hFσ148, ax, by omega, by omega, am⟩
            · refine j_aload_n (pc := 96) dX9_advance_96 rfl rfl ?_
              refine j_callV (pc := 97) (As := []) (st := []) (c_X9_readNumber hX σ107 hIσ107) mv_X9_89 rfl rfl rfl (a_10 hX) dX9_advance_97 ⟨Nat.le_of_ble_eq_true rfl, Nat.le_of_ble_eq_true rfl⟩ ⟨Nat.le_refl _, Nat.le_refl _⟩ rfl (Nat.le_of_ble_eq_true rfl) rfl (fun z160 σ161 hz160 => ?_)
              obtain ⟨rfl, hIσ161, hGσ161, q162_0, q162_1, q162_2, q162_3, q162_4⟩ := hz160
              replace q162_0 : σ161 10 6 = 2 := q162_0
              replace q162_1 : σ161 10 5 = run isG (fX σ107) (σ107 10 5) := q162_1
              have y164 : σ107 10 5 = τ 10 5 := (tw_ne1 eσ107 (by (first | decide | omega)))
              replace q162_2 : σ161 10 8 = nv (fX σ107) (σ107 10 5) (σ161 10 5 - σ107 10 5).toNat := q162_2
              have y165 : σ107 10 5 = τ 10 5 := (tw_ne1 eσ107 (by (first | decide | omega)))
              replace q162_3 : (σ161 10 5 - σ107 10 7 ≤ 3 ∧ σ161 10 11 = σ107 10 11 ∧ σ161 10 12 = σ107 10 12) ∨ (3 < σ161 10 5 - σ107 10 7 ∧ σ107 10 11 = 0 ∧ σ161 10 11 = 1 ∧ σ161 10 12 = σ107 10 7) ∨ (3 < σ161 10 5 - σ107 10 7 ∧ ¬ σ107 10 11 = 0 ∧ σ161 10 11 = σ107 10 11 ∧ σ161 10 12 = σ107 10 12) := q162_3
              have y166 : σ107 10 7 = τ 10 5 := (tw_eq1 eσ107)
              have y167 : σ107 10 11 = τ 10 11 := (tw_ne1 eσ107 (by (first | decide | omega)))
              have f168 : (0 : Int) ≤ τ 10 11 ∧ τ 10 11 ≤ 5 := hIτ 10 11
              have y169 : σ107 10 12 = τ 10 12 := (tw_ne1 eσ107 (by (first | decide | omega)))
              have f170 : (0 : Int) ≤ τ 10 12 ∧ τ 10 12 ≤ 400 := hIτ 10 12
              replace q162_4 : ¬ σ107 10 5 ≤ σ107 10 10 ∨ σ161 10 5 ≤ σ107 10 10 := q162_4
              have y171 : σ107 10 5 = τ 10 5 := (tw_ne1 eσ107 (by (first | decide | omega)))
              have y172 : σ107 10 10 = τ 10 10 := (tw_ne1 eσ107 (by (first | decide | omega)))
              have hFσ161 : tw_F (fun c j => (c = 10 ∧ (j = 5 ∨ j = 6 ∨ j = 7 ∨ j = 8 ∨ j = 11 ∨ j = 12))) σ σ161 := tw_F_tr hFσ107 hGσ161 (fun c j q => (show (c = 10 ∧ (j = 5 ∨ j = 6 ∨ j = 7 ∨ j = 8 ∨ j = 11 ∨ j = 12)) from by replace q : (c = 10 ∧ (j = 5 ∨ j = 6 ∨ j = 8 ∨ j = 11 ∨ j = 12)) := q; exact ⟨q.1, (q.2.elim (fun z => (Or.inl z)) (fun z => (z.elim (fun z => (Or.inr (Or.inl z))) (fun z => (z.elim (fun z => (Or.inr (Or.inr (Or.inr (Or.inl z))))) (fun z => (z.elim (fun z => (Or.inr (Or.inr (Or.inr (Or.inr (Or.inl z)))))) (fun z => (Or.inr (Or.inr (Or.inr (Or.inr (Or.inr z)))))))))))))⟩))
              refine j_st (st' := []) rfl ?_
              skip
              skip
              have y173 : σ161 10 7 = τ 10 5 := ((hGσ161 10 7 (show ¬ ((10 = 10 ∧ (7 = 5 ∨ 7 = 6 ∨ 7 = 8 ∨ 7 = 11 ∨ 7 = 12))) from by decide))).trans (tw_eq1 eσ107)
              skip
              skip
              skip
              have z1 := q162_1; rw [fy, pa] at z1
              have z2 := q162_2; rw [fy, pa] at z2
              have ax : aX σ161 = tok (fX σ) (aX σ) := by (rcases (show σ161 10 5 - τ 10 5 ≤ 3 ∨ 3 < σ161 10 5 - τ 10 5 from by omega) with u | u); (exact adv_num (by omega) (drX_F (hFσ161 10 3 (show ¬ ((10 = 10 ∧ (3 = 5 ∨ 3 = 6 ∨ 3 = 7 ∨ 3 = 8 ∨ 3 = 11 ∨ 3 = 12))) from by decide)) (hFσ161 10 4 (show ¬ ((10 = 10 ∧ (4 = 5 ∨ 4 = 6 ∨ 4 = 7 ∨ 4 = 8 ∨ 4 = 11 ∨ 4 = 12))) from by decide)) (fun c j h => hFσ161 c j (show ¬ ((c = 10 ∧ (j = 5 ∨ j = 6 ∨ j = 7 ∨ j = 8 ∨ j = 11 ∨ j = 12))) from by omega))) (by omega) (by omega) (by rw [show σ161 10 7 = τ 10 5 from by omega]; omega) (by omega) (by rw [show σ161 10 7 = τ 10 5 from by omega]; exact z1) (by rw [show σ161 10 7 = τ 10 5 from by omega]; exact z2) (by omega)); (exact adv_long (by omega) (by omega) (by omega) (by omega) (by rw [show σ161 10 7 = τ 10 5 from by omega]; omega) (by rw [show σ161 10 7 = τ 10 5 from by omega]; exact z1) (by omega))
              refine j_goto (pc := 100) (tgt := 125) dX9_advance_100 rfl ?_
              have am := adv_mon ax (hI 10 10)
              have y174 : σ161 10 7 = τ 10 5 := ((hGσ161 10 7 (show ¬ ((10 = 10 ∧ (7 = 5 ∨ 7 = 6 ∨ 7 = 8 ∨ 7 = 11 ∨ 7 = 12))) from by decide))).trans (tw_eq1 eσ107)
              exact j_vret (pc := 125) ⟨rfl, rfl⟩ dX9_advance_125 rfl ⟨rfl, hIσ161, hFσ161, ax, by omega, by omega, am⟩
          · refine j_aload_n (pc := 82) dX9_advance_82 rfl rfl ?_
            refine j_callV (pc := 83) (As := []) (st := []) (c_X9_readName hX σ107 hIσ107) mv_X9_83 rfl rfl rfl (a_10 hX) dX9_advance_83 ⟨Nat.le_of_ble_eq_true rfl, Nat.le_of_ble_eq_true rfl⟩ ⟨Nat.le_refl _, Nat.le_refl _⟩ rfl (Nat.le_of_ble_eq_true rfl) rfl (fun z175 σ176 hz175 => ?_)
            obtain ⟨rfl, hIσ176, hGσ176, q177_0, q177_1, q177_2⟩ := hz175
            replace q177_0 : σ176 10 6 = 1 := q177_0
            replace q177_1 : σ176 10 5 = run isL (fX σ107) (σ107 10 5) := q177_1
            have y179 : σ107 10 5 = τ 10 5 := (tw_ne1 eσ107 (by (first | decide | omega)))
            replace q177_2 : ¬ σ107 10 5 ≤ σ107 10 10 ∨ σ176 10 5 ≤ σ107 10 10 := q177_2
            have y180 : σ107 10 5 = τ 10 5 := (tw_ne1 eσ107 (by (first | decide | omega)))
            have y181 : σ107 10 10 = τ 10 10 := (tw_ne1 eσ107 (by (first | decide | omega)))
            have hFσ176 : tw_F (fun c j => (c = 10 ∧ (j = 5 ∨ j = 6 ∨ j = 7 ∨ j = 8 ∨ j = 11 ∨ j = 12))) σ σ176 := tw_F_tr hFσ107 hGσ176 (fun c j q => (show (c = 10 ∧ (j = 5 ∨ j = 6 ∨ j = 7 ∨ j = 8 ∨ j = 11 ∨ j = 12)) from by replace q : (c = 10 ∧ (j = 5 ∨ j = 6)) := q; exact ⟨q.1, (q.2.elim (fun z => (Or.inl z)) (fun z => (Or.inr (Or.inl z))))⟩))
            refine j_st (st' := []) rfl ?_
            skip
            skip
            have y182 : σ176 10 7 = τ 10 5 := ((hGσ176 10 7 (show ¬ ((10 = 10 ∧ (7 = 5 ∨ 7 = 6))) from by decide))).trans (tw_eq1 eσ107)
            have y183 : σ176 10 8 = τ 10 8 := ((hGσ176 10 8 (show ¬ ((10 = 10 ∧ (8 = 5 ∨ 8 = 6))) from by decide))).trans (tw_ne1 eσ107 (by (first | decide | omega)))
            have y184 : σ176 10 11 = τ 10 11 := ((hGσ176 10 11 (show ¬ ((10 = 10 ∧ (11 = 5 ∨ 11 = 6))) from by decide))).trans (tw_ne1 eσ107 (by (first | decide | omega)))
            have y185 : σ176 10 12 = τ 10 12 := ((hGσ176 10 12 (show ¬ ((10 = 10 ∧ (12 = 5 ∨ 12 = 6))) from by decide))).trans (tw_ne1 eσ107 (by (first | decide | omega)))
            have z1 := q177_1; rw [fy, pa] at z1
            have ax : aX σ176 = tok (fX σ) (aX σ) := adv_name (by omega) (drX_F (hFσ176 10 3 (show ¬ ((10 = 10 ∧ (3 = 5 ∨ 3 = 6 ∨ 3 = 7 ∨ 3 = 8 ∨ 3 = 11 ∨ 3 = 12))) from by decide)) (hFσ176 10 4 (show ¬ ((10 = 10 ∧ (4 = 5 ∨ 4 = 6 ∨ 4 = 7 ∨ 4 = 8 ∨ 4 = 11 ∨ 4 = 12))) from by decide)) (fun c j h => hFσ176 c j (show ¬ ((c = 10 ∧ (j = 5 ∨ j = 6 ∨ j = 7 ∨ j = 8 ∨ j = 11 ∨ j = 12))) from by omega))) (by omega) (by omega) (by rw [show σ176 10 7 = τ 10 5 from by omega]; omega) (by omega) (by rw [show σ176 10 7 = τ 10 5 from by omega]; exact z1)
            refine j_goto (pc := 86) (tgt := 125) dX9_advance_86 rfl ?_
            have am := adv_mon ax (hI 10 10)
            have y186 : σ176 10 11 = τ 10 11 := ((hGσ176 10 11 (show ¬ ((10 = 10 ∧ (11 = 5 ∨ 11 = 6))) from by decide))).trans (tw_ne1 eσ107 (by (first | decide | omega)))
            have f187 : (0 : Int) ≤ τ 10 11 ∧ τ 10 11 ≤ 5 := hIτ 10 11
            have y188 : σ176 10 7 = τ 10 5 := ((hGσ176 10 7 (show ¬ ((10 = 10 ∧ (7 = 5 ∨ 7 = 6))) from by decide))).trans (tw_eq1 eσ107)
            have y189 : σ176 10 11 = τ 10 11 := ((hGσ176 10 11 (show ¬ ((10 = 10 ∧ (11 = 5 ∨ 11 = 6))) from by decide))).trans (tw_ne1 eσ107 (by (first | decide | omega)))
            exact j_vret (pc := 125) ⟨rfl, rfl⟩ dX9_advance_125 rfl ⟨rfl, hIσ176, hFσ176, ax, by omega, by omega, am⟩
        · refine j_aload_n (pc := 67) dX9_advance_67 rfl rfl ?_
          refine j_iconst (pc := 68) dX9_advance_68 ?_
          refine j_putI (pc := 69) fl_X9_48 fp_X9_6 dX9_advance_69 (a_10 hX) rfl (j_nm (fun σ190 (eσ190 : σ190 = tw_up σ107 10 6 0) => ?_))
          have hIσ190 : tw_I σ190 := tw_I_up hIσ107 eσ190 (show (0 : Int) ≤ 0 ∧ 0 ≤ 3 from by decide)
          have hFσ190 : tw_F (fun c j => (c = 10 ∧ (j = 5 ∨ j = 6 ∨ j = 7 ∨ j = 8 ∨ j = 11 ∨ j = 12))) σ σ190 := tw_F_up hFσ107 eσ190 (show (10 = 10 ∧ (6 = 5 ∨ 6 = 6 ∨ 6 = 7 ∨ 6 = 8 ∨ 6 = 11 ∨ 6 = 12)) from ⟨rfl, (Or.inr (Or.inl rfl))⟩)
          have y191 : σ190 10 5 = τ 10 5 := ((tw_ne1 eσ190 (by (first | decide | omega)))).trans (tw_ne1 eσ107 (by (first | decide | omega)))
          have y192 : σ190 10 6 = 0 := (tw_eq1 eσ190)
          have y193 : σ190 10 7 = τ 10 5 := ((tw_ne1 eσ190 (by (first | decide | omega)))).trans (tw_eq1 eσ107)
          have y194 : σ190 10 8 = τ 10 8 := ((tw_ne1 eσ190 (by (first | decide | omega)))).trans (tw_ne1 eσ107 (by (first | decide | omega)))
          have y195 : σ190 10 11 = τ 10 11 := ((tw_ne1 eσ190 (by (first | decide | omega)))).trans (tw_ne1 eσ107 (by (first | decide | omega)))
          have y196 : σ190 10 12 = τ 10 12 := ((tw_ne1 eσ190 (by (first | decide | omega)))).trans (tw_ne1 eσ107 (by (first | decide | omega)))
          have ax : aX σ190 = tok (fX σ) (aX σ) := adv_end (by omega) (drX_F (hFσ190 10 3 (show ¬ ((10 = 10 ∧ (3 = 5 ∨ 3 = 6 ∨ 3 = 7 ∨ 3 = 8 ∨ 3 = 11 ∨ 3 = 12))) from by decide)) (hFσ190 10 4 (show ¬ ((10 = 10 ∧ (4 = 5 ∨ 4 = 6 ∨ 4 = 7 ∨ 4 = 8 ∨ 4 = 11 ∨ 4 = 12))) from by decide)) (fun c j h => hFσ190 c j (show ¬ ((c = 10 ∧ (j = 5 ∨ j = 6 ∨ j = 7 ∨ j = 8 ∨ j = 11 ∨ j = 12))) from by omega))) (by omega) (by omega) (by rw [show σ190 10 7 = τ 10 5 from by omega]; omega) (by omega) (by omega)
          refine j_goto (pc := 72) (tgt := 125) dX9_advance_72 rfl ?_
          have am := adv_mon ax (hI 10 10)
          have y197 : σ190 10 5 = τ 10 5 := ((tw_ne1 eσ190 (by (first | decide | omega)))).trans (tw_ne1 eσ107 (by (first | decide | omega)))
          have y198 : σ190 10 11 = τ 10 11 := ((tw_ne1 eσ190 (by (first | decide | omega)))).trans (tw_ne1 eσ107 (by (first | decide | omega)))
          have f199 : (0 : Int) ≤ τ 10 11 ∧ τ 10 11 ≤ 5 := hIτ 10 11
          have y200 : σ190 10 6 = 0 := (tw_eq1 eσ190)
          have y201 : σ190 10 7 = τ 10 5 := ((tw_ne1 eσ190 (by (first | decide | omega)))).trans (tw_eq1 eσ107)
          have y202 : σ190 10 11 = τ 10 11 := ((tw_ne1 eσ190 (by (first | decide | omega)))).trans (tw_ne1 eσ107 (by (first | decide | omega)))
          have y203 : σ190 10 5 = τ 10 5 := ((tw_ne1 eσ190 (by (first | decide | omega)))).trans (tw_ne1 eσ107 (by (first | decide | omega)))
          have y204 : σ190 10 6 = 0 := (tw_eq1 eσ190)
          exact j_vret (pc := 125) ⟨rfl, rfl⟩ dX9_advance_125 rfl ⟨rfl, hIσ190, hFσ190, ax, by omega, by omega, am⟩
      · refine j_aload_n (pc := 30) dX9_advance_30 rfl rfl ?_
        refine j_dup (pc := 31) dX9_advance_31 rfl ?_
        refine j_getI (pc := 32) fl_X9_69 dX9_advance_32 (a_10 hX) rfl ?_
        refine j_iconst (pc := 35) dX9_advance_35 ?_
        refine j_iadd (pc := 36) dX9_advance_36 ?_
        refine j_putI (pc := 37) fl_X9_69 fp_X9_5 dX9_advance_37 (a_10 hX) rfl (j_nm (fun σ205 (eσ205 : σ205 = tw_up τ 10 5 ((τ 10 5) + 1)) => ?_))
        have hIσ205 : tw_I σ205 := tw_I_up hIτ eσ205 (show (0 : Int) ≤ (τ 10 5) + 1 ∧ (τ 10 5) + 1 ≤ 400 from ⟨by omega, by omega⟩)
        have hFσ205 : tw_F (fun c j => (c = 10 ∧ (j = 5 ∨ j = 6 ∨ j = 7 ∨ j = 8 ∨ j = 11 ∨ j = 12))) σ σ205 := tw_F_up hFτ eσ205 (show (10 = 10 ∧ (5 = 5 ∨ 5 = 6 ∨ 5 = 7 ∨ 5 = 8 ∨ 5 = 11 ∨ 5 = 12)) from ⟨rfl, (Or.inl rfl)⟩)
        refine j_iinc (pc := 40) (i := 1) (n := 1) (ls' := [(0, vR 10), (1, vI (i + 1))]) [1, 0] dX9_advance_40 rfl (Nat.le_of_ble_eq_true rfl) rfl rfl ?_
        refine j_goto (pc := 43) (tgt := 10) dX9_advance_43 rfl ?_
        refine j_ls (ls' := [(0, vR 10), (1, vI (i + 1))]) [0, 1] rfl ?_
        have y206 : σ205 10 11 = τ 10 11 := (tw_ne1 eσ205 (by (first | decide | omega)))
        have f207 : (0 : Int) ≤ τ 10 11 ∧ τ 10 11 ≤ 5 := hIτ 10 11
        have y208 : σ205 10 12 = τ 10 12 := (tw_ne1 eσ205 (by (first | decide | omega)))
        have f209 : (0 : Int) ≤ τ 10 12 ∧ τ 10 12 ≤ 400 := hIτ 10 12
        have y210 : σ205 10 5 = (τ 10 5) + 1 := (tw_eq1 eσ205)
        have y211 : σ205 10 5 = (τ 10 5) + 1 := (tw_eq1 eσ205)
        have y212 : σ205 10 5 = (τ 10 5) + 1 := (tw_eq1 eσ205)
        exact ih (i + 1) ⟨by omega, by omega⟩ σ205 hIσ205 hFσ205 (show σ 10 11 = 0 from by omega) (show σ205 10 11 = 0 from by omega) (show σ205 10 12 = σ 10 12 from by omega) (show σ205 10 5 = σ 10 5 + (i + 1) from by omega) (show run isS (fX σ) (σ205 10 5) = run isS (fX σ) (σ 10 5) from (by first | (rw [(tw_eq1 eσ205)]; exact (run_s (show isS (fX σ (τ 10 5)) = true from decide_eq_true (by omega)) (by omega)).symm.trans i4) | rw [(tw_eq1 eσ205)] | rfl)) (show ¬ σ 10 5 ≤ σ 10 10 ∨ σ205 10 5 ≤ σ 10 10 from by omega) (show (400 - (i + 1)).toNat < N_ from by omega)
set_option maxHeartbeats 4000000 in
set_option maxRecDepth 100000 in
theorem c_X9_advance {G : tw_G} (hX : tw_isX G) (σ : tw_M) (hI : tw_I σ) : tw_C G yX9_advance cX9_advance 2 none 2 [vR 10] σ (q_X9_advance σ) := by
  refine tw_met [(0, vR 10)] (by decide +kernel) rfl (Nat.le_of_ble_eq_true rfl) ?_
  refine j_aload_n (pc := 0) dX9_advance_0 rfl rfl ?_
  refine j_getI (pc := 1) fl_X9_33 dX9_advance_1 (a_10 hX) rfl ?_
  have f213 : (0 : Int) ≤ σ 10 11 ∧ σ 10 11 ≤ 5 := hI 10 11
  refine j_ifR_eq (pc := 4) (tgt := 8) ⟨by omega, by omega⟩ dX9_advance_4 rfl (fun h214 => ?_) (fun h214 => ?_)
  · refine j_iconst (pc := 8) dX9_advance_8 ?_
    refine j_istore_n (pc := 9) (i := 1) (ls' := [(0, vR 10), (1, vI 0)]) [1, 0] dX9_advance_9 rfl (Nat.le_of_ble_eq_true rfl) rfl rfl ?_
    refine j_ls (ls' := [(0, vR 10), (1, vI 0)]) [0, 1] rfl ?_
    exact (l_X9_advance hX σ hI (((400 - (0 : Int)).toNat) + 1)) 0 (by (first | decide | exact ⟨by omega, by omega⟩)) σ hI (tw_F_rf) (show σ 10 11 = 0 from by omega) (show σ 10 11 = 0 from by omega) (show σ 10 12 = σ 10 12 from by omega) (show σ 10 5 = σ 10 5 + (0 : Int) from by omega) (show run isS (fX σ) (σ 10 5) = run isS (fX σ) (σ 10 5) from (by first | (rw [rfl]; exact (run_s (show isS (fX σ (τ 10 5)) = true from decide_eq_true (by omega)) (by omega)).symm.trans i4) | rw [rfl] | rfl)) (show ¬ σ 10 5 ≤ σ 10 10 ∨ σ 10 5 ≤ σ 10 10 from by omega) (Nat.lt_succ_self _)
  · have ax : aX σ = tok (fX σ) (aX σ) := adv_no (by omega)
    have am := adv_mon ax (hI 10 10)
    exact j_vret (pc := 7) ⟨rfl, rfl⟩ dX9_advance_7 rfl ⟨rfl, hI, (tw_F_rf), ax, by omega, by omega, am⟩
