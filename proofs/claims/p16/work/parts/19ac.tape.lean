/-! 19ac.tape -/
theorem dX9_begin_0 : decode cX9_begin 0 = .ok (.aload_n 0, 1) := by decide +kernel
theorem dX9_begin_1 : decode cX9_begin 1 = .ok (.getfield 25, 3) := by decide +kernel
theorem dX9_begin_4 : decode cX9_begin 4 = .ok (.invokevirtual 65, 3) := by decide +kernel
theorem dX9_begin_7 : decode cX9_begin 7 = .ok (.iconst 0, 1) := by decide +kernel
theorem dX9_begin_8 : decode cX9_begin 8 = .ok (.istore_n 1, 1) := by decide +kernel
theorem dX9_begin_9 : decode cX9_begin 9 = .ok (.iload_n 1, 1) := by decide +kernel
theorem dX9_begin_10 : decode cX9_begin 10 = .ok (.bipush 40, 2) := by decide +kernel
theorem dX9_begin_12 : decode cX9_begin 12 = .ok (.if_icmp .gt 16, 3) := by decide +kernel
theorem dX9_begin_15 : decode cX9_begin 15 = .ok (.aload_n 0, 1) := by decide +kernel
theorem dX9_begin_16 : decode cX9_begin 16 = .ok (.getfield 15, 3) := by decide +kernel
theorem dX9_begin_19 : decode cX9_begin 19 = .ok (.iload_n 1, 1) := by decide +kernel
theorem dX9_begin_20 : decode cX9_begin 20 = .ok (.iconst 0, 1) := by decide +kernel
theorem dX9_begin_21 : decode cX9_begin 21 = .ok (.bastore, 1) := by decide +kernel
theorem dX9_begin_22 : decode cX9_begin 22 = .ok (.iinc 1 1, 3) := by decide +kernel
theorem dX9_begin_25 : decode cX9_begin 25 = .ok (.goto (-16), 3) := by decide +kernel
theorem dX9_begin_28 : decode cX9_begin 28 = .ok (.iconst 0, 1) := by decide +kernel
theorem dX9_begin_29 : decode cX9_begin 29 = .ok (.istore_n 1, 1) := by decide +kernel
theorem dX9_begin_30 : decode cX9_begin 30 = .ok (.iload_n 1, 1) := by decide +kernel
theorem dX9_begin_31 : decode cX9_begin 31 = .ok (.bipush 10, 2) := by decide +kernel
theorem dX9_begin_33 : decode cX9_begin 33 = .ok (.if_icmp .gt 16, 3) := by decide +kernel
theorem dX9_begin_36 : decode cX9_begin 36 = .ok (.aload_n 0, 1) := by decide +kernel
theorem dX9_begin_37 : decode cX9_begin 37 = .ok (.getfield 19, 3) := by decide +kernel
theorem dX9_begin_40 : decode cX9_begin 40 = .ok (.iload_n 1, 1) := by decide +kernel
theorem dX9_begin_41 : decode cX9_begin 41 = .ok (.iconst 0, 1) := by decide +kernel
theorem dX9_begin_42 : decode cX9_begin 42 = .ok (.bastore, 1) := by decide +kernel
theorem dX9_begin_43 : decode cX9_begin 43 = .ok (.iinc 1 1, 3) := by decide +kernel
theorem dX9_begin_46 : decode cX9_begin 46 = .ok (.goto (-16), 3) := by decide +kernel
theorem dX9_begin_49 : decode cX9_begin 49 = .ok (.aload_n 0, 1) := by decide +kernel
theorem dX9_begin_50 : decode cX9_begin 50 = .ok (.iconst 0, 1) := by decide +kernel
theorem dX9_begin_51 : decode cX9_begin 51 = .ok (.putfield 66, 3) := by decide +kernel
theorem dX9_begin_54 : decode cX9_begin 54 = .ok (.aload_n 0, 1) := by decide +kernel
theorem dX9_begin_55 : decode cX9_begin 55 = .ok (.iconst 0, 1) := by decide +kernel
theorem dX9_begin_56 : decode cX9_begin 56 = .ok (.putfield 54, 3) := by decide +kernel
theorem dX9_begin_59 : decode cX9_begin 59 = .ok (.aload_n 0, 1) := by decide +kernel
theorem dX9_begin_60 : decode cX9_begin 60 = .ok (.iconst 0, 1) := by decide +kernel
theorem dX9_begin_61 : decode cX9_begin 61 = .ok (.putfield 69, 3) := by decide +kernel
theorem dX9_begin_64 : decode cX9_begin 64 = .ok (.aload_n 0, 1) := by decide +kernel
theorem dX9_begin_65 : decode cX9_begin 65 = .ok (.iconst 0, 1) := by decide +kernel
theorem dX9_begin_66 : decode cX9_begin 66 = .ok (.putfield 33, 3) := by decide +kernel
theorem dX9_begin_69 : decode cX9_begin 69 = .ok (.aload_n 0, 1) := by decide +kernel
theorem dX9_begin_70 : decode cX9_begin 70 = .ok (.iconst 0, 1) := by decide +kernel
theorem dX9_begin_71 : decode cX9_begin 71 = .ok (.putfield 36, 3) := by decide +kernel
theorem dX9_begin_74 : decode cX9_begin 74 = .ok (.aload_n 0, 1) := by decide +kernel
theorem dX9_begin_75 : decode cX9_begin 75 = .ok (.iconst 0, 1) := by decide +kernel
theorem dX9_begin_76 : decode cX9_begin 76 = .ok (.putfield 39, 3) := by decide +kernel
theorem dX9_begin_79 : decode cX9_begin 79 = .ok (.return_, 1) := by decide +kernel
abbrev q_X9_begin  (σ : tw_M) : Option tw_V → tw_M → Prop := fun z τ => z = none ∧ tw_I τ ∧ tw_F (fun c j => (c = 10 ∧ (j = 3 ∨ j = 4 ∨ j = 5 ∨ j = 11 ∨ j = 12 ∨ j = 13)) ∨ (12 ≤ c ∧ c < 14) ∨ (14 ≤ c ∧ c < 23)) σ τ ∧ (τ 10 3 = 0) ∧ (τ 10 4 = 0) ∧ (τ 10 5 = 0) ∧ (τ 10 11 = 0) ∧ (τ 10 12 = 0) ∧ (τ 10 13 = 0) ∧ (drX τ = D0)
set_option maxHeartbeats 4000000 in
set_option maxRecDepth 100000 in
theorem l_X9_begin {G : tw_G} (hX : tw_isX G) (σ : tw_M) (hI : tw_I σ) : ∀ N_ : Nat, (∀ (i : Int) (hi : 0 ≤ i ∧ i ≤ 41) (τ : tw_M) (hIτ : tw_I τ) (hFτ : tw_F (fun c j => (c = 10 ∧ (j = 3 ∨ j = 4 ∨ j = 5 ∨ j = 11 ∨ j = 12 ∨ j = 13)) ∨ (12 ≤ c ∧ c < 14) ∨ (14 ≤ c ∧ c < 23)) σ τ) (i0 : Cn 15 (fun j => (tw_first.getD j 0).toInt) τ 9) (i1 : Cn 16 (fun _ => 0) τ 11) (i2 : Cn 17 (fun _ => 1) τ 41) (i3 : Cn 18 (fun _ => 0) τ 41) (i4 : Cn 19 (fun _ => 0) τ 41) (i5 : Cn 20 (fun _ => 0) τ 41) (i6 : Cn 21 (fun _ => 5) τ 41) (i7 : Cn 12 (fun _ => 0) τ i) (hm : (500 - i).toNat < N_), tw_J G (tw_mt RX9 cX9_begin 2 none 1) (tw_E G (q_X9_begin σ)) 9 [(0, vR 10), (1, vI i)] [] τ) ∧ (∀ (i : Int) (hi : 0 ≤ i ∧ i ≤ 11) (τ : tw_M) (hIτ : tw_I τ) (hFτ : tw_F (fun c j => (c = 10 ∧ (j = 3 ∨ j = 4 ∨ j = 5 ∨ j = 11 ∨ j = 12 ∨ j = 13)) ∨ (12 ≤ c ∧ c < 14) ∨ (14 ≤ c ∧ c < 23)) σ τ) (i0 : Cn 15 (fun j => (tw_first.getD j 0).toInt) τ 9) (i1 : Cn 16 (fun _ => 0) τ 11) (i2 : Cn 17 (fun _ => 1) τ 41) (i3 : Cn 18 (fun _ => 0) τ 41) (i4 : Cn 19 (fun _ => 0) τ 41) (i5 : Cn 20 (fun _ => 0) τ 41) (i6 : Cn 21 (fun _ => 5) τ 41) (i7 : Cn 12 (fun _ => 0) τ 41) (i8 : Cn 13 (fun _ => 0) τ i) (hm : (100 - i).toNat < N_), tw_J G (tw_mt RX9 cX9_begin 2 none 1) (tw_E G (q_X9_begin σ)) 30 [(0, vR 10), (1, vI i)] [] τ) := by
  intro N_
  induction N_ with
  | zero => exact ⟨fun i hi τ hIτ hFτ i0 i1 i2 i3 i4 i5 i6 i7 hm => absurd hm (Nat.not_lt_zero _), fun i hi τ hIτ hFτ i0 i1 i2 i3 i4 i5 i6 i7 i8 hm => absurd hm (Nat.not_lt_zero _)⟩
  | succ N_ ih =>
    refine ⟨?_, ?_⟩
    · intro i hi τ hIτ hFτ i0 i1 i2 i3 i4 i5 i6 i7 hm
      refine j_iload_n (pc := 9) dX9_begin_9 rfl rfl ?_
      refine j_bipush (pc := 10) dX9_begin_10 rfl ?_
      refine j_icmpR_gt (pc := 12) (tgt := 28) ⟨by omega, by omega⟩ ⟨by omega, by omega⟩ dX9_begin_12 rfl (fun h1 => ?_) (fun h1 => ?_)
      · refine j_iconst (pc := 28) dX9_begin_28 ?_
        refine j_istore_n (pc := 29) (i := 1) (ls' := [(0, vR 10), (1, vI 0)]) [1, 0] dX9_begin_29 rfl (Nat.le_of_ble_eq_true rfl) rfl rfl ?_
        refine j_ls (ls' := [(0, vR 10), (1, vI 0)]) [0, 1] rfl ?_
        exact ih.2 0 (by (first | decide | exact ⟨by omega, by omega⟩)) τ hIτ hFτ (show Cn 15 (fun j => (tw_first.getD j 0).toInt) τ 9 from (by first | exact Cn_F (fun j => rfl) i0 | exact __0)) (show Cn 16 (fun _ => 0) τ 11 from (by first | exact Cn_F (fun j => rfl) i1 | exact __1)) (show Cn 17 (fun _ => 1) τ 41 from (by first | exact Cn_F (fun j => rfl) i2 | exact __2)) (show Cn 18 (fun _ => 0) τ 41 from (by first | exact Cn_F (fun j => rfl) i3 | exact __3)) (show Cn 19 (fun _ => 0) τ 41 from (by first | exact Cn_F (fun j => rfl) i4 | exact __4)) (show Cn 20 (fun _ => 0) τ 41 from (by first | exact Cn_F (fun j => rfl) i5 | exact __5)) (show Cn 21 (fun _ => 5) τ 41 from (by first | exact Cn_F (fun j => rfl) i6 | exact __6)) (show Cn 12 (fun _ => 0) τ 41 from (by first | exact Cn_F (fun j => rfl) i7 | (rw [show (41 : Int) = i from by omega]; exact i7))) (show Cn 13 (fun _ => 0) τ (0 : Int) from (by first | exact Cn_up _ (by omega) i8 rfl (by omega) | exact Cn_0)) (show (100 - (0 : Int)).toNat < N_ from by omega)
      · refine j_aload_n (pc := 15) dX9_begin_15 rfl rfl ?_
        refine j_getR (pc := 16) (r := 12) fl_X9_15 dX9_begin_16 (a_10 hX) rfl ?_
        refine j_iload_n (pc := 19) dX9_begin_19 rfl rfl ?_
        refine j_iconst (pc := 20) dX9_begin_20 ?_
        refine j_zast (pc := 21) (by omega) dX9_begin_21 (a_12 hX) (by omega) (by omega) (by decide) (j_nm (fun σ2 (eσ2 : σ2 = tw_up τ 12 (i.toNat) 0) => ?_))
        have hIσ2 : tw_I σ2 := tw_I_up hIτ eσ2 (show (0 : Int) ≤ 0 ∧ 0 ≤ 1 from by decide)
        have hFσ2 : tw_F (fun c j => (c = 10 ∧ (j = 3 ∨ j = 4 ∨ j = 5 ∨ j = 11 ∨ j = 12 ∨ j = 13)) ∨ (12 ≤ c ∧ c < 14) ∨ (14 ≤ c ∧ c < 23)) σ σ2 := tw_F_up hFτ eσ2 (show (12 = 10 ∧ (i.toNat = 3 ∨ i.toNat = 4 ∨ i.toNat = 5 ∨ i.toNat = 11 ∨ i.toNat = 12 ∨ i.toNat = 13)) ∨ (12 ≤ 12 ∧ 12 < 14) ∨ (14 ≤ 12 ∧ 12 < 23) from (Or.inr (Or.inl (by decide))))
        refine j_iinc (pc := 22) (i := 1) (n := 1) (ls' := [(0, vR 10), (1, vI (i + 1))]) [1, 0] dX9_begin_22 rfl (Nat.le_of_ble_eq_true rfl) rfl rfl ?_
        refine j_goto (pc := 25) (tgt := 9) dX9_begin_25 rfl ?_
        refine j_ls (ls' := [(0, vR 10), (1, vI (i + 1))]) [0, 1] rfl ?_
        exact ih.1 (i + 1) ⟨by omega, by omega⟩ σ2 hIσ2 hFσ2 (show Cn 15 (fun j => (tw_first.getD j 0).toInt) σ2 9 from (by first | exact Cn_F (fun j => (tw_ne1 eσ2 (by (first | decide | omega)))) i0 | exact __0)) (show Cn 16 (fun _ => 0) σ2 11 from (by first | exact Cn_F (fun j => (tw_ne1 eσ2 (by (first | decide | omega)))) i1 | exact __1)) (show Cn 17 (fun _ => 1) σ2 41 from (by first | exact Cn_F (fun j => (tw_ne1 eσ2 (by (first | decide | omega)))) i2 | exact __2)) (show Cn 18 (fun _ => 0) σ2 41 from (by first | exact Cn_F (fun j => (tw_ne1 eσ2 (by (first | decide | omega)))) i3 | exact __3)) (show Cn 19 (fun _ => 0) σ2 41 from (by first | exact Cn_F (fun j => (tw_ne1 eσ2 (by (first | decide | omega)))) i4 | exact __4)) (show Cn 20 (fun _ => 0) σ2 41 from (by first | exact Cn_F (fun j => (tw_ne1 eσ2 (by (first | decide | omega)))) i5 | exact __5)) (show Cn 21 (fun _ => 5) σ2 41 from (by first | exact Cn_F (fun j => (tw_ne1 eσ2 (by (first | decide | omega)))) i6 | exact __6)) (show Cn 12 (fun _ => 0) σ2 (i + 1) from (by first | exact Cn_up eσ2 (by omega) i7 rfl (by omega) | exact Cn_0)) (show (500 - (i + 1)).toNat < N_ from by omega)
    · intro i hi τ hIτ hFτ i0 i1 i2 i3 i4 i5 i6 i7 i8 hm
      refine j_iload_n (pc := 30) dX9_begin_30 rfl rfl ?_
      refine j_bipush (pc := 31) dX9_begin_31 rfl ?_
      refine j_icmpR_gt (pc := 33) (tgt := 49) ⟨by omega, by omega⟩ ⟨by omega, by omega⟩ dX9_begin_33 rfl (fun h3 => ?_) (fun h3 => ?_)
      · refine j_aload_n (pc := 49) dX9_begin_49 rfl rfl ?_
        refine j_iconst (pc := 50) dX9_begin_50 ?_
        refine j_putI (pc := 51) fl_X9_66 fp_X9_3 dX9_begin_51 (a_10 hX) rfl (j_nm (fun σ4 (eσ4 : σ4 = tw_up τ 10 3 0) => ?_))
        have hIσ4 : tw_I σ4 := tw_I_up hIτ eσ4 (show (-2147483648 : Int) ≤ 0 ∧ 0 ≤ 2147483647 from by decide)
        have hFσ4 : tw_F (fun c j => (c = 10 ∧ (j = 3 ∨ j = 4 ∨ j = 5 ∨ j = 11 ∨ j = 12 ∨ j = 13)) ∨ (12 ≤ c ∧ c < 14) ∨ (14 ≤ c ∧ c < 23)) σ σ4 := tw_F_up hFτ eσ4 (show (10 = 10 ∧ (3 = 3 ∨ 3 = 4 ∨ 3 = 5 ∨ 3 = 11 ∨ 3 = 12 ∨ 3 = 13)) ∨ (12 ≤ 10 ∧ 10 < 14) ∨ (14 ≤ 10 ∧ 10 < 23) from (Or.inl ⟨rfl, (Or.inl rfl)⟩))
        refine j_aload_n (pc := 54) dX9_begin_54 rfl rfl ?_
        refine j_iconst (pc := 55) dX9_begin_55 ?_
        refine j_putI (pc := 56) fl_X9_54 fp_X9_4 dX9_begin_56 (a_10 hX) rfl (j_nm (fun σ5 (eσ5 : σ5 = tw_up σ4 10 4 0) => ?_))
        have hIσ5 : tw_I σ5 := tw_I_up hIσ4 eσ5 (show (0 : Int) ≤ 0 ∧ 0 ≤ 40 from by decide)
        have hFσ5 : tw_F (fun c j => (c = 10 ∧ (j = 3 ∨ j = 4 ∨ j = 5 ∨ j = 11 ∨ j = 12 ∨ j = 13)) ∨ (12 ≤ c ∧ c < 14) ∨ (14 ≤ c ∧ c < 23)) σ σ5 := tw_F_up hFσ4 eσ5 (show (10 = 10 ∧ (4 = 3 ∨ 4 = 4 ∨ 4 = 5 ∨ 4 = 11 ∨ 4 = 12 ∨ 4 = 13)) ∨ (12 ≤ 10 ∧ 10 < 14) ∨ (14 ≤ 10 ∧ 10 < 23) from (Or.inl ⟨rfl, (Or.inr (Or.inl rfl))⟩))
        refine j_aload_n (pc := 59) dX9_begin_59 rfl rfl ?_
        refine j_iconst (pc := 60) dX9_begin_60 ?_
        refine j_putI (pc := 61) fl_X9_69 fp_X9_5 dX9_begin_61 (a_10 hX) rfl (j_nm (fun σ6 (eσ6 : σ6 = tw_up σ5 10 5 0) => ?_))
        have hIσ6 : tw_I σ6 := tw_I_up hIσ5 eσ6 (show (0 : Int) ≤ 0 ∧ 0 ≤ 400 from by decide)
        have hFσ6 : tw_F (fun c j => (c = 10 ∧ (j = 3 ∨ j = 4 ∨ j = 5 ∨ j = 11 ∨ j = 12 ∨ j = 13)) ∨ (12 ≤ c ∧ c < 14) ∨ (14 ≤ c ∧ c < 23)) σ σ6 := tw_F_up hFσ5 eσ6 (show (10 = 10 ∧ (5 = 3 ∨ 5 = 4 ∨ 5 = 5 ∨ 5 = 11 ∨ 5 = 12 ∨ 5 = 13)) ∨ (12 ≤ 10 ∧ 10 < 14) ∨ (14 ≤ 10 ∧ 10 < 23) from (Or.inl ⟨rfl, (Or.inr (Or.inr (Or.inl rfl)))⟩))
        refine j_aload_n (pc := 64) dX9_begin_64 rfl rfl ?_
        refine j_iconst (pc := 65) dX9_begin_65 ?_
        refine j_putI (pc := 66) fl_X9_33 fp_X9_11 dX9_begin_66 (a_10 hX) rfl (j_nm (fun σ7 (eσ7 : σ7 = tw_up σ6 10 11 0) => ?_))
        have hIσ7 : tw_I σ7 := tw_I_up hIσ6 eσ7 (show (0 : Int) ≤ 0 ∧ 0 ≤ 5 from by decide)
        have hFσ7 : tw_F (fun c j => (c = 10 ∧ (j = 3 ∨ j = 4 ∨ j = 5 ∨ j = 11 ∨ j = 12 ∨ j = 13)) ∨ (12 ≤ c ∧ c < 14) ∨ (14 ≤ c ∧ c < 23)) σ σ7 := tw_F_up hFσ6 eσ7 (show (10 = 10 ∧ (11 = 3 ∨ 11 = 4 ∨ 11 = 5 ∨ 11 = 11 ∨ 11 = 12 ∨ 11 = 13)) ∨ (12 ≤ 10 ∧ 10 < 14) ∨ (14 ≤ 10 ∧ 10 < 23) from (Or.inl ⟨rfl, (Or.inr (Or.inr (Or.inr (Or.inl rfl))))⟩))
        refine j_aload_n (pc := 69) dX9_begin_69 rfl rfl ?_
        refine j_iconst (pc := 70) dX9_begin_70 ?_
        refine j_putI (pc := 71) fl_X9_36 fp_X9_12 dX9_begin_71 (a_10 hX) rfl (j_nm (fun σ8 (eσ8 : σ8 = tw_up σ7 10 12 0) => ?_))
        have hIσ8 : tw_I σ8 := tw_I_up hIσ7 eσ8 (show (0 : Int) ≤ 0 ∧ 0 ≤ 400 from by decide)
        have hFσ8 : tw_F (fun c j => (c = 10 ∧ (j = 3 ∨ j = 4 ∨ j = 5 ∨ j = 11 ∨ j = 12 ∨ j = 13)) ∨ (12 ≤ c ∧ c < 14) ∨ (14 ≤ c ∧ c < 23)) σ σ8 := tw_F_up hFσ7 eσ8 (show (10 = 10 ∧ (12 = 3 ∨ 12 = 4 ∨ 12 = 5 ∨ 12 = 11 ∨ 12 = 12 ∨ 12 = 13)) ∨ (12 ≤ 10 ∧ 10 < 14) ∨ (14 ≤ 10 ∧ 10 < 23) from (Or.inl ⟨rfl, (Or.inr (Or.inr (Or.inr (Or.inr (Or.inl rfl)))))⟩))
        refine j_aload_n (pc := 74) dX9_begin_74 rfl rfl ?_
        refine j_iconst (pc := 75) dX9_begin_75 ?_
        refine j_putI (pc := 76) fl_X9_39 fp_X9_13 dX9_begin_76 (a_10 hX) rfl (j_nm (fun σ9 (eσ9 : σ9 = tw_up σ8 10 13 0) => ?_))
        have hIσ9 : tw_I σ9 := tw_I_up hIσ8 eσ9 (show (0 : Int) ≤ 0 ∧ 0 ≤ 400 from by decide)
        have hFσ9 : tw_F (fun c j => (c = 10 ∧ (j = 3 ∨ j = 4 ∨ j = 5 ∨ j = 11 ∨ j = 12 ∨ j = 13)) ∨ (12 ≤ c ∧ c < 14) ∨ (14 ≤ c ∧ c < 23)) σ σ9 := tw_F_up hFσ8 eσ9 (show (10 = 10 ∧ (13 = 3 ∨ 13 = 4 ∨ 13 = 5 ∨ 13 = 11 ∨ 13 = 12 ∨ 13 = 13)) ∨ (12 ≤ 10 ∧ 10 < 14) ∨ (14 ≤ 10 ∧ 10 < 23) from (Or.inl ⟨rfl, (Or.inr (Or.inr (Or.inr (Or.inr (Or.inr rfl)))))⟩))
        have y10 : σ9 10 3 = 0 := ((((((tw_ne1 eσ9 (by (first | decide | omega)))).trans (tw_ne1 eσ8 (by (first | decide | omega)))).trans (tw_ne1 eσ7 (by (first | decide | omega)))).trans (tw_ne1 eσ6 (by (first | decide | omega)))).trans (tw_ne1 eσ5 (by (first | decide | omega)))).trans (tw_eq1 eσ4)
        have y11 : σ9 10 4 = 0 := (((((tw_ne1 eσ9 (by (first | decide | omega)))).trans (tw_ne1 eσ8 (by (first | decide | omega)))).trans (tw_ne1 eσ7 (by (first | decide | omega)))).trans (tw_ne1 eσ6 (by (first | decide | omega)))).trans (tw_eq1 eσ5)
        have y12 : σ9 10 5 = 0 := ((((tw_ne1 eσ9 (by (first | decide | omega)))).trans (tw_ne1 eσ8 (by (first | decide | omega)))).trans (tw_ne1 eσ7 (by (first | decide | omega)))).trans (tw_eq1 eσ6)
        have y13 : σ9 10 11 = 0 := (((tw_ne1 eσ9 (by (first | decide | omega)))).trans (tw_ne1 eσ8 (by (first | decide | omega)))).trans (tw_eq1 eσ7)
        have y14 : σ9 10 12 = 0 := ((tw_ne1 eσ9 (by (first | decide | omega)))).trans (tw_eq1 eσ8)
        have y15 : σ9 10 13 = 0 := (tw_eq1 eσ9)
        exact j_vret (pc := 79) ⟨rfl, rfl⟩ dX9_begin_79 rfl ⟨rfl, hIσ9, hFσ9, by omega, by omega, by omega, by omega, by omega, by omega, (drX_D0 (by omega) (by omega) (Cn_F (fun j => ((((((tw_ne1 eσ9 (by (first | decide | omega)))).trans (tw_ne1 eσ8 (by (first | decide | omega)))).trans (tw_ne1 eσ7 (by (first | decide | omega)))).trans (tw_ne1 eσ6 (by (first | decide | omega)))).trans (tw_ne1 eσ5 (by (first | decide | omega)))).trans (tw_ne1 eσ4 (by (first | decide | omega)))) i0) (Cn_F (fun j => ((((((tw_ne1 eσ9 (by (first | decide | omega)))).trans (tw_ne1 eσ8 (by (first | decide | omega)))).trans (tw_ne1 eσ7 (by (first | decide | omega)))).trans (tw_ne1 eσ6 (by (first | decide | omega)))).trans (tw_ne1 eσ5 (by (first | decide | omega)))).trans (tw_ne1 eσ4 (by (first | decide | omega)))) i1) (Cn_F (fun j => ((((((tw_ne1 eσ9 (by (first | decide | omega)))).trans (tw_ne1 eσ8 (by (first | decide | omega)))).trans (tw_ne1 eσ7 (by (first | decide | omega)))).trans (tw_ne1 eσ6 (by (first | decide | omega)))).trans (tw_ne1 eσ5 (by (first | decide | omega)))).trans (tw_ne1 eσ4 (by (first | decide | omega)))) i2) (Cn_F (fun j => ((((((tw_ne1 eσ9 (by (first | decide | omega)))).trans (tw_ne1 eσ8 (by (first | decide | omega)))).trans (tw_ne1 eσ7 (by (first | decide | omega)))).trans (tw_ne1 eσ6 (by (first | decide | omega)))).trans (tw_ne1 eσ5 (by (first | decide | omega)))).trans (tw_ne1 eσ4 (by (first | decide | omega)))) i3) (Cn_F (fun j => ((((((tw_ne1 eσ9 (by (first | decide | omega)))).trans (tw_ne1 eσ8 (by (first | decide | omega)))).trans (tw_ne1 eσ7 (by (first | decide | omega)))).trans (tw_ne1 eσ6 (by (first | decide | omega)))).trans (tw_ne1 eσ5 (by (first | decide | omega)))).trans (tw_ne1 eσ4 (by (first | decide | omega)))) i4) (Cn_F (fun j => ((((((tw_ne1 eσ9 (by (first | decide | omega)))).trans (tw_ne1 eσ8 (by (first | decide | omega)))).trans (tw_ne1 eσ7 (by (first | decide | omega)))).trans (tw_ne1 eσ6 (by (first | decide | omega)))).trans (tw_ne1 eσ5 (by (first | decide | omega)))).trans (tw_ne1 eσ4 (by (first | decide | omega)))) i5) (Cn_F (fun j => ((((((tw_ne1 eσ9 (by (first | decide | omega)))).trans (tw_ne1 eσ8 (by (first | decide | omega)))).trans (tw_ne1 eσ7 (by (first | decide | omega)))).trans (tw_ne1 eσ6 (by (first | decide | omega)))).trans (tw_ne1 eσ5 (by (first | decide | omega)))).trans (tw_ne1 eσ4 (by (first | decide | omega)))) i6) (Cn_F (fun j => ((((((tw_ne1 eσ9 (by (first | decide | omega)))).trans (tw_ne1 eσ8 (by (first | decide | omega)))).trans (tw_ne1 eσ7 (by (first | decide | omega)))).trans (tw_ne1 eσ6 (by (first | decide | omega)))).trans (tw_ne1 eσ5 (by (first | decide | omega)))).trans (tw_ne1 eσ4 (by (first | decide | omega)))) i7) (by rw [show (11 : Int) = i from by omega]; exact Cn_F (fun j => ((((((tw_ne1 eσ9 (by (first | decide | omega)))).trans (tw_ne1 eσ8 (by (first | decide | omega)))).trans (tw_ne1 eσ7 (by (first | decide | omega)))).trans (tw_ne1 eσ6 (by (first | decide | omega)))).trans (tw_ne1 eσ5 (by (first | decide | omega)))).trans (tw_ne1 eσ4 (by (first | decide | omega)))) i8))⟩
      · refine j_aload_n (pc := 36) dX9_begin_36 rfl rfl ?_
        refine j_getR (pc := 37) (r := 13) fl_X9_19 dX9_begin_37 (a_10 hX) rfl ?_
        refine j_iload_n (pc := 40) dX9_begin_40 rfl rfl ?_
        refine j_iconst (pc := 41) dX9_begin_41 ?_
        refine j_zast (pc := 42) (by omega) dX9_begin_42 (a_13 hX) (by omega) (by omega) (by decide) (j_nm (fun σ16 (eσ16 : σ16 = tw_up τ 13 (i.toNat) 0) => ?_))
        have hIσ16 : tw_I σ16 := tw_I_up hIτ eσ16 (show (0 : Int) ≤ 0 ∧ 0 ≤ 1 from by decide)
        have hFσ16 : tw_F (fun c j => (c = 10 ∧ (j = 3 ∨ j = 4 ∨ j = 5 ∨ j = 11 ∨ j = 12 ∨ j = 13)) ∨ (12 ≤ c ∧ c < 14) ∨ (14 ≤ c ∧ c < 23)) σ σ16 := tw_F_up hFτ eσ16 (show (13 = 10 ∧ (i.toNat = 3 ∨ i.toNat = 4 ∨ i.toNat = 5 ∨ i.toNat = 11 ∨ i.toNat = 12 ∨ i.toNat = 13)) ∨ (12 ≤ 13 ∧ 13 < 14) ∨ (14 ≤ 13 ∧ 13 < 23) from (Or.inr (Or.inl (by decide))))
        refine j_iinc (pc := 43) (i := 1) (n := 1) (ls' := [(0, vR 10), (1, vI (i + 1))]) [1, 0] dX9_begin_43 rfl (Nat.le_of_ble_eq_true rfl) rfl rfl ?_
        refine j_goto (pc := 46) (tgt := 30) dX9_begin_46 rfl ?_
        refine j_ls (ls' := [(0, vR 10), (1, vI (i + 1))]) [0, 1] rfl ?_
        exact ih.2 (i + 1) ⟨by omega, by omega⟩ σ16 hIσ16 hFσ16 (show Cn 15 (fun j => (tw_first.getD j 0).toInt) σ16 9 from (by first | exact Cn_F (fun j => (tw_ne1 eσ16 (by (first | decide | omega)))) i0 | exact __0)) (show Cn 16 (fun _ => 0) σ16 11 from (by first | exact Cn_F (fun j => (tw_ne1 eσ16 (by (first | decide | omega)))) i1 | exact __1)) (show Cn 17 (fun _ => 1) σ16 41 from (by first | exact Cn_F (fun j => (tw_ne1 eσ16 (by (first | decide | omega)))) i2 | exact __2)) (show Cn 18 (fun _ => 0) σ16 41 from (by first | exact Cn_F (fun j => (tw_ne1 eσ16 (by (first | decide | omega)))) i3 | exact __3)) (show Cn 19 (fun _ => 0) σ16 41 from (by first | exact Cn_F (fun j => (tw_ne1 eσ16 (by (first | decide | omega)))) i4 | exact __4)) (show Cn 20 (fun _ => 0) σ16 41 from (by first | exact Cn_F (fun j => (tw_ne1 eσ16 (by (first | decide | omega)))) i5 | exact __5)) (show Cn 21 (fun _ => 5) σ16 41 from (by first | exact Cn_F (fun j => (tw_ne1 eσ16 (by (first | decide | omega)))) i6 | exact __6)) (show Cn 12 (fun _ => 0) σ16 41 from (by first | exact Cn_F (fun j => (tw_ne1 eσ16 (by (first | decide | omega)))) i7 | (rw [show (41 : Int) = i from by omega]; exact i7))) (show Cn 13 (fun _ => 0) σ16 (i + 1) from (by first | exact Cn_up eσ16 (by omega) i8 rfl (by omega) | exact Cn_0)) (show (100 - (i + 1)).toNat < N_ from by omega)
set_option maxHeartbeats 4000000 in
set_option maxRecDepth 100000 in
theorem c_X9_begin {G : tw_G} (hX : tw_isX G) (σ : tw_M) (hI : tw_I σ) : tw_C G yX9_begin cX9_begin 2 none 1 [vR 10] σ (q_X9_begin σ) := by
  refine tw_met [(0, vR 10)] (by decide +kernel) rfl (Nat.le_of_ble_eq_true rfl) ?_
  refine j_aload_n (pc := 0) dX9_begin_0 rfl rfl ?_
  refine j_getR (pc := 1) (r := 14) fl_X9_25 dX9_begin_1 (a_10 hX) rfl ?_
  refine j_callV (pc := 4) (As := []) (st := []) (c_X10_begin 14 (s_Wall_14 hX) σ hI) mv_X9_65 rfl rfl rfl (a_14 hX) dX9_begin_4 ⟨Nat.le_of_ble_eq_true rfl, Nat.le_of_ble_eq_true rfl⟩ ⟨Nat.le_refl _, Nat.le_refl _⟩ rfl (Nat.le_of_ble_eq_true rfl) rfl (fun z17 σ18 hz17 => ?_)
  obtain ⟨rfl, hIσ18, hGσ18, q19_0, q19_1, q19_2, q19_3, q19_4, q19_5, q19_6⟩ := hz17
  replace q19_0 : Cn 15 (fun j => (tw_first.getD j 0).toInt) σ18 9 := q19_0
  replace q19_1 : Cn 16 (fun _ => 0) σ18 11 := q19_1
  replace q19_2 : Cn 17 (fun _ => 1) σ18 41 := q19_2
  replace q19_3 : Cn 18 (fun _ => 0) σ18 41 := q19_3
  replace q19_4 : Cn 19 (fun _ => 0) σ18 41 := q19_4
  replace q19_5 : Cn 20 (fun _ => 0) σ18 41 := q19_5
  replace q19_6 : Cn 21 (fun _ => 5) σ18 41 := q19_6
  have hFσ18 : tw_F (fun c j => (c = 10 ∧ (j = 3 ∨ j = 4 ∨ j = 5 ∨ j = 11 ∨ j = 12 ∨ j = 13)) ∨ (12 ≤ c ∧ c < 14) ∨ (14 ≤ c ∧ c < 23)) σ σ18 := tw_F_tr (tw_F_rf) hGσ18 (fun c j q => (show (c = 10 ∧ (j = 3 ∨ j = 4 ∨ j = 5 ∨ j = 11 ∨ j = 12 ∨ j = 13)) ∨ (12 ≤ c ∧ c < 14) ∨ (14 ≤ c ∧ c < 23) from by replace q : (15 ≤ c ∧ c < 23) := q; exact (Or.inr (Or.inr ⟨Nat.le_trans (by decide) q.1, Nat.lt_of_lt_of_le q.2 (by decide)⟩))))
  refine j_st (st' := []) rfl ?_
  refine j_iconst (pc := 7) dX9_begin_7 ?_
  refine j_istore_n (pc := 8) (i := 1) (ls' := [(0, vR 10), (1, vI 0)]) [1, 0] dX9_begin_8 rfl (Nat.le_of_ble_eq_true rfl) rfl rfl ?_
  refine j_ls (ls' := [(0, vR 10), (1, vI 0)]) [0, 1] rfl ?_
  exact (l_X9_begin hX σ hI (((500 - (0 : Int)).toNat) + 1)).1 0 (by (first | decide | exact ⟨by omega, by omega⟩)) σ18 hIσ18 hFσ18 (show Cn 15 (fun j => (tw_first.getD j 0).toInt) σ18 9 from (by first | exact Cn_F (fun j => rfl) i0 | exact q19_0)) (show Cn 16 (fun _ => 0) σ18 11 from (by first | exact Cn_F (fun j => rfl) i1 | exact q19_1)) (show Cn 17 (fun _ => 1) σ18 41 from (by first | exact Cn_F (fun j => rfl) i2 | exact q19_2)) (show Cn 18 (fun _ => 0) σ18 41 from (by first | exact Cn_F (fun j => rfl) i3 | exact q19_3)) (show Cn 19 (fun _ => 0) σ18 41 from (by first | exact Cn_F (fun j => rfl) i4 | exact q19_4)) (show Cn 20 (fun _ => 0) σ18 41 from (by first | exact Cn_F (fun j => rfl) i5 | exact q19_5)) (show Cn 21 (fun _ => 5) σ18 41 from (by first | exact Cn_F (fun j => rfl) i6 | exact q19_6)) (show Cn 12 (fun _ => 0) σ18 (0 : Int) from (by first | exact Cn_up _ (by omega) i7 rfl (by omega) | exact Cn_0)) (Nat.lt_succ_self _)
