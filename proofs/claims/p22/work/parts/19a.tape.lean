/-! 19a.tape -/
theorem dX9_append_0 : decode cX9_append 0 = .ok (.aload_n 0, 1) := by decide +kernel
theorem dX9_append_1 : decode cX9_append 1 = .ok (.getfield 29, 3) := by decide +kernel
theorem dX9_append_4 : decode cX9_append 4 = .ok (.sipush 392, 3) := by decide +kernel
theorem dX9_append_7 : decode cX9_append 7 = .ok (.if_icmp .le 5, 3) := by decide +kernel
theorem dX9_append_10 : decode cX9_append 10 = .ok (.iconst 0, 1) := by decide +kernel
theorem dX9_append_11 : decode cX9_append 11 = .ok (.ireturn, 1) := by decide +kernel
theorem dX9_append_12 : decode cX9_append 12 = .ok (.iconst 0, 1) := by decide +kernel
theorem dX9_append_13 : decode cX9_append 13 = .ok (.istore_n 3, 1) := by decide +kernel
theorem dX9_append_14 : decode cX9_append 14 = .ok (.iload_n 3, 1) := by decide +kernel
theorem dX9_append_15 : decode cX9_append 15 = .ok (.bipush 8, 2) := by decide +kernel
theorem dX9_append_17 : decode cX9_append 17 = .ok (.if_icmp .ge 31, 3) := by decide +kernel
theorem dX9_append_20 : decode cX9_append 20 = .ok (.aload_n 0, 1) := by decide +kernel
theorem dX9_append_21 : decode cX9_append 21 = .ok (.getfield 9, 3) := by decide +kernel
theorem dX9_append_24 : decode cX9_append 24 = .ok (.aload_n 0, 1) := by decide +kernel
theorem dX9_append_25 : decode cX9_append 25 = .ok (.getfield 29, 3) := by decide +kernel
theorem dX9_append_28 : decode cX9_append 28 = .ok (.iload_n 3, 1) := by decide +kernel
theorem dX9_append_29 : decode cX9_append 29 = .ok (.iadd, 1) := by decide +kernel
theorem dX9_append_30 : decode cX9_append 30 = .ok (.lload_n 1, 1) := by decide +kernel
theorem dX9_append_31 : decode cX9_append 31 = .ok (.bipush 56, 2) := by decide +kernel
theorem dX9_append_33 : decode cX9_append 33 = .ok (.bipush 8, 2) := by decide +kernel
theorem dX9_append_35 : decode cX9_append 35 = .ok (.iload_n 3, 1) := by decide +kernel
theorem dX9_append_36 : decode cX9_append 36 = .ok (.imul, 1) := by decide +kernel
theorem dX9_append_37 : decode cX9_append 37 = .ok (.isub, 1) := by decide +kernel
theorem dX9_append_38 : decode cX9_append 38 = .ok (.lushr, 1) := by decide +kernel
theorem dX9_append_39 : decode cX9_append 39 = .ok (.l2i, 1) := by decide +kernel
theorem dX9_append_40 : decode cX9_append 40 = .ok (.i2b, 1) := by decide +kernel
theorem dX9_append_41 : decode cX9_append 41 = .ok (.bastore, 1) := by decide +kernel
theorem dX9_append_42 : decode cX9_append 42 = .ok (.iinc 3 1, 3) := by decide +kernel
theorem dX9_append_45 : decode cX9_append 45 = .ok (.goto (-31), 3) := by decide +kernel
theorem dX9_append_48 : decode cX9_append 48 = .ok (.aload_n 0, 1) := by decide +kernel
theorem dX9_append_49 : decode cX9_append 49 = .ok (.dup, 1) := by decide +kernel
theorem dX9_append_50 : decode cX9_append 50 = .ok (.getfield 29, 3) := by decide +kernel
theorem dX9_append_53 : decode cX9_append 53 = .ok (.bipush 8, 2) := by decide +kernel
theorem dX9_append_55 : decode cX9_append 55 = .ok (.iadd, 1) := by decide +kernel
theorem dX9_append_56 : decode cX9_append 56 = .ok (.putfield 29, 3) := by decide +kernel
theorem dX9_append_59 : decode cX9_append 59 = .ok (.iconst 1, 1) := by decide +kernel
theorem dX9_append_60 : decode cX9_append 60 = .ok (.ireturn, 1) := by decide +kernel
theorem dX9_fail_0 : decode cX9_fail 0 = .ok (.aload_n 0, 1) := by decide +kernel
theorem dX9_fail_1 : decode cX9_fail 1 = .ok (.getfield 33, 3) := by decide +kernel
theorem dX9_fail_4 : decode cX9_fail 4 = .ok (.ifCond .eq 4, 3) := by decide +kernel
theorem dX9_fail_7 : decode cX9_fail 7 = .ok (.return_, 1) := by decide +kernel
theorem dX9_fail_8 : decode cX9_fail 8 = .ok (.aload_n 0, 1) := by decide +kernel
theorem dX9_fail_9 : decode cX9_fail 9 = .ok (.iload_n 1, 1) := by decide +kernel
theorem dX9_fail_10 : decode cX9_fail 10 = .ok (.putfield 33, 3) := by decide +kernel
theorem dX9_fail_13 : decode cX9_fail 13 = .ok (.aload_n 0, 1) := by decide +kernel
theorem dX9_fail_14 : decode cX9_fail 14 = .ok (.iload_n 2, 1) := by decide +kernel
theorem dX9_fail_15 : decode cX9_fail 15 = .ok (.putfield 36, 3) := by decide +kernel
theorem dX9_fail_18 : decode cX9_fail 18 = .ok (.return_, 1) := by decide +kernel
theorem dX9_begin_0 : decode cX9_begin 0 = .ok (.aload_n 0, 1) := by decide +kernel
theorem dX9_begin_1 : decode cX9_begin 1 = .ok (.getfield 25, 3) := by decide +kernel
theorem dX9_begin_4 : decode cX9_begin 4 = .ok (.invokevirtual 65, 3) := by decide +kernel
theorem dX9_begin_7 : decode cX9_begin 7 = .ok (.iconst 0, 1) := by decide +kernel
theorem dX9_begin_8 : decode cX9_begin 8 = .ok (.istore_n 1, 1) := by decide +kernel
theorem dX9_begin_9 : decode cX9_begin 9 = .ok (.iload_n 1, 1) := by decide +kernel
theorem dX9_begin_10 : decode cX9_begin 10 = .ok (.bipush 40, 2) := by decide +kernel
theorem dX9_begin_12 : decode cX9_begin 12 = .ok (.if_icmp .gt 16, 3) := by decide +kernel
theorem dX9_begin_15 : decode cX9_begin 15 = .ok (.aload_n 0, 1) := by decide +kernel
theorem dX9_begin_16 : decode cX9_begin 16 = .ok (.getfield 15, 3) := by decide +kernel
theorem dX9_begin_19 : decode cX9_begin 19 = .ok (.iload_n 1, 1) := by decide +kernel
theorem dX9_begin_20 : decode cX9_begin 20 = .ok (.iconst 0, 1) := by decide +kernel
theorem dX9_begin_21 : decode cX9_begin 21 = .ok (.bastore, 1) := by decide +kernel
theorem dX9_begin_22 : decode cX9_begin 22 = .ok (.iinc 1 1, 3) := by decide +kernel
theorem dX9_begin_25 : decode cX9_begin 25 = .ok (.goto (-16), 3) := by decide +kernel
theorem dX9_begin_28 : decode cX9_begin 28 = .ok (.iconst 0, 1) := by decide +kernel
theorem dX9_begin_29 : decode cX9_begin 29 = .ok (.istore_n 1, 1) := by decide +kernel
theorem dX9_begin_30 : decode cX9_begin 30 = .ok (.iload_n 1, 1) := by decide +kernel
theorem dX9_begin_31 : decode cX9_begin 31 = .ok (.bipush 10, 2) := by decide +kernel
theorem dX9_begin_33 : decode cX9_begin 33 = .ok (.if_icmp .gt 16, 3) := by decide +kernel
theorem dX9_begin_36 : decode cX9_begin 36 = .ok (.aload_n 0, 1) := by decide +kernel
theorem dX9_begin_37 : decode cX9_begin 37 = .ok (.getfield 19, 3) := by decide +kernel
theorem dX9_begin_40 : decode cX9_begin 40 = .ok (.iload_n 1, 1) := by decide +kernel
theorem dX9_begin_41 : decode cX9_begin 41 = .ok (.iconst 0, 1) := by decide +kernel
theorem dX9_begin_42 : decode cX9_begin 42 = .ok (.bastore, 1) := by decide +kernel
theorem dX9_begin_43 : decode cX9_begin 43 = .ok (.iinc 1 1, 3) := by decide +kernel
theorem dX9_begin_46 : decode cX9_begin 46 = .ok (.goto (-16), 3) := by decide +kernel
theorem dX9_begin_49 : decode cX9_begin 49 = .ok (.aload_n 0, 1) := by decide +kernel
theorem dX9_begin_50 : decode cX9_begin 50 = .ok (.iconst 0, 1) := by decide +kernel
theorem dX9_begin_51 : decode cX9_begin 51 = .ok (.putfield 66, 3) := by decide +kernel
theorem dX9_begin_54 : decode cX9_begin 54 = .ok (.aload_n 0, 1) := by decide +kernel
theorem dX9_begin_55 : decode cX9_begin 55 = .ok (.iconst 0, 1) := by decide +kernel
theorem dX9_begin_56 : decode cX9_begin 56 = .ok (.putfield 54, 3) := by decide +kernel
theorem dX9_begin_59 : decode cX9_begin 59 = .ok (.aload_n 0, 1) := by decide +kernel
theorem dX9_begin_60 : decode cX9_begin 60 = .ok (.iconst 0, 1) := by decide +kernel
theorem dX9_begin_61 : decode cX9_begin 61 = .ok (.putfield 69, 3) := by decide +kernel
theorem dX9_begin_64 : decode cX9_begin 64 = .ok (.aload_n 0, 1) := by decide +kernel
theorem dX9_begin_65 : decode cX9_begin 65 = .ok (.iconst 0, 1) := by decide +kernel
theorem dX9_begin_66 : decode cX9_begin 66 = .ok (.putfield 33, 3) := by decide +kernel
theorem dX9_begin_69 : decode cX9_begin 69 = .ok (.aload_n 0, 1) := by decide +kernel
theorem dX9_begin_70 : decode cX9_begin 70 = .ok (.iconst 0, 1) := by decide +kernel
theorem dX9_begin_71 : decode cX9_begin 71 = .ok (.putfield 36, 3) := by decide +kernel
theorem dX9_begin_74 : decode cX9_begin 74 = .ok (.aload_n 0, 1) := by decide +kernel
theorem dX9_begin_75 : decode cX9_begin 75 = .ok (.iconst 0, 1) := by decide +kernel
theorem dX9_begin_76 : decode cX9_begin 76 = .ok (.putfield 39, 3) := by decide +kernel
theorem dX9_begin_79 : decode cX9_begin 79 = .ok (.return_, 1) := by decide +kernel
theorem dX9_byteAt_0 : decode cX9_byteAt 0 = .ok (.iload_n 1, 1) := by decide +kernel
theorem dX9_byteAt_1 : decode cX9_byteAt 1 = .ok (.ifCond .lt 31, 3) := by decide +kernel
theorem dX9_byteAt_4 : decode cX9_byteAt 4 = .ok (.iload_n 1, 1) := by decide +kernel
theorem dX9_byteAt_5 : decode cX9_byteAt 5 = .ok (.aload_n 0, 1) := by decide +kernel
theorem dX9_byteAt_6 : decode cX9_byteAt 6 = .ok (.getfield 29, 3) := by decide +kernel
theorem dX9_byteAt_9 : decode cX9_byteAt 9 = .ok (.if_icmp .ge 23, 3) := by decide +kernel
theorem dX9_byteAt_12 : decode cX9_byteAt 12 = .ok (.iload_n 1, 1) := by decide +kernel
theorem dX9_byteAt_13 : decode cX9_byteAt 13 = .ok (.sipush 400, 3) := by decide +kernel
theorem dX9_byteAt_16 : decode cX9_byteAt 16 = .ok (.if_icmp .ge 16, 3) := by decide +kernel
theorem dX9_byteAt_19 : decode cX9_byteAt 19 = .ok (.aload_n 0, 1) := by decide +kernel
theorem dX9_byteAt_20 : decode cX9_byteAt 20 = .ok (.getfield 9, 3) := by decide +kernel
theorem dX9_byteAt_23 : decode cX9_byteAt 23 = .ok (.iload_n 1, 1) := by decide +kernel
theorem dX9_byteAt_24 : decode cX9_byteAt 24 = .ok (.baload, 1) := by decide +kernel
theorem dX9_byteAt_25 : decode cX9_byteAt 25 = .ok (.sipush 255, 3) := by decide +kernel
theorem dX9_byteAt_28 : decode cX9_byteAt 28 = .ok (.iand, 1) := by decide +kernel
theorem dX9_byteAt_29 : decode cX9_byteAt 29 = .ok (.goto 4, 3) := by decide +kernel
theorem dX9_byteAt_32 : decode cX9_byteAt 32 = .ok (.iconst (-1), 1) := by decide +kernel
theorem dX9_byteAt_33 : decode cX9_byteAt 33 = .ok (.ireturn, 1) := by decide +kernel
theorem dX9_isLetter_0 : decode cX9_isLetter 0 = .ok (.iload_n 0, 1) := by decide +kernel
theorem dX9_isLetter_1 : decode cX9_isLetter 1 = .ok (.bipush 97, 2) := by decide +kernel
theorem dX9_isLetter_3 : decode cX9_isLetter 3 = .ok (.if_icmp .lt 13, 3) := by decide +kernel
theorem dX9_isLetter_6 : decode cX9_isLetter 6 = .ok (.iload_n 0, 1) := by decide +kernel
theorem dX9_isLetter_7 : decode cX9_isLetter 7 = .ok (.bipush 122, 2) := by decide +kernel
theorem dX9_isLetter_9 : decode cX9_isLetter 9 = .ok (.if_icmp .gt 7, 3) := by decide +kernel
theorem dX9_isLetter_12 : decode cX9_isLetter 12 = .ok (.iconst 1, 1) := by decide +kernel
theorem dX9_isLetter_13 : decode cX9_isLetter 13 = .ok (.goto 4, 3) := by decide +kernel
theorem dX9_isLetter_16 : decode cX9_isLetter 16 = .ok (.iconst 0, 1) := by decide +kernel
theorem dX9_isLetter_17 : decode cX9_isLetter 17 = .ok (.ireturn, 1) := by decide +kernel
theorem dX9_isFigure_0 : decode cX9_isFigure 0 = .ok (.iload_n 0, 1) := by decide +kernel
theorem dX9_isFigure_1 : decode cX9_isFigure 1 = .ok (.bipush 48, 2) := by decide +kernel
theorem dX9_isFigure_3 : decode cX9_isFigure 3 = .ok (.if_icmp .lt 13, 3) := by decide +kernel
theorem dX9_isFigure_6 : decode cX9_isFigure 6 = .ok (.iload_n 0, 1) := by decide +kernel
theorem dX9_isFigure_7 : decode cX9_isFigure 7 = .ok (.bipush 57, 2) := by decide +kernel
theorem dX9_isFigure_9 : decode cX9_isFigure 9 = .ok (.if_icmp .gt 7, 3) := by decide +kernel
theorem dX9_isFigure_12 : decode cX9_isFigure 12 = .ok (.iconst 1, 1) := by decide +kernel
theorem dX9_isFigure_13 : decode cX9_isFigure 13 = .ok (.goto 4, 3) := by decide +kernel
theorem dX9_isFigure_16 : decode cX9_isFigure 16 = .ok (.iconst 0, 1) := by decide +kernel
theorem dX9_isFigure_17 : decode cX9_isFigure 17 = .ok (.ireturn, 1) := by decide +kernel
abbrev q_X9_append (v : Int) (σ : tw_M) : Option tw_V → tw_M → Prop := fun z τ => ∃ r : Int, z = some (vI r) ∧ (0 ≤ r ∧ r ≤ 1) ∧ tw_I τ ∧ tw_F (fun c j => (c = 10 ∧ (j = 10)) ∨ c = 11) σ τ ∧ ((r = 0 ∧ 392 < σ 10 10 ∧ τ 10 10 = σ 10 10) ∨ (r = 1 ∧ σ 10 10 ≤ 392 ∧ τ 10 10 = σ 10 10 + 8)) ∧ (∀ j : Nat, (j : Int) < σ 10 10 → τ 11 j = σ 11 j) ∧ (r = 0 ∨ ∀ k : Nat, (k : Int) < 8 → tw_and (τ 11 ((σ 10 10).toNat + k)) 255 = byt v k)
set_option maxHeartbeats 4000000 in
set_option maxRecDepth 100000 in
theorem l_X9_append {G : tw_G} (hX : tw_isX G) (v : Int) (hv : -9223372036854775808 ≤ v ∧ v ≤ 9223372036854775807) (σ : tw_M) (hI : tw_I σ) : ∀ N_ : Nat, (∀ (i : Int) (hi : 0 ≤ i ∧ i ≤ 8) (τ : tw_M) (hIτ : tw_I τ) (hFτ : tw_F (fun c j => (c = 10 ∧ (j = 10)) ∨ c = 11) σ τ) (i0 : τ 10 10 = σ 10 10) (i1 : τ 10 10 ≤ 392) (i2 : ∀ j : Nat, (j : Int) < σ 10 10 → τ 11 j = σ 11 j) (i3 : ∀ k : Nat, (k : Int) < i → tw_and (τ 11 ((σ 10 10).toNat + k)) 255 = byt v k) (hm : (8 - i).toNat < N_), tw_J G (tw_mt RX9 cX9_append 4 (some .boolean) 0) (tw_E G (q_X9_append v σ)) 14 [(0, vR 10), (1, vL v), (3, vI i)] [] τ) := by
  intro N_
  induction N_ with
  | zero => exact fun i hi τ hIτ hFτ i0 i1 i2 i3 hm => absurd hm (Nat.not_lt_zero _)
  | succ N_ ih =>
    intro i hi τ hIτ hFτ i0 i1 i2 i3 hm
    refine j_iload_n (pc := 14) dX9_append_14 rfl rfl ?_
    refine j_bipush (pc := 15) dX9_append_15 rfl ?_
    refine j_icmpR_ge (pc := 17) (tgt := 48) ⟨by omega, by omega⟩ ⟨by omega, by omega⟩ dX9_append_17 rfl (fun h1 => ?_) (fun h1 => ?_)
    · refine j_aload_n (pc := 48) dX9_append_48 rfl rfl ?_
      refine j_dup (pc := 49) dX9_append_49 rfl ?_
      refine j_getI (pc := 50) fl_X9_29 dX9_append_50 (a_10 hX) rfl ?_
      have f2 : (0 : Int) ≤ τ 10 10 ∧ τ 10 10 ≤ 400 := hIτ 10 10
      refine j_bipush (pc := 53) dX9_append_53 rfl ?_
      refine j_iadd (pc := 55) dX9_append_55 ?_
      refine j_putI (pc := 56) fl_X9_29 fp_X9_10 dX9_append_56 (a_10 hX) rfl (j_nm (fun σ3 (eσ3 : σ3 = tw_up τ 10 10 ((τ 10 10) + 8)) => ?_))
      have hIσ3 : tw_I σ3 := tw_I_up hIτ eσ3 (show (0 : Int) ≤ (τ 10 10) + 8 ∧ (τ 10 10) + 8 ≤ 400 from ⟨by omega, by omega⟩)
      have hFσ3 : tw_F (fun c j => (c = 10 ∧ (j = 10)) ∨ c = 11) σ σ3 := tw_F_up hFτ eσ3 (show (10 = 10 ∧ (10 = 10)) ∨ 10 = 11 from (Or.inl ⟨rfl, rfl⟩))
      refine j_iconst (pc := 59) dX9_append_59 ?_
      have y4 : σ3 10 10 = (τ 10 10) + 8 := (tw_eq1 eσ3)
      exact j_zret (pc := 60) ⟨rfl, rfl⟩ dX9_append_60 rfl (nar_bool (by omega) (by omega)) ⟨_, rfl, ⟨by omega, by omega⟩, hIσ3, hFσ3, by omega, (fun j hj => by first | rfl | (rw [show σ3 11 j = τ 11 j from (tw_ne1 eσ3 (by (first | decide | omega)))]; exact i2 j hj)), (by first | exact Or.inl rfl | exact Or.inr (fun k hk => by rw [show σ3 11 ((σ 10 10).toNat + k) = τ 11 ((σ 10 10).toNat + k) from (tw_ne1 eσ3 (by (first | decide | omega)))]; exact i3 k (by omega)))⟩
    · refine j_aload_n (pc := 20) dX9_append_20 rfl rfl ?_
      refine j_getR (pc := 21) (r := 11) fl_X9_9 dX9_append_21 (a_10 hX) rfl ?_
      refine j_aload_n (pc := 24) dX9_append_24 rfl rfl ?_
      refine j_getI (pc := 25) fl_X9_29 dX9_append_25 (a_10 hX) rfl ?_
      have f5 : (0 : Int) ≤ τ 10 10 ∧ τ 10 10 ≤ 400 := hIτ 10 10
      refine j_iload_n (pc := 28) dX9_append_28 rfl rfl ?_
      refine j_iadd (pc := 29) dX9_append_29 ?_
      refine j_lload_n (pc := 30) dX9_append_30 rfl rfl ?_
      refine j_bipush (pc := 31) dX9_append_31 rfl ?_
      refine j_bipush (pc := 33) dX9_append_33 rfl ?_
      refine j_iload_n (pc := 35) dX9_append_35 rfl rfl ?_
      refine j_imul (pc := 36) dX9_append_36 ?_
      refine j_isub (pc := 37) dX9_append_37 ?_
      refine j_lushr (pc := 38) dX9_append_38 (fun z6 ez6 => ?_)
      have hz6 : (-9223372036854775808 : Int) ≤ z6 ∧ z6 ≤ 9223372036854775807 := by rw [ez6]; exact lushrL_in _ _
      have x1 := ez6
      refine j_l2i (pc := 39) dX9_append_39 (fun z7 ez7 => ?_)
      have hz7 : (-2147483648 : Int) ≤ z7 ∧ z7 ≤ 2147483647 := by rw [ez7]; exact l2i_in _
      have x2 := ez7; rw [x1] at x2
      refine j_i2b (pc := 40) dX9_append_40 (fun z8 ez8 => ?_)
      have hz8 : (-128 : Int) ≤ z8 ∧ z8 ≤ 127 := by rw [ez8]; exact i2b_in _
      have x3 := ez8; rw [x2] at x3
      have f9 := i2b_in z8
      refine j_bast (pc := 41) dX9_append_41 (a_11 hX) (by omega) (by omega) (by decide) (j_nm (fun σ10 (eσ10 : σ10 = tw_up τ 11 (((τ 10 10) + i).toNat) (tw_i2b z8)) => ?_))
      have hIσ10 : tw_I σ10 := tw_I_up hIτ eσ10 (show (-128 : Int) ≤ tw_i2b z8 ∧ tw_i2b z8 ≤ 127 from ⟨by omega, by omega⟩)
      have hFσ10 : tw_F (fun c j => (c = 10 ∧ (j = 10)) ∨ c = 11) σ σ10 := tw_F_up hFτ eσ10 (show (11 = 10 ∧ (((τ 10 10) + i).toNat = 10)) ∨ 11 = 11 from (Or.inr rfl))
      refine j_iinc (pc := 42) (i := 3) (n := 1) (ls' := [(0, vR 10), (1, vL v), (3, vI (i + 1))]) [1, 2, 0] dX9_append_42 rfl (Nat.le_of_ble_eq_true rfl) rfl rfl ?_
      refine j_goto (pc := 45) (tgt := 14) dX9_append_45 rfl ?_
      refine j_ls (ls' := [(0, vR 10), (1, vL v), (3, vI (i + 1))]) [0, 1, 2] rfl ?_
      have y11 : σ10 10 10 = τ 10 10 := (tw_ne1 eσ10 (by (first | decide | omega)))
      have y12 : σ10 10 10 = τ 10 10 := (tw_ne1 eσ10 (by (first | decide | omega)))
      exact ih (i + 1) ⟨by omega, by omega⟩ σ10 hIσ10 hFσ10 (show σ10 10 10 = σ 10 10 from by omega) (show σ10 10 10 ≤ 392 from by omega) (show ∀ j : Nat, (j : Int) < σ 10 10 → σ10 11 j = σ 11 j from (fun j hj => by first | rfl | (rw [tw_ne1 eσ10 (by (first | decide | omega))]; exact i2 j hj))) (show ∀ k : Nat, (k : Int) < (i + 1) → tw_and (σ10 11 ((σ 10 10).toNat + k)) 255 = byt v k from (fun k hk => by first | (exfalso; omega) | (rcases (show (k : Int) < i ∨ (k : Int) = i by omega) with q | q; (rw [tw_ne1 eσ10 (by (first | decide | omega))]; exact i3 k q); (rw [tw_eq2 eσ10 (by omega), x3, i2b2, show i = (k : Int) from q.symm]; exact byt_eq (by omega))))) (show (8 - (i + 1)).toNat < N_ from by omega)
set_option maxHeartbeats 4000000 in
set_option maxRecDepth 100000 in
theorem c_X9_append {G : tw_G} (hX : tw_isX G) (v : Int) (hv : -9223372036854775808 ≤ v ∧ v ≤ 9223372036854775807) (σ : tw_M) (hI : tw_I σ) : tw_C G yX9_append cX9_append 4 (some .boolean) 0 [vR 10, vL v] σ (q_X9_append v σ) := by
  refine tw_met [(0, vR 10), (1, vL v)] (by decide +kernel) rfl (Nat.le_of_ble_eq_true rfl) ?_
  refine j_aload_n (pc := 0) dX9_append_0 rfl rfl ?_
  refine j_getI (pc := 1) fl_X9_29 dX9_append_1 (a_10 hX) rfl ?_
  have f13 : (0 : Int) ≤ σ 10 10 ∧ σ 10 10 ≤ 400 := hI 10 10
  refine j_sipush (pc := 4) dX9_append_4 rfl ?_
  refine j_icmpR_le (pc := 7) (tgt := 12) ⟨by omega, by omega⟩ ⟨by omega, by omega⟩ dX9_append_7 rfl (fun h14 => ?_) (fun h14 => ?_)
  · refine j_iconst (pc := 12) dX9_append_12 ?_
    refine j_istore_n (pc := 13) (i := 3) (ls' := [(0, vR 10), (1, vL v), (3, vI 0)]) [1, 2, 0] dX9_append_13 rfl (Nat.le_of_ble_eq_true rfl) rfl rfl ?_
    refine j_ls (ls' := [(0, vR 10), (1, vL v), (3, vI 0)]) [0, 1, 2] rfl ?_
    exact (l_X9_append hX v hv σ hI (((8 - (0 : Int)).toNat) + 1)) 0 (by (first | decide | exact ⟨by omega, by omega⟩)) σ hI (tw_F_rf) (show σ 10 10 = σ 10 10 from by omega) (show σ 10 10 ≤ 392 from by omega) (show ∀ j : Nat, (j : Int) < σ 10 10 → σ 11 j = σ 11 j from (fun j hj => by first | rfl | (rw [tw_ne1 _ (by omega)]; exact i2 j hj))) (show ∀ k : Nat, (k : Int) < (0 : Int) → tw_and (σ 11 ((σ 10 10).toNat + k)) 255 = byt v k from (fun k hk => by first | (exfalso; omega) | (rcases (show (k : Int) < i ∨ (k : Int) = i by omega) with q | q; (rw [tw_ne1 _ (by omega)]; exact i3 k q); (rw [tw_eq2 _ (by omega), x3, i2b2, show i = (k : Int) from q.symm]; exact byt_eq (by omega))))) (Nat.lt_succ_self _)
  · refine j_iconst (pc := 10) dX9_append_10 ?_
    exact j_zret (pc := 11) ⟨rfl, rfl⟩ dX9_append_11 rfl (nar_bool (by omega) (by omega)) ⟨_, rfl, ⟨by omega, by omega⟩, hI, (tw_F_rf), by omega, (fun j hj => by first | rfl | (rw [show σ 11 j = τ 11 j from rfl]; exact i2 j hj)), (by first | exact Or.inl rfl | exact Or.inr (fun k hk => by rw [show σ 11 ((σ 10 10).toNat + k) = τ 11 ((σ 10 10).toNat + k) from rfl]; exact i3 k (by omega)))⟩
abbrev q_X9_fail (a : Int) (b : Int) (σ : tw_M) : Option tw_V → tw_M → Prop := fun z τ => z = none ∧ tw_I τ ∧ tw_F (fun c j => (c = 10 ∧ (j = 11 ∨ j = 12))) σ τ ∧ ((σ 10 11 = 0 ∧ τ 10 11 = a ∧ τ 10 12 = b) ∨ (¬ σ 10 11 = 0 ∧ τ 10 11 = σ 10 11 ∧ τ 10 12 = σ 10 12))
set_option maxHeartbeats 4000000 in
set_option maxRecDepth 100000 in
theorem c_X9_fail {G : tw_G} (hX : tw_isX G) (a : Int) (ha : 1 ≤ a ∧ a ≤ 5) (b : Int) (hb : 0 ≤ b ∧ b ≤ 400) (σ : tw_M) (hI : tw_I σ) : tw_C G yX9_fail cX9_fail 3 none 0 [vR 10, vI a, vI b] σ (q_X9_fail a b σ) := by
  refine tw_met [(0, vR 10), (1, vI a), (2, vI b)] (by decide +kernel) rfl (Nat.le_of_ble_eq_true rfl) ?_
  refine j_aload_n (pc := 0) dX9_fail_0 rfl rfl ?_
  refine j_getI (pc := 1) fl_X9_33 dX9_fail_1 (a_10 hX) rfl ?_
  have f1 : (0 : Int) ≤ σ 10 11 ∧ σ 10 11 ≤ 5 := hI 10 11
  refine j_ifR_eq (pc := 4) (tgt := 8) ⟨by omega, by omega⟩ dX9_fail_4 rfl (fun h2 => ?_) (fun h2 => ?_)
  · refine j_aload_n (pc := 8) dX9_fail_8 rfl rfl ?_
    refine j_iload_n (pc := 9) dX9_fail_9 rfl rfl ?_
    refine j_putI (pc := 10) fl_X9_33 fp_X9_11 dX9_fail_10 (a_10 hX) rfl (j_nm (fun σ3 (eσ3 : σ3 = tw_up σ 10 11 a) => ?_))
    have hIσ3 : tw_I σ3 := tw_I_up hI eσ3 (show (0 : Int) ≤ a ∧ a ≤ 5 from ⟨by omega, by omega⟩)
    have hFσ3 : tw_F (fun c j => (c = 10 ∧ (j = 11 ∨ j = 12))) σ σ3 := tw_F_up (tw_F_rf) eσ3 (show (10 = 10 ∧ (11 = 11 ∨ 11 = 12)) from ⟨rfl, (Or.inl rfl)⟩)
    refine j_aload_n (pc := 13) dX9_fail_13 rfl rfl ?_
    refine j_iload_n (pc := 14) dX9_fail_14 rfl rfl ?_
    refine j_putI (pc := 15) fl_X9_36 fp_X9_12 dX9_fail_15 (a_10 hX) rfl (j_nm (fun σ4 (eσ4 : σ4 = tw_up σ3 10 12 b) => ?_))
    have hIσ4 : tw_I σ4 := tw_I_up hIσ3 eσ4 (show (0 : Int) ≤ b ∧ b ≤ 400 from ⟨by omega, by omega⟩)
    have hFσ4 : tw_F (fun c j => (c = 10 ∧ (j = 11 ∨ j = 12))) σ σ4 := tw_F_up hFσ3 eσ4 (show (10 = 10 ∧ (12 = 11 ∨ 12 = 12)) from ⟨rfl, (Or.inr rfl)⟩)
    have y5 : σ4 10 11 = a := ((tw_ne1 eσ4 (by (first | decide | omega)))).trans (tw_eq1 eσ3)
    have y6 : σ4 10 12 = b := (tw_eq1 eσ4)
    exact j_vret (pc := 18) ⟨rfl, rfl⟩ dX9_fail_18 rfl ⟨rfl, hIσ4, hFσ4, by omega⟩
  · exact j_vret (pc := 7) ⟨rfl, rfl⟩ dX9_fail_7 rfl ⟨rfl, hI, (tw_F_rf), by omega⟩
abbrev q_X9_begin  (σ : tw_M) : Option tw_V → tw_M → Prop := fun z τ => z = none ∧ tw_I τ ∧ tw_F (fun c j => (c = 10 ∧ (j = 3 ∨ j = 4 ∨ j = 5 ∨ j = 11 ∨ j = 12 ∨ j = 13)) ∨ (12 ≤ c ∧ c < 14) ∨ (14 ≤ c ∧ c < 23)) σ τ ∧ (τ 10 3 = 0) ∧ (τ 10 4 = 0) ∧ (τ 10 5 = 0) ∧ (τ 10 11 = 0) ∧ (τ 10 12 = 0) ∧ (τ 10 13 = 0) ∧ (drX τ = D0)
set_option maxHeartbeats 4000000 in
set_option maxRecDepth 100000 in
theorem l_X9_begin {G : tw_G} (hX : tw_isX G) (σ : tw_M) (hI : tw_I σ) : ∀ N_ : Nat, (∀ (i : Int) (hi : 0 ≤ i ∧ i ≤ 41) (τ : tw_M) (hIτ : tw_I τ) (hFτ : tw_F (fun c j => (c = 10 ∧ (j = 3 ∨ j = 4 ∨ j = 5 ∨ j = 11 ∨ j = 12 ∨ j = 13)) ∨ (12 ≤ c ∧ c < 14) ∨ (14 ≤ c ∧ c < 23)) σ τ) (i0 : Cn 15 (fun j => (tw_first.getD j 0).toInt) τ 9) (i1 : Cn 16 (fun _ => 0) τ 11) (i2 : Cn 17 (fun _ => 1) τ 41) (i3 : Cn 18 (fun _ => 0) τ 41) (i4 : Cn 19 (fun _ => 0) τ 41) (i5 : Cn 20 (fun _ => 0) τ 41) (i6 : Cn 21 (fun _ => 5) τ 41) (i7 : Cn 12 (fun _ => 0) τ i) (hm : (500 - i).toNat < N_), tw_J G (tw_mt RX9 cX9_begin 2 none 1) (tw_E G (q_X9_begin σ)) 9 [(0, vR 10), (1, vI i)] [] τ) ∧ (∀ (i : Int) (hi : 0 ≤ i ∧ i ≤ 11) (τ : tw_M) (hIτ : tw_I τ) (hFτ : tw_F (fun c j => (c = 10 ∧ (j = 3 ∨ j = 4 ∨ j = 5 ∨ j = 11 ∨ j = 12 ∨ j = 13)) ∨ (12 ≤ c ∧ c < 14) ∨ (14 ≤ c ∧ c < 23)) σ τ) (i0 : Cn 15 (fun j => (tw_first.getD j 0).toInt) τ 9) (i1 : Cn 16 (fun _ => 0) τ 11) (i2 : Cn 17 (fun _ => 1) τ 41) (i3 : Cn 18 (fun _ => 0) τ 41) (i4 : Cn 19 (fun _ => 0) τ 41) (i5 : Cn 20 (fun _ => 0) τ 41) (i6 : Cn 21 (fun _ => 5) τ 41) (i7 : Cn 12 (fun _ => 0) τ 41) (i8 : Cn 13 (fun _ => 0) τ i) (hm : (100 - i).toNat < N_), tw_J G (tw_mt RX9 cX9_begin 2 none 1) (tw_E G (q_X9_begin σ)) 30 [(0, vR 10), (1, vI i)] [] τ) := by
  intro N_
  induction N_ with
  | zero => exact ⟨fun i hi τ hIτ hFτ i0 i1 i2 i3 i4 i5 i6 i7 hm => absurd hm (Nat.not_lt_zero _), fun i hi τ hIτ hFτ i0 i1 i2 i3 i4 i5 i6 i7 i8 hm => absurd hm (Nat.not_lt_zero _)⟩
  | succ N_ ih =>
    refine ⟨?_, ?_⟩
    · intro i hi τ hIτ hFτ i0 i1 i2 i3 i4 i5 i6 i7 hm
      refine j_iload_n (pc := 9) dX9_begin_9 rfl rfl ?_
      refine j_bipush (pc := 10) dX9_begin_10 rfl ?_
      refine j_icmpR_gt (pc := 12) (tgt := 28) ⟨by omega, by omega⟩ ⟨by omega, by omega⟩ dX9_begin_12 rfl (fun h1 => ?_) (fun h1 => ?_)
      · refine j_iconst (pc := 28) dX9_begin_28 ?_
        refine j_istore_n (pc := 29) (i := 1) (ls' := [(0, vR 10), (1, vI 0)]) [1, 0] dX9_begin_29 rfl (Nat.le_of_ble_eq_true rfl) rfl rfl ?_
        refine j_ls (ls' := [(0, vR 10), (1, vI 0)]) [0, 1] rfl ?_
        exact ih.2 0 (by (first | decide | exact ⟨by omega, by omega⟩)) τ hIτ hFτ (show Cn 15 (fun j => (tw_first.getD j 0).toInt) τ 9 from (by first | exact Cn_F (fun j => rfl) i0 | exact __0)) (show Cn 16 (fun _ => 0) τ 11 from (by first | exact Cn_F (fun j => rfl) i1 | exact __1)) (show Cn 17 (fun _ => 1) τ 41 from (by first | exact Cn_F (fun j => rfl) i2 | exact __2)) (show Cn 18 (fun _ => 0) τ 41 from (by first | exact Cn_F (fun j => rfl) i3 | exact __3)) (show Cn 19 (fun _ => 0) τ 41 from (by first | exact Cn_F (fun j => rfl) i4 | exact __4)) (show Cn 20 (fun _ => 0) τ 41 from (by first | exact Cn_F (fun j => rfl) i5 | exact __5)) (show Cn 21 (fun _ => 5) τ 41 from (by first | exact Cn_F (fun j => rfl) i6 | exact __6)) (show Cn 12 (fun _ => 0) τ 41 from (by first | exact Cn_F (fun j => rfl) i7 | (rw [show (41 : Int) = i from by omega]; exact i7))) (show Cn 13 (fun _ => 0) τ (0 : Int) from (by first | exact Cn_up _ (by omega) i8 rfl (by omega) | exact Cn_0)) (show (100 - (0 : Int)).toNat < N_ from by omega)
      · refine j_aload_n (pc := 15) dX9_begin_15 rfl rfl ?_
        refine j_getR (pc := 16) (r := 12) fl_X9_15 dX9_begin_16 (a_10 hX) rfl ?_
        refine j_iload_n (pc := 19) dX9_begin_19 rfl rfl ?_
        refine j_iconst (pc := 20) dX9_begin_20 ?_
        refine j_zast (pc := 21) (by omega) dX9_begin_21 (a_12 hX) (by omega) (by omega) (by decide) (j_nm (fun σ2 (eσ2 : σ2 = tw_up τ 12 (i.toNat) 0) => ?_))
        have hIσ2 : tw_I σ2 := tw_I_up hIτ eσ2 (show (0 : Int) ≤ 0 ∧ 0 ≤ 1 from by decide)
        have hFσ2 : tw_F (fun c j => (c = 10 ∧ (j = 3 ∨ j = 4 ∨ j = 5 ∨ j = 11 ∨ j = 12 ∨ j = 13)) ∨ (12 ≤ c ∧ c < 14) ∨ (14 ≤ c ∧ c < 23)) σ σ2 := tw_F_up hFτ eσ2 (show (12 = 10 ∧ (i.toNat = 3 ∨ i.toNat = 4 ∨ i.toNat = 5 ∨ i.toNat = 11 ∨ i.toNat = 12 ∨ i.toNat = 13)) ∨ (12 ≤ 12 ∧ 12 < 14) ∨ (14 ≤ 12 ∧ 12 < 23) from (Or.inr (Or.inl (by decide))))
        refine j_iinc (pc := 22) (i := 1) (n := 1) (ls' := [(0, vR 10), (1, vI (i + 1))]) [1, 0] dX9_begin_22 rfl (Nat.le_of_ble_eq_true rfl) rfl rfl ?_
        refine j_goto (pc := 25) (tgt := 9) dX9_begin_25 rfl ?_
        refine j_ls (ls' := [(0, vR 10), (1, vI (i + 1))]) [0, 1] rfl ?_
        exact ih.1 (i + 1) ⟨by omega, by omega⟩ σ2 hIσ2 hFσ2 (show Cn 15 (fun j => (tw_first.getD j 0).toInt) σ2 9 from (by first | exact Cn_F (fun j => (tw_ne1 eσ2 (by (first | decide | omega)))) i0 | exact __0)) (show Cn 16 (fun _ => 0) σ2 11 from (by first | exact Cn_F (fun j => (tw_ne1 eσ2 (by (first | decide | omega)))) i1 | exact __1)) (show Cn 17 (fun _ => 1) σ2 41 from (by first | exact Cn_F (fun j => (tw_ne1 eσ2 (by (first | decide | omega)))) i2 | exact __2)) (show Cn 18 (fun _ => 0) σ2 41 from (by first | exact Cn_F (fun j => (tw_ne1 eσ2 (by (first | decide | omega)))) i3 | exact __3)) (show Cn 19 (fun _ => 0) σ2 41 from (by first | exact Cn_F (fun j => (tw_ne1 eσ2 (by (first | decide | omega)))) i4 | exact __4)) (show Cn 20 (fun _ => 0) σ2 41 from (by first | exact Cn_F (fun j => (tw_ne1 eσ2 (by (first | decide | omega)))) i5 | exact __5)) (show Cn 21 (fun _ => 5) σ2 41 from (by first | exact Cn_F (fun j => (tw_ne1 eσ2 (by (first | decide | omega)))) i6 | exact __6)) (show Cn 12 (fun _ => 0) σ2 (i + 1) from (by first | exact Cn_up eσ2 (by omega) i7 rfl (by omega) | exact Cn_0)) (show (500 - (i + 1)).toNat < N_ from by omega)
    · intro i hi τ hIτ hFτ i0 i1 i2 i3 i4 i5 i6 i7 i8 hm
      refine j_iload_n (pc := 30) dX9_begin_30 rfl rfl ?_
      refine j_bipush (pc := 31) dX9_begin_31 rfl ?_
      refine j_icmpR_gt (pc := 33) (tgt := 49) ⟨by omega, by omega⟩ ⟨by omega, by omega⟩ dX9_begin_33 rfl (fun h3 => ?_) (fun h3 => ?_)
      · refine j_aload_n (pc := 49) dX9_begin_49 rfl rfl ?_
        refine j_iconst (pc := 50) dX9_begin_50 ?_
        refine j_putI (pc := 51) fl_X9_66 fp_X9_3 dX9_begin_51 (a_10 hX) rfl (j_nm (fun σ4 (eσ4 : σ4 = tw_up τ 10 3 0) => ?_))
        have hIσ4 : tw_I σ4 := tw_I_up hIτ eσ4 (show (-2147483648 : Int) ≤ 0 ∧ 0 ≤ 2147483647 from by decide)
        have hFσ4 : tw_F (fun c j => (c = 10 ∧ (j = 3 ∨ j = 4 ∨ j = 5 ∨ j = 11 ∨ j = 12 ∨ j = 13)) ∨ (12 ≤ c ∧ c < 14) ∨ (14 ≤ c ∧ c < 23)) σ σ4 := tw_F_up hFτ eσ4 (show (10 = 10 ∧ (3 = 3 ∨ 3 = 4 ∨ 3 = 5 ∨ 3 = 11 ∨ 3 = 12 ∨ 3 = 13)) ∨ (12 ≤ 10 ∧ 10 < 14) ∨ (14 ≤ 10 ∧ 10 < 23) from (Or.inl ⟨rfl, (Or.inl rfl)⟩))
        refine j_aload_n (pc := 54) dX9_begin_54 rfl rfl ?_
        refine j_iconst (pc := 55) dX9_begin_55 ?_
        refine j_putI (pc := 56) fl_X9_54 fp_X9_4 dX9_begin_56 (a_10 hX) rfl (j_nm (fun σ5 (eσ5 : σ5 = tw_up σ4 10 4 0) => ?_))
        have hIσ5 : tw_I σ5 := tw_I_up hIσ4 eσ5 (show (0 : Int) ≤ 0 ∧ 0 ≤ 40 from by decide)
        have hFσ5 : tw_F (fun c j => (c = 10 ∧ (j = 3 ∨ j = 4 ∨ j = 5 ∨ j = 11 ∨ j = 12 ∨ j = 13)) ∨ (12 ≤ c ∧ c < 14) ∨ (14 ≤ c ∧ c < 23)) σ σ5 := tw_F_up hFσ4 eσ5 (show (10 = 10 ∧ (4 = 3 ∨ 4 = 4 ∨ 4 = 5 ∨ 4 = 11 ∨ 4 = 12 ∨ 4 = 13)) ∨ (12 ≤ 10 ∧ 10 < 14) ∨ (14 ≤ 10 ∧ 10 < 23) from (Or.inl ⟨rfl, (Or.inr (Or.inl rfl))⟩))
        refine j_aload_n (pc := 59) dX9_begin_59 rfl rfl ?_
        refine j_iconst (pc := 60) dX9_begin_60 ?_
        refine j_putI (pc := 61) fl_X9_69 fp_X9_5 dX9_begin_61 (a_10 hX) rfl (j_nm (fun σ6 (eσ6 : σ6 = tw_up σ5 10 5 0) => ?_))
        have hIσ6 : tw_I σ6 := tw_I_up hIσ5 eσ6 (show (0 : Int) ≤ 0 ∧ 0 ≤ 400 from by decide)
        have hFσ6 : tw_F (fun c j => (c = 10 ∧ (j = 3 ∨ j = 4 ∨ j = 5 ∨ j = 11 ∨ j = 12 ∨ j = 13)) ∨ (12 ≤ c ∧ c < 14) ∨ (14 ≤ c ∧ c < 23)) σ σ6 := tw_F_up hFσ5 eσ6 (show (10 = 10 ∧ (5 = 3 ∨ 5 = 4 ∨ 5 = 5 ∨ 5 = 11 ∨ 5 = 12 ∨ 5 = 13)) ∨ (12 ≤ 10 ∧ 10 < 14) ∨ (14 ≤ 10 ∧ 10 < 23) from (Or.inl ⟨rfl, (Or.inr (Or.inr (Or.inl rfl)))⟩))
        refine j_aload_n (pc := 64) dX9_begin_64 rfl rfl ?_
        refine j_iconst (pc := 65) dX9_begin_65 ?_
        refine j_putI (pc := 66) fl_X9_33 fp_X9_11 dX9_begin_66 (a_10 hX) rfl (j_nm (fun σ7 (eσ7 : σ7 = tw_up σ6 10 11 0) => ?_))
        have hIσ7 : tw_I σ7 := tw_I_up hIσ6 eσ7 (show (0 : Int) ≤ 0 ∧ 0 ≤ 5 from by decide)
        have hFσ7 : tw_F (fun c j => (c = 10 ∧ (j = 3 ∨ j = 4 ∨ j = 5 ∨ j = 11 ∨ j = 12 ∨ j = 13)) ∨ (12 ≤ c ∧ c < 14) ∨ (14 ≤ c ∧ c < 23)) σ σ7 := tw_F_up hFσ6 eσ7 (show (10 = 10 ∧ (11 = 3 ∨ 11 = 4 ∨ 11 = 5 ∨ 11 = 11 ∨ 11 = 12 ∨ 11 = 13)) ∨ (12 ≤ 10 ∧ 10 < 14) ∨ (14 ≤ 10 ∧ 10 < 23) from (Or.inl ⟨rfl, (Or.inr (Or.inr (Or.inr (Or.inl rfl))))⟩))
        refine j_aload_n (pc := 69) dX9_begin_69 rfl rfl ?_
        refine j_iconst (pc := 70) dX9_begin_70 ?_
        refine j_putI (pc := 71) fl_X9_36 fp_X9_12 dX9_begin_71 (a_10 hX) rfl (j_nm (fun σ8 (eσ8 : σ8 = tw_up σ7 10 12 0) => ?_))
        have hIσ8 : tw_I σ8 := tw_I_up hIσ7 eσ8 (show (0 : Int) ≤ 0 ∧ 0 ≤ 400 from by decide)
        have hFσ8 : tw_F (fun c j => (c = 10 ∧ (j = 3 ∨ j = 4 ∨ j = 5 ∨ j = 11 ∨ j = 12 ∨ j = 13)) ∨ (12 ≤ c ∧ c < 14) ∨ (14 ≤ c ∧ c < 23)) σ σ8 := tw_F_up hFσ7 eσ8 (show (10 = 10 ∧ (12 = 3 ∨ 12 = 4 ∨ 12 = 5 ∨ 12 = 11 ∨ 12 = 12 ∨ 12 = 13)) ∨ (12 ≤ 10 ∧ 10 < 14) ∨ (14 ≤ 10 ∧ 10 < 23) from (Or.inl ⟨rfl, (Or.inr (Or.inr (Or.inr (Or.inr (Or.inl rfl)))))⟩))
        refine j_aload_n (pc := 74) dX9_begin_74 rfl rfl ?_
        refine j_iconst (pc := 75) dX9_begin_75 ?_
        refine j_putI (pc := 76) fl_X9_39 fp_X9_13 dX9_begin_76 (a_10 hX) rfl (j_nm (fun σ9 (eσ9 : σ9 = tw_up σ8 10 13 0) => ?_))
        have hIσ9 : tw_I σ9 := tw_I_up hIσ8 eσ9 (show (0 : Int) ≤ 0 ∧ 0 ≤ 400 from by decide)
        have hFσ9 : tw_F (fun c j => (c = 10 ∧ (j = 3 ∨ j = 4 ∨ j = 5 ∨ j = 11 ∨ j = 12 ∨ j = 13)) ∨ (12 ≤ c ∧ c < 14) ∨ (14 ≤ c ∧ c < 23)) σ σ9 := tw_F_up hFσ8 eσ9 (show (10 = 10 ∧ (13 = 3 ∨ 13 = 4 ∨ 13 = 5 ∨ 13 = 11 ∨ 13 = 12 ∨ 13 = 13)) ∨ (12 ≤ 10 ∧ 10 < 14) ∨ (14 ≤ 10 ∧ 10 < 23) from (Or.inl ⟨rfl, (Or.inr (Or.inr (Or.inr (Or.inr (Or.inr rfl)))))⟩))
        have y10 : σ9 10 3 = 0 := ((((((tw_ne1 eσ9 (by (first | decide | omega)))).trans (tw_ne1 eσ8 (by (first | decide | omega)))).trans (tw_ne1 eσ7 (by (first | decide | omega)))).trans (tw_ne1 eσ6 (by (first | decide | omega)))).trans (tw_ne1 eσ5 (by (first | decide | omega)))).trans (tw_eq1 eσ4)
        have y11 : σ9 10 4 = 0 := (((((tw_ne1 eσ9 (by (first | decide | omega)))).trans (tw_ne1 eσ8 (by (first | decide | omega)))).trans (tw_ne1 eσ7 (by (first | decide | omega)))).trans (tw_ne1 eσ6 (by (first | decide | omega)))).trans (tw_eq1 eσ5)
        have y12 : σ9 10 5 = 0 := ((((tw_ne1 eσ9 (by (first | decide | omega)))).trans (tw_ne1 eσ8 (by (first | decide | omega)))).trans (tw_ne1 eσ7 (by (first | decide | omega)))).trans (tw_eq1 eσ6)
        have y13 : σ9 10 11 = 0 := (((tw_ne1 eσ9 (by (first | decide | omega)))).trans (tw_ne1 eσ8 (by (first | decide | omega)))).trans (tw_eq1 eσ7)
        have y14 : σ9 10 12 = 0 := ((tw_ne1 eσ9 (by (first | decide | omega)))).trans (tw_eq1 eσ8)
        have y15 : σ9 10 13 = 0 := (tw_eq1 eσ9)
        exact j_vret (pc := 79) ⟨rfl, rfl⟩ dX9_begin_79 rfl ⟨rfl, hIσ9, hFσ9, by omega, by omega, by omega, by omega, by omega, by omega, (drX_D0 (by omega) (by omega) (Cn_F (fun j => ((((((tw_ne1 eσ9 (by (first | decide | omega)))).trans (tw_ne1 eσ8 (by (first | decide | omega)))).trans (tw_ne1 eσ7 (by (first | decide | omega)))).trans (tw_ne1 eσ6 (by (first | decide | omega)))).trans (tw_ne1 eσ5 (by (first | decide | omega)))).trans (tw_ne1 eσ4 (by (first | decide | omega)))) i0) (Cn_F (fun j => ((((((tw_ne1 eσ9 (by (first | decide | omega)))).trans (tw_ne1 eσ8 (by (first | decide | omega)))).trans (tw_ne1 eσ7 (by (first | decide | omega)))).trans (tw_ne1 eσ6 (by (first | decide | omega)))).trans (tw_ne1 eσ5 (by (first | decide | omega)))).trans (tw_ne1 eσ4 (by (first | decide | omega)))) i1) (Cn_F (fun j => ((((((tw_ne1 eσ9 (by (first | decide | omega)))).trans (tw_ne1 eσ8 (by (first | decide | omega)))).trans (tw_ne1 eσ7 (by (first | decide | omega)))).trans (tw_ne1 eσ6 (by (first | decide | omega)))).trans (tw_ne1 eσ5 (by (first | decide | omega)))).trans (tw_ne1 eσ4 (by (first | decide | omega)))) i2) (Cn_F (fun j => ((((((tw_ne1 eσ9 (by (first | decide | omega)))).trans (tw_ne1 eσ8 (by (first | decide | omega)))).trans (tw_ne1 eσ7 (by (first | decide | omega)))).trans (tw_ne1 eσ6 (by (first | decide | omega)))).trans (tw_ne1 eσ5 (by (first | decide | omega)))).trans (tw_ne1 eσ4 (by (first | decide | omega)))) i3) (Cn_F (fun j => ((((((tw_ne1 eσ9 (by (first | decide | omega)))).trans (tw_ne1 eσ8 (by (first | decide | omega)))).trans (tw_ne1 eσ7 (by (first | decide | omega)))).trans (tw_ne1 eσ6 (by (first | decide | omega)))).trans (tw_ne1 eσ5 (by (first | decide | omega)))).trans (tw_ne1 eσ4 (by (first | decide | omega)))) i4) (Cn_F (fun j => ((((((tw_ne1 eσ9 (by (first | decide | omega)))).trans (tw_ne1 eσ8 (by (first | decide | omega)))).trans (tw_ne1 eσ7 (by (first | decide | omega)))).trans (tw_ne1 eσ6 (by (first | decide | omega)))).trans (tw_ne1 eσ5 (by (first | decide | omega)))).trans (tw_ne1 eσ4 (by (first | decide | omega)))) i5) (Cn_F (fun j => ((((((tw_ne1 eσ9 (by (first | decide | omega)))).trans (tw_ne1 eσ8 (by (first | decide | omega)))).trans (tw_ne1 eσ7 (by (first | decide | omega)))).trans (tw_ne1 eσ6 (by (first | decide | omega)))).trans (tw_ne1 eσ5 (by (first | decide | omega)))).trans (tw_ne1 eσ4 (by (first | decide | omega)))) i6) (Cn_F (fun j => ((((((tw_ne1 eσ9 (by (first | decide | omega)))).trans (tw_ne1 eσ8 (by (first | decide | omega)))).trans (tw_ne1 eσ7 (by (first | decide | omega)))).trans (tw_ne1 eσ6 (by (first | decide | omega)))).trans (tw_ne1 eσ5 (by (first | decide | omega)))).trans (tw_ne1 eσ4 (by (first | decide | omega)))) i7) (by rw [show (11 : Int) = i from by omega]; exact Cn_F (fun j => ((((((tw_ne1 eσ9 (by (first | decide | omega)))).trans (tw_ne1 eσ8 (by (first | decide | omega)))).trans (tw_ne1 eσ7 (by (first | decide | omega)))).trans (tw_ne1 eσ6 (by (first | decide | omega)))).trans (tw_ne1 eσ5 (by (first | decide | omega)))).trans (tw_ne1 eσ4 (by (first | decide | omega)))) i8))⟩
      · refine j_aload_n (pc := 36) dX9_begin_36 rfl rfl ?_
        refine j_getR (pc := 37) (r := 13) fl_X9_19 dX9_begin_37 (a_10 hX) rfl ?_
        refine j_iload_n (pc := 40) dX9_begin_40 rfl rfl ?_
        refine j_iconst (pc := 41) dX9_begin_41 ?_
        refine j_zast (pc := 42) (by omega) dX9_begin_42 (a_13 hX) (by omega) (by omega) (by decide) (j_nm (fun σ16 (eσ16 : σ16 = tw_up τ 13 (i.toNat) 0) => ?_))
        have hIσ16 : tw_I σ16 := tw_I_up hIτ eσ16 (show (0 : Int) ≤ 0 ∧ 0 ≤ 1 from by decide)
        have hFσ16 : tw_F (fun c j => (c = 10 ∧ (j = 3 ∨ j = 4 ∨ j = 5 ∨ j = 11 ∨ j = 12 ∨ j = 13)) ∨ (12 ≤ c ∧ c < 14) ∨ (14 ≤ c ∧ c < 23)) σ σ16 := tw_F_up hFτ eσ16 (show (13 = 10 ∧ (i.toNat = 3 ∨ i.toNat = 4 ∨ i.toNat = 5 ∨ i.toNat = 11 ∨ i.toNat = 12 ∨ i.toNat = 13)) ∨ (12 ≤ 13 ∧ 13 < 14) ∨ (14 ≤ 13 ∧ 13 < 23) from (Or.inr (Or.inl (by decide))))
        refine j_iinc (pc := 43) (i := 1) (n := 1) (ls' := [(0, vR 10), (1, vI (i + 1))]) [1, 0] dX9_begin_43 rfl (Nat.le_of_ble_eq_true rfl) rfl rfl ?_
        refine j_goto (pc := 46) (tgt := 30) dX9_begin_46 rfl ?_
        refine j_ls (ls' := [(0, vR 10), (1, vI (i + 1))]) [0, 1] rfl ?_
        exact ih.2 (i + 1) ⟨by omega, by omega⟩ σ16 hIσ16 hFσ16 (show Cn 15 (fun j => (tw_first.getD j 0).toInt) σ16 9 from (by first | exact Cn_F (fun j => (tw_ne1 eσ16 (by (first | decide | omega)))) i0 | exact __0)) (show Cn 16 (fun _ => 0) σ16 11 from (by first | exact Cn_F (fun j => (tw_ne1 eσ16 (by (first | decide | omega)))) i1 | exact __1)) (show Cn 17 (fun _ => 1) σ16 41 from (by first | exact Cn_F (fun j => (tw_ne1 eσ16 (by (first | decide | omega)))) i2 | exact __2)) (show Cn 18 (fun _ => 0) σ16 41 from (by first | exact Cn_F (fun j => (tw_ne1 eσ16 (by (first | decide | omega)))) i3 | exact __3)) (show Cn 19 (fun _ => 0) σ16 41 from (by first | exact Cn_F (fun j => (tw_ne1 eσ16 (by (first | decide | omega)))) i4 | exact __4)) (show Cn 20 (fun _ => 0) σ16 41 from (by first | exact Cn_F (fun j => (tw_ne1 eσ16 (by (first | decide | omega)))) i5 | exact __5)) (show Cn 21 (fun _ => 5) σ16 41 from (by first | exact Cn_F (fun j => (tw_ne1 eσ16 (by (first | decide | omega)))) i6 | exact __6)) (show Cn 12 (fun _ => 0) σ16 41 from (by first | exact Cn_F (fun j => (tw_ne1 eσ16 (by (first | decide | omega)))) i7 | (rw [show (41 : Int) = i from by omega]; exact i7))) (show Cn 13 (fun _ => 0) σ16 (i + 1) from (by first | exact Cn_up eσ16 (by omega) i8 rfl (by omega) | exact Cn_0)) (show (100 - (i + 1)).toNat < N_ from by omega)
set_option maxHeartbeats 4000000 in
set_option maxRecDepth 100000 in
theorem c_X9_begin {G : tw_G} (hX : tw_isX G) (σ : tw_M) (hI : tw_I σ) : tw_C G yX9_begin cX9_begin 2 none 1 [vR 10] σ (q_X9_begin σ) := by
  refine tw_met [(0, vR 10)] (by decide +kernel) rfl (Nat.le_of_ble_eq_true rfl) ?_
  refine j_aload_n (pc := 0) dX9_begin_0 rfl rfl ?_
  refine j_getR (pc := 1) (r := 14) fl_X9_25 dX9_begin_1 (a_10 hX) rfl ?_
  refine j_callV (pc := 4) (As := []) (st := []) (c_X10_begin 14 (s_Wall_14 hX) σ hI) mv_X9_65 rfl rfl rfl (a_14 hX) dX9_begin_4 ⟨Nat.le_of_ble_eq_true rfl, Nat.le_of_ble_eq_true rfl⟩ ⟨Nat.le_refl _, Nat.le_refl _⟩ rfl (Nat.le_of_ble_eq_true rfl) rfl (fun z17 σ18 hz17 => ?_)
  obtain ⟨rfl, hIσ18, hGσ18, q19_0, q19_1, q19_2, q19_3, q19_4, q19_5, q19_6⟩ := hz17
  replace q19_0 : Cn 15 (fun j => (tw_first.getD j 0).toInt) σ18 9 := q19_0
  replace q19_1 : Cn 16 (fun _ => 0) σ18 11 := q19_1
  replace q19_2 : Cn 17 (fun _ => 1) σ18 41 := q19_2
  replace q19_3 : Cn 18 (fun _ => 0) σ18 41 := q19_3
  replace q19_4 : Cn 19 (fun _ => 0) σ18 41 := q19_4
  replace q19_5 : Cn 20 (fun _ => 0) σ18 41 := q19_5
  replace q19_6 : Cn 21 (fun _ => 5) σ18 41 := q19_6
  have hFσ18 : tw_F (fun c j => (c = 10 ∧ (j = 3 ∨ j = 4 ∨ j = 5 ∨ j = 11 ∨ j = 12 ∨ j = 13)) ∨ (12 ≤ c ∧ c < 14) ∨ (14 ≤ c ∧ c < 23)) σ σ18 := tw_F_tr (tw_F_rf) hGσ18 (fun c j q => (show (c = 10 ∧ (j = 3 ∨ j = 4 ∨ j = 5 ∨ j = 11 ∨ j = 12 ∨ j = 13)) ∨ (12 ≤ c ∧ c < 14) ∨ (14 ≤ c ∧ c < 23) from by replace q : (15 ≤ c ∧ c < 23) := q; exact (Or.inr (Or.inr ⟨Nat.le_trans (by decide) q.1, Nat.lt_of_lt_of_le q.2 (by decide)⟩))))
  refine j_st (st' := []) rfl ?_
  refine j_iconst (pc := 7) dX9_begin_7 ?_
  refine j_istore_n (pc := 8) (i := 1) (ls' := [(0, vR 10), (1, vI 0)]) [1, 0] dX9_begin_8 rfl (Nat.le_of_ble_eq_true rfl) rfl rfl ?_
  refine j_ls (ls' := [(0, vR 10), (1, vI 0)]) [0, 1] rfl ?_
  exact (l_X9_begin hX σ hI (((500 - (0 : Int)).toNat) + 1)).1 0 (by (first | decide | exact ⟨by omega, by omega⟩)) σ18 hIσ18 hFσ18 (show Cn 15 (fun j => (tw_first.getD j 0).toInt) σ18 9 from (by first | exact Cn_F (fun j => rfl) i0 | exact q19_0)) (show Cn 16 (fun _ => 0) σ18 11 from (by first | exact Cn_F (fun j => rfl) i1 | exact q19_1)) (show Cn 17 (fun _ => 1) σ18 41 from (by first | exact Cn_F (fun j => rfl) i2 | exact q19_2)) (show Cn 18 (fun _ => 0) σ18 41 from (by first | exact Cn_F (fun j => rfl) i3 | exact q19_3)) (show Cn 19 (fun _ => 0) σ18 41 from (by first | exact Cn_F (fun j => rfl) i4 | exact q19_4)) (show Cn 20 (fun _ => 0) σ18 41 from (by first | exact Cn_F (fun j => rfl) i5 | exact q19_5)) (show Cn 21 (fun _ => 5) σ18 41 from (by first | exact Cn_F (fun j => rfl) i6 | exact q19_6)) (show Cn 12 (fun _ => 0) σ18 (0 : Int) from (by first | exact Cn_up _ (by omega) i7 rfl (by omega) | exact Cn_0)) (Nat.lt_succ_self _)
abbrev q_X9_byteAt (i : Int) (σ : tw_M) : Option tw_V → tw_M → Prop := fun z τ => ∃ r : Int, z = some (vI r) ∧ (-1 ≤ r ∧ r ≤ 255) ∧ σ = τ ∧ ((¬ (0 ≤ i ∧ i < σ 10 10 ∧ i < 400) ∧ r = -1) ∨ (0 ≤ i ∧ i < σ 10 10 ∧ i < 400 ∧ 0 ≤ r ∧ r = tw_and (σ 11 i.toNat) 255)) ∧ (r = fX σ i)
set_option maxHeartbeats 4000000 in
set_option maxRecDepth 100000 in
theorem c_X9_byteAt {G : tw_G} (hX : tw_isX G) (i : Int) (hi : -2147483648 ≤ i ∧ i ≤ 2147483647) (σ : tw_M) (hI : tw_I σ) : tw_C G yX9_byteAt cX9_byteAt 2 (some .int) 0 [vR 10, vI i] σ (q_X9_byteAt i σ) := by
  refine tw_met [(0, vR 10), (1, vI i)] (by decide +kernel) rfl (Nat.le_of_ble_eq_true rfl) ?_
  refine j_iload_n (pc := 0) dX9_byteAt_0 rfl rfl ?_
  refine j_ifR_lt (pc := 1) (tgt := 32) ⟨by omega, by omega⟩ dX9_byteAt_1 rfl (fun h1 => ?_) (fun h1 => ?_)
  · refine j_iconst (pc := 32) dX9_byteAt_32 ?_
    exact j_iret (pc := 33) ⟨rfl, rfl⟩ dX9_byteAt_33 rfl ⟨_, rfl, ⟨by omega, by omega⟩, rfl, by omega, (by have f10 : (0 : Int) ≤ σ 10 10 ∧ σ 10 10 ≤ 400 := hI 10 10; first | exact (fX_no (by omega)).symm | exact Eq.trans (by omega) (fX_at ⟨by omega, by omega⟩).symm)⟩
  · refine j_iload_n (pc := 4) dX9_byteAt_4 rfl rfl ?_
    refine j_aload_n (pc := 5) dX9_byteAt_5 rfl rfl ?_
    refine j_getI (pc := 6) fl_X9_29 dX9_byteAt_6 (a_10 hX) rfl ?_
    have f2 : (0 : Int) ≤ σ 10 10 ∧ σ 10 10 ≤ 400 := hI 10 10
    refine j_icmpR_ge (pc := 9) (tgt := 32) ⟨by omega, by omega⟩ ⟨by omega, by omega⟩ dX9_byteAt_9 rfl (fun h3 => ?_) (fun h3 => ?_)
    · refine j_iconst (pc := 32) dX9_byteAt_32 ?_
      exact j_iret (pc := 33) ⟨rfl, rfl⟩ dX9_byteAt_33 rfl ⟨_, rfl, ⟨by omega, by omega⟩, rfl, by omega, (by have f10 : (0 : Int) ≤ σ 10 10 ∧ σ 10 10 ≤ 400 := hI 10 10; first | exact (fX_no (by omega)).symm | exact Eq.trans (by omega) (fX_at ⟨by omega, by omega⟩).symm)⟩
    · refine j_iload_n (pc := 12) dX9_byteAt_12 rfl rfl ?_
      refine j_sipush (pc := 13) dX9_byteAt_13 rfl ?_
      refine j_icmpR_ge (pc := 16) (tgt := 32) ⟨by omega, by omega⟩ ⟨by omega, by omega⟩ dX9_byteAt_16 rfl (fun h4 => by exfalso; omega) (fun h4 => ?_)
      refine j_aload_n (pc := 19) dX9_byteAt_19 rfl rfl ?_
      refine j_getR (pc := 20) (r := 11) fl_X9_9 dX9_byteAt_20 (a_10 hX) rfl ?_
      refine j_iload_n (pc := 23) dX9_byteAt_23 rfl rfl ?_
      refine j_bald (pc := 24) dX9_byteAt_24 (a_11 hX) (by omega) (by omega) (by decide) ?_
      have f5 : (-128 : Int) ≤ σ 11 (i.toNat) ∧ σ 11 (i.toNat) ≤ 127 := hI 11 (i.toNat)
      refine j_sipush (pc := 25) dX9_byteAt_25 rfl ?_
      refine j_iand (pc := 28) dX9_byteAt_28 (fun z6 ez6 => ?_)
      have hz6 : (-2147483648 : Int) ≤ z6 ∧ z6 ≤ 2147483647 := by rw [ez6]; exact and_in _ _
      have gz6 : (0 : Int) ≤ z6 ∧ z6 ≤ 255 := by rw [ez6]; exact and255
      refine j_goto (pc := 29) (tgt := 33) dX9_byteAt_29 rfl ?_
      exact j_iret (pc := 33) ⟨rfl, rfl⟩ dX9_byteAt_33 rfl ⟨_, rfl, ⟨by omega, by omega⟩, rfl, by omega, (by have f10 : (0 : Int) ≤ σ 10 10 ∧ σ 10 10 ≤ 400 := hI 10 10; first | exact (fX_no (by omega)).symm | exact Eq.trans (by omega) (fX_at ⟨by omega, by omega⟩).symm)⟩
abbrev q_X9_isLetter (s : Int) (σ : tw_M) : Option tw_V → tw_M → Prop := fun z τ => ∃ r : Int, z = some (vI r) ∧ (0 ≤ r ∧ r ≤ 1) ∧ σ = τ ∧ ((r = 1 ∧ 97 ≤ s ∧ s ≤ 122) ∨ (r = 0 ∧ ¬ (97 ≤ s ∧ s ≤ 122)))
set_option maxHeartbeats 4000000 in
set_option maxRecDepth 100000 in
theorem c_X9_isLetter {G : tw_G} (s : Int) (hs : -2147483648 ≤ s ∧ s ≤ 2147483647) (σ : tw_M) (hI : tw_I σ) : tw_C G yX9_isLetter cX9_isLetter 1 (some .boolean) 0 [vI s] σ (q_X9_isLetter s σ) := by
  refine tw_met [(0, vI s)] (by decide +kernel) rfl (Nat.le_of_ble_eq_true rfl) ?_
  refine j_iload_n (pc := 0) dX9_isLetter_0 rfl rfl ?_
  refine j_bipush (pc := 1) dX9_isLetter_1 rfl ?_
  refine j_icmpR_lt (pc := 3) (tgt := 16) ⟨by omega, by omega⟩ ⟨by omega, by omega⟩ dX9_isLetter_3 rfl (fun h1 => ?_) (fun h1 => ?_)
  · refine j_iconst (pc := 16) dX9_isLetter_16 ?_
    exact j_zret (pc := 17) ⟨rfl, rfl⟩ dX9_isLetter_17 rfl (nar_bool (by omega) (by omega)) ⟨_, rfl, ⟨by omega, by omega⟩, rfl, by omega⟩
  · refine j_iload_n (pc := 6) dX9_isLetter_6 rfl rfl ?_
    refine j_bipush (pc := 7) dX9_isLetter_7 rfl ?_
    refine j_icmpR_gt (pc := 9) (tgt := 16) ⟨by omega, by omega⟩ ⟨by omega, by omega⟩ dX9_isLetter_9 rfl (fun h2 => ?_) (fun h2 => ?_)
    · refine j_iconst (pc := 16) dX9_isLetter_16 ?_
      exact j_zret (pc := 17) ⟨rfl, rfl⟩ dX9_isLetter_17 rfl (nar_bool (by omega) (by omega)) ⟨_, rfl, ⟨by omega, by omega⟩, rfl, by omega⟩
    · refine j_iconst (pc := 12) dX9_isLetter_12 ?_
      refine j_goto (pc := 13) (tgt := 17) dX9_isLetter_13 rfl ?_
      exact j_zret (pc := 17) ⟨rfl, rfl⟩ dX9_isLetter_17 rfl (nar_bool (by omega) (by omega)) ⟨_, rfl, ⟨by omega, by omega⟩, rfl, by omega⟩
abbrev q_X9_isFigure (s : Int) (σ : tw_M) : Option tw_V → tw_M → Prop := fun z τ => ∃ r : Int, z = some (vI r) ∧ (0 ≤ r ∧ r ≤ 1) ∧ σ = τ ∧ ((r = 1 ∧ 48 ≤ s ∧ s ≤ 57) ∨ (r = 0 ∧ ¬ (48 ≤ s ∧ s ≤ 57)))
set_option maxHeartbeats 4000000 in
set_option maxRecDepth 100000 in
theorem c_X9_isFigure {G : tw_G} (s : Int) (hs : -2147483648 ≤ s ∧ s ≤ 2147483647) (σ : tw_M) (hI : tw_I σ) : tw_C G yX9_isFigure cX9_isFigure 1 (some .boolean) 0 [vI s] σ (q_X9_isFigure s σ) := by
  refine tw_met [(0, vI s)] (by decide +kernel) rfl (Nat.le_of_ble_eq_true rfl) ?_
  refine j_iload_n (pc := 0) dX9_isFigure_0 rfl rfl ?_
  refine j_bipush (pc := 1) dX9_isFigure_1 rfl ?_
  refine j_icmpR_lt (pc := 3) (tgt := 16) ⟨by omega, by omega⟩ ⟨by omega, by omega⟩ dX9_isFigure_3 rfl (fun h1 => ?_) (fun h1 => ?_)
  · refine j_iconst (pc := 16) dX9_isFigure_16 ?_
    exact j_zret (pc := 17) ⟨rfl, rfl⟩ dX9_isFigure_17 rfl (nar_bool (by omega) (by omega)) ⟨_, rfl, ⟨by omega, by omega⟩, rfl, by omega⟩
  · refine j_iload_n (pc := 6) dX9_isFigure_6 rfl rfl ?_
    refine j_bipush (pc := 7) dX9_isFigure_7 rfl ?_
    refine j_icmpR_gt (pc := 9) (tgt := 16) ⟨by omega, by omega⟩ ⟨by omega, by omega⟩ dX9_isFigure_9 rfl (fun h2 => ?_) (fun h2 => ?_)
    · refine j_iconst (pc := 16) dX9_isFigure_16 ?_
      exact j_zret (pc := 17) ⟨rfl, rfl⟩ dX9_isFigure_17 rfl (nar_bool (by omega) (by omega)) ⟨_, rfl, ⟨by omega, by omega⟩, rfl, by omega⟩
    · refine j_iconst (pc := 12) dX9_isFigure_12 ?_
      refine j_goto (pc := 13) (tgt := 17) dX9_isFigure_13 rfl ?_
      exact j_zret (pc := 17) ⟨rfl, rfl⟩ dX9_isFigure_17 rfl (nar_bool (by omega) (by omega)) ⟨_, rfl, ⟨by omega, by omega⟩, rfl, by omega⟩
