/-! 19aa.tape -/
theorem dX9_append_0 : decode cX9_append 0 = .ok (.aload_n 0, 1) := by decide +kernel
theorem dX9_append_1 : decode cX9_append 1 = .ok (.getfield 29, 3) := by decide +kernel
theorem dX9_append_4 : decode cX9_append 4 = .ok (.sipush 392, 3) := by decide +kernel
theorem dX9_append_7 : decode cX9_append 7 = .ok (.if_icmp .le 5, 3) := by decide +kernel
theorem dX9_append_10 : decode cX9_append 10 = .ok (.iconst 0, 1) := by decide +kernel
theorem dX9_append_11 : decode cX9_append 11 = .ok (.ireturn, 1) := by decide +kernel
theorem dX9_append_12 : decode cX9_append 12 = .ok (.iconst 0, 1) := by decide +kernel
theorem dX9_append_13 : decode cX9_append 13 = .ok (.istore_n 3, 1) := by decide +kernel
theorem dX9_append_14 : decode cX9_append 14 = .ok (.iload_n 3, 1) := by decide +kernel
theorem dX9_append_15 : decode cX9_append 15 = .ok (.bipush 8, 2) := by decide +kernel
theorem dX9_append_17 : decode cX9_append 17 = .ok (.if_icmp .ge 31, 3) := by decide +kernel
theorem dX9_append_20 : decode cX9_append 20 = .ok (.aload_n 0, 1) := by decide +kernel
theorem dX9_append_21 : decode cX9_append 21 = .ok (.getfield 9, 3) := by decide +kernel
theorem dX9_append_24 : decode cX9_append 24 = .ok (.aload_n 0, 1) := by decide +kernel
theorem dX9_append_25 : decode cX9_append 25 = .ok (.getfield 29, 3) := by decide +kernel
theorem dX9_append_28 : decode cX9_append 28 = .ok (.iload_n 3, 1) := by decide +kernel
theorem dX9_append_29 : decode cX9_append 29 = .ok (.iadd, 1) := by decide +kernel
theorem dX9_append_30 : decode cX9_append 30 = .ok (.lload_n 1, 1) := by decide +kernel
theorem dX9_append_31 : decode cX9_append 31 = .ok (.bipush 56, 2) := by decide +kernel
theorem dX9_append_33 : decode cX9_append 33 = .ok (.bipush 8, 2) := by decide +kernel
theorem dX9_append_35 : decode cX9_append 35 = .ok (.iload_n 3, 1) := by decide +kernel
theorem dX9_append_36 : decode cX9_append 36 = .ok (.imul, 1) := by decide +kernel
theorem dX9_append_37 : decode cX9_append 37 = .ok (.isub, 1) := by decide +kernel
theorem dX9_append_38 : decode cX9_append 38 = .ok (.lushr, 1) := by decide +kernel
theorem dX9_append_39 : decode cX9_append 39 = .ok (.l2i, 1) := by decide +kernel
theorem dX9_append_40 : decode cX9_append 40 = .ok (.i2b, 1) := by decide +kernel
theorem dX9_append_41 : decode cX9_append 41 = .ok (.bastore, 1) := by decide +kernel
theorem dX9_append_42 : decode cX9_append 42 = .ok (.iinc 3 1, 3) := by decide +kernel
theorem dX9_append_45 : decode cX9_append 45 = .ok (.goto (-31), 3) := by decide +kernel
theorem dX9_append_48 : decode cX9_append 48 = .ok (.aload_n 0, 1) := by decide +kernel
theorem dX9_append_49 : decode cX9_append 49 = .ok (.dup, 1) := by decide +kernel
theorem dX9_append_50 : decode cX9_append 50 = .ok (.getfield 29, 3) := by decide +kernel
theorem dX9_append_53 : decode cX9_append 53 = .ok (.bipush 8, 2) := by decide +kernel
theorem dX9_append_55 : decode cX9_append 55 = .ok (.iadd, 1) := by decide +kernel
theorem dX9_append_56 : decode cX9_append 56 = .ok (.putfield 29, 3) := by decide +kernel
theorem dX9_append_59 : decode cX9_append 59 = .ok (.iconst 1, 1) := by decide +kernel
theorem dX9_append_60 : decode cX9_append 60 = .ok (.ireturn, 1) := by decide +kernel
abbrev q_X9_append (v : Int) (σ : tw_M) : Option tw_V → tw_M → Prop := fun z τ => ∃ r : Int, z = some (vI r) ∧ (0 ≤ r ∧ r ≤ 1) ∧ tw_I τ ∧ tw_F (fun c j => (c = 10 ∧ (j = 10)) ∨ c = 11) σ τ ∧ ((r = 0 ∧ 392 < σ 10 10 ∧ τ 10 10 = σ 10 10) ∨ (r = 1 ∧ σ 10 10 ≤ 392 ∧ τ 10 10 = σ 10 10 + 8)) ∧ (∀ j : Nat, (j : Int) < σ 10 10 → τ 11 j = σ 11 j) ∧ (r = 0 ∨ ∀ k : Nat, (k : Int) < 8 → tw_and (τ 11 ((σ 10 10).toNat + k)) 255 = byt v k)
set_option maxHeartbeats 4000000 in
set_option maxRecDepth 100000 in
theorem l_X9_append {G : tw_G} (hX : tw_isX G) (v : Int) (hv : -9223372036854775808 ≤ v ∧ v ≤ 9223372036854775807) (σ : tw_M) (hI : tw_I σ) : ∀ N_ : Nat, (∀ (i : Int) (hi : 0 ≤ i ∧ i ≤ 8) (τ : tw_M) (hIτ : tw_I τ) (hFτ : tw_F (fun c j => (c = 10 ∧ (j = 10)) ∨ c = 11) σ τ) (i0 : τ 10 10 = σ 10 10) (i1 : τ 10 10 ≤ 392) (i2 : ∀ j : Nat, (j : Int) < σ 10 10 → τ 11 j = σ 11 j) (i3 : ∀ k : Nat, (k : Int) < i → tw_and (τ 11 ((σ 10 10).toNat + k)) 255 = byt v k) (hm : (8 - i).toNat < N_), tw_J G (tw_mt RX9 cX9_append 4 (some .boolean) 0) (tw_E G (q_X9_append v σ)) 14 [(0, vR 10), (1, vL v), (3, vI i)] [] τ) := by
  intro N_
  induction N_ with
  | zero => exact fun i hi τ hIτ hFτ i0 i1 i2 i3 hm => absurd hm (Nat.not_lt_zero _)
  | succ N_ ih =>
    intro i hi τ hIτ hFτ i0 i1 i2 i3 hm
    refine j_iload_n (pc := 14) dX9_append_14 rfl rfl ?_
    refine j_bipush (pc := 15) dX9_append_15 rfl ?_
    refine j_icmpR_ge (pc := 17) (tgt := 48) ⟨by omega, by omega⟩ ⟨by omega, by omega⟩ dX9_append_17 rfl (fun h1 => ?_) (fun h1 => ?_)
    · refine j_aload_n (pc := 48) dX9_append_48 rfl rfl ?_
      refine j_dup (pc := 49) dX9_append_49 rfl ?_
      refine j_getI (pc := 50) fl_X9_29 dX9_append_50 (a_10 hX) rfl ?_
      have f2 : (0 : Int) ≤ τ 10 10 ∧ τ 10 10 ≤ 400 := hIτ 10 10
      refine j_bipush (pc := 53) dX9_append_53 rfl ?_
      refine j_iadd (pc := 55) dX9_append_55 ?_
      refine j_putI (pc := 56) fl_X9_29 fp_X9_10 dX9_append_56 (a_10 hX) rfl (j_nm (fun σ3 (eσ3 : σ3 = tw_up τ 10 10 ((τ 10 10) + 8)) => ?_))
      have hIσ3 : tw_I σ3 := tw_I_up hIτ eσ3 (show (0 : Int) ≤ (τ 10 10) + 8 ∧ (τ 10 10) + 8 ≤ 400 from ⟨by omega, by omega⟩)
      have hFσ3 : tw_F (fun c j => (c = 10 ∧ (j = 10)) ∨ c = 11) σ σ3 := tw_F_up hFτ eσ3 (show (10 = 10 ∧ (10 = 10)) ∨ 10 = 11 from (Or.inl ⟨rfl, rfl⟩))
      refine j_iconst (pc := 59) dX9_append_59 ?_
      have y4 : σ3 10 10 = (τ 10 10) + 8 := (tw_eq1 eσ3)
      exact j_zret (pc := 60) ⟨rfl, rfl⟩ dX9_append_60 rfl (nar_bool (by omega) (by omega)) ⟨_, rfl, ⟨by omega, by omega⟩, hIσ3, hFσ3, by omega, (fun j hj => by first | rfl | (rw [show σ3 11 j = τ 11 j from (tw_ne1 eσ3 (by (first | decide | omega)))]; exact i2 j hj)), (by first | exact Or.inl rfl | exact Or.inr (fun k hk => by rw [show σ3 11 ((σ 10 10).toNat + k) = τ 11 ((σ 10 10).toNat + k) from (tw_ne1 eσ3 (by (first | decide | omega)))]; exact i3 k (by omega)))⟩
    · refine j_aload_n (pc := 20) dX9_append_20 rfl rfl ?_
      refine j_getR (pc := 21) (r := 11) fl_X9_9 dX9_append_21 (a_10 hX) rfl ?_
      refine j_aload_n (pc := 24) dX9_append_24 rfl rfl ?_
      refine j_getI (pc := 25) fl_X9_29 dX9_append_25 (a_10 hX) rfl ?_
      have f5 : (0 : Int) ≤ τ 10 10 ∧ τ 10 10 ≤ 400 := hIτ 10 10
      refine j_iload_n (pc := 28) dX9_append_28 rfl rfl ?_
      refine j_iadd (pc := 29) dX9_append_29 ?_
      refine j_lload_n (pc := 30) dX9_append_30 rfl rfl ?_
      refine j_bipush (pc := 31) dX9_append_31 rfl ?_
      refine j_bipush (pc := 33) dX9_append_33 rfl ?_
      refine j_iload_n (pc := 35) dX9_append_35 rfl rfl ?_
      refine j_imul (pc := 36) dX9_append_36 ?_
      refine j_isub (pc := 37) dX9_append_37 ?_
      refine j_lushr (pc := 38) dX9_append_38 (fun z6 ez6 => ?_)
      have hz6 : (-9223372036854775808 : Int) ≤ z6 ∧ z6 ≤ 9223372036854775807 := by rw [ez6]; exact lushrL_in _ _
      have x1 := ez6
      refine j_l2i (pc := 39) dX9_append_39 (fun z7 ez7 => ?_)
      have hz7 : (-2147483648 : Int) ≤ z7 ∧ z7 ≤ 2147483647 := by rw [ez7]; exact l2i_in _
      have x2 := ez7; rw [x1] at x2
      refine j_i2b (pc := 40) dX9_append_40 (fun z8 ez8 => ?_)
      have hz8 : (-128 : Int) ≤ z8 ∧ z8 ≤ 127 := by rw [ez8]; exact i2b_in _
      have x3 := ez8; rw [x2] at x3
      have f9 := i2b_in z8
      refine j_bast (pc := 41) dX9_append_41 (a_11 hX) (by omega) (by omega) (by decide) (j_nm (fun σ10 (eσ10 : σ10 = tw_up τ 11 (((τ 10 10) + i).toNat) (tw_i2b z8)) => ?_))
      have hIσ10 : tw_I σ10 := tw_I_up hIτ eσ10 (show (-128 : Int) ≤ tw_i2b z8 ∧ tw_i2b z8 ≤ 127 from ⟨by omega, by omega⟩)
      have hFσ10 : tw_F (fun c j => (c = 10 ∧ (j = 10)) ∨ c = 11) σ σ10 := tw_F_up hFτ eσ10 (show (11 = 10 ∧ (((τ 10 10) + i).toNat = 10)) ∨ 11 = 11 from (Or.inr rfl))
      refine j_iinc (pc := 42) (i := 3) (n := 1) (ls' := [(0, vR 10), (1, vL v), (3, vI (i + 1))]) [1, 2, 0] dX9_append_42 rfl (Nat.le_of_ble_eq_true rfl) rfl rfl ?_
      refine j_goto (pc := 45) (tgt := 14) dX9_append_45 rfl ?_
      refine j_ls (ls' := [(0, vR 10), (1, vL v), (3, vI (i + 1))]) [0, 1, 2] rfl ?_
      have y11 : σ10 10 10 = τ 10 10 := (tw_ne1 eσ10 (by (first | decide | omega)))
      have y12 : σ10 10 10 = τ 10 10 := (tw_ne1 eσ10 (by (first | decide | omega)))
      exact ih (i + 1) ⟨by omega, by omega⟩ σ10 hIσ10 hFσ10 (show σ10 10 10 = σ 10 10 from by omega) (show σ10 10 10 ≤ 392 from by omega) (show ∀ j : Nat, (j : Int) < σ 10 10 → σ10 11 j = σ 11 j from (fun j hj => by first | rfl | (rw [tw_ne1 eσ10 (by (first | decide | omega))]; exact i2 j hj))) (show ∀ k : Nat, (k : Int) < (i + 1) → tw_and (σ10 11 ((σ 10 10).toNat + k)) 255 = byt v k from (fun k hk => by first | (exfalso; omega) | (rcases (show (k : Int) < i ∨ (k : Int) = i by omega) with q | q; (rw [tw_ne1 eσ10 (by (first | decide | omega))]; exact i3 k q); (rw [tw_eq2 eσ10 (by omega), x3, i2b2, show i = (k : Int) from q.symm]; exact byt_eq (by omega))))) (show (8 - (i + 1)).toNat < N_ from by omega)
set_option maxHeartbeats 4000000 in
set_option maxRecDepth 100000 in
theorem c_X9_append {G : tw_G} (hX : tw_isX G) (v : Int) (hv : -9223372036854775808 ≤ v ∧ v ≤ 9223372036854775807) (σ : tw_M) (hI : tw_I σ) : tw_C G yX9_append cX9_append 4 (some .boolean) 0 [vR 10, vL v] σ (q_X9_append v σ) := by
  refine tw_met [(0, vR 10), (1, vL v)] (by decide +kernel) rfl (Nat.le_of_ble_eq_true rfl) ?_
  refine j_aload_n (pc := 0) dX9_append_0 rfl rfl ?_
  refine j_getI (pc := 1) fl_X9_29 dX9_append_1 (a_10 hX) rfl ?_
  have f13 : (0 : Int) ≤ σ 10 10 ∧ σ 10 10 ≤ 400 := hI 10 10
  refine j_sipush (pc := 4) dX9_append_4 rfl ?_
  refine j_icmpR_le (pc := 7) (tgt := 12) ⟨by omega, by omega⟩ ⟨by omega, by omega⟩ dX9_append_7 rfl (fun h14 => ?_) (fun h14 => ?_)
  · refine j_iconst (pc := 12) dX9_append_12 ?_
    refine j_istore_n (pc := 13) (i := 3) (ls' := [(0, vR 10), (1, vL v), (3, vI 0)]) [1, 2, 0] dX9_append_13 rfl (Nat.le_of_ble_eq_true rfl) rfl rfl ?_
    refine j_ls (ls' := [(0, vR 10), (1, vL v), (3, vI 0)]) [0, 1, 2] rfl ?_
    exact (l_X9_append hX v hv σ hI (((8 - (0 : Int)).toNat) + 1)) 0 (by (first | decide | exact ⟨by omega, by omega⟩)) σ hI (tw_F_rf) (show σ 10 10 = σ 10 10 from by omega) (show σ 10 10 ≤ 392 from by omega) (show ∀ j : Nat, (j : Int) < σ 10 10 → σ 11 j = σ 11 j from (fun j hj => by first | rfl | (rw [tw_ne1 _ (by omega)]; exact i2 j hj))) (show ∀ k : Nat, (k : Int) < (0 : Int) → tw_and (σ 11 ((σ 10 10).toNat + k)) 255 = byt v k from (fun k hk => by first | (exfalso; omega) | (rcases (show (k : Int) < i ∨ (k : Int) = i by omega) with q | q; (rw [tw_ne1 _ (by omega)]; exact i3 k q); (rw [tw_eq2 _ (by omega), x3, i2b2, show i = (k : Int) from q.symm]; exact byt_eq (by omega))))) (Nat.lt_succ_self _)
  · refine j_iconst (pc := 10) dX9_append_10 ?_
    exact j_zret (pc := 11) ⟨rfl, rfl⟩ dX9_append_11 rfl (nar_bool (by omega) (by omega)) ⟨_, rfl, ⟨by omega, by omega⟩, hI, (tw_F_rf), by omega, (fun j hj => by first | rfl | (rw [show σ 11 j = τ 11 j from rfl]; exact i2 j hj)), (by first | exact Or.inl rfl | exact Or.inr (fun k hk => by rw [show σ 11 ((σ 10 10).toNat + k) = τ 11 ((σ 10 10).toNat + k) from rfl]; exact i3 k (by omega)))⟩
