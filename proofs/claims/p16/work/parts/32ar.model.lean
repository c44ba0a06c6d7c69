/-! 32ar.model -/
theorem dX12_feed_0 : decode cX12_feed 0 = .ok (.aload_n 0, 1) := by decide +kernel
theorem dX12_feed_1 : decode cX12_feed 1 = .ok (.getfield 86, 3) := by decide +kernel
theorem dX12_feed_4 : decode cX12_feed 4 = .ok (.bipush 8, 2) := by decide +kernel
theorem dX12_feed_6 : decode cX12_feed 6 = .ok (.iadd, 1) := by decide +kernel
theorem dX12_feed_7 : decode cX12_feed 7 = .ok (.sipush 400, 3) := by decide +kernel
theorem dX12_feed_10 : decode cX12_feed 10 = .ok (.if_icmp .le 6, 3) := by decide +kernel
theorem dX12_feed_13 : decode cX12_feed 13 = .ok (.bipush (-3), 2) := by decide +kernel
theorem dX12_feed_15 : decode cX12_feed 15 = .ok (.ireturn, 1) := by decide +kernel
theorem dX12_feed_16 : decode cX12_feed 16 = .ok (.bipush 56, 2) := by decide +kernel
theorem dX12_feed_18 : decode cX12_feed 18 = .ok (.istore_n 3, 1) := by decide +kernel
theorem dX12_feed_19 : decode cX12_feed 19 = .ok (.iload_n 3, 1) := by decide +kernel
theorem dX12_feed_20 : decode cX12_feed 20 = .ok (.ifCond .lt 36, 3) := by decide +kernel
theorem dX12_feed_23 : decode cX12_feed 23 = .ok (.aload_n 0, 1) := by decide +kernel
theorem dX12_feed_24 : decode cX12_feed 24 = .ok (.getfield 38, 3) := by decide +kernel
theorem dX12_feed_27 : decode cX12_feed 27 = .ok (.aload_n 0, 1) := by decide +kernel
theorem dX12_feed_28 : decode cX12_feed 28 = .ok (.getfield 86, 3) := by decide +kernel
theorem dX12_feed_31 : decode cX12_feed 31 = .ok (.lload_n 1, 1) := by decide +kernel
theorem dX12_feed_32 : decode cX12_feed 32 = .ok (.iload_n 3, 1) := by decide +kernel
theorem dX12_feed_33 : decode cX12_feed 33 = .ok (.lshr, 1) := by decide +kernel
theorem dX12_feed_34 : decode cX12_feed 34 = .ok (.ldc2_w 89, 3) := by decide +kernel
theorem dX12_feed_37 : decode cX12_feed 37 = .ok (.land, 1) := by decide +kernel
theorem dX12_feed_38 : decode cX12_feed 38 = .ok (.l2i, 1) := by decide +kernel
theorem dX12_feed_39 : decode cX12_feed 39 = .ok (.iastore, 1) := by decide +kernel
theorem dX12_feed_40 : decode cX12_feed 40 = .ok (.aload_n 0, 1) := by decide +kernel
theorem dX12_feed_41 : decode cX12_feed 41 = .ok (.dup, 1) := by decide +kernel
theorem dX12_feed_42 : decode cX12_feed 42 = .ok (.getfield 86, 3) := by decide +kernel
theorem dX12_feed_45 : decode cX12_feed 45 = .ok (.iconst 1, 1) := by decide +kernel
theorem dX12_feed_46 : decode cX12_feed 46 = .ok (.iadd, 1) := by decide +kernel
theorem dX12_feed_47 : decode cX12_feed 47 = .ok (.putfield 86, 3) := by decide +kernel
theorem dX12_feed_50 : decode cX12_feed 50 = .ok (.iinc 3 (-8), 3) := by decide +kernel
theorem dX12_feed_53 : decode cX12_feed 53 = .ok (.goto (-34), 3) := by decide +kernel
theorem dX12_feed_56 : decode cX12_feed 56 = .ok (.aload_n 0, 1) := by decide +kernel
theorem dX12_feed_57 : decode cX12_feed 57 = .ok (.getfield 86, 3) := by decide +kernel
theorem dX12_feed_60 : decode cX12_feed 60 = .ok (.ireturn, 1) := by decide +kernel
abbrev q_X12_feed (v : Int) (σ : tw_M) : Option tw_V → tw_M → Prop := fun z τ => ∃ r : Int, z = some (vI r) ∧ (-2147483648 ≤ r ∧ r ≤ 2147483647) ∧ tw_I τ ∧ tw_F (fun c j => (c = 88 ∧ (j = 12)) ∨ c = 98) σ τ ∧ ((r = -3 ∧ 392 < σ 88 12 ∧ τ 88 12 = σ 88 12) ∨ (r = σ 88 12 + 8 ∧ σ 88 12 ≤ 392 ∧ τ 88 12 = σ 88 12 + 8)) ∧ (∀ j : Nat, (j : Int) < σ 88 12 → τ 98 j = σ 98 j) ∧ (r = -3 ∨ ∀ k : Nat, (k : Int) < 8 → τ 98 ((σ 88 12).toNat + k) = byt v k)
set_option maxHeartbeats 4000000 in
set_option maxRecDepth 100000 in
theorem l_X12_feed {G : tw_G} (hM : tw_isM G) (v : Int) (hv : -9223372036854775808 ≤ v ∧ v ≤ 9223372036854775807) (σ : tw_M) (hI : tw_I σ) : ∀ N_ : Nat, (∀ (i : Int) (hi : -8 ≤ i ∧ i ≤ 56) (τ : tw_M) (hIτ : tw_I τ) (hFτ : tw_F (fun c j => (c = 88 ∧ (j = 12)) ∨ c = 98) σ τ) (i0 : 8 * τ 88 12 = 8 * σ 88 12 + 56 - i) (i1 : σ 88 12 ≤ 392) (i2 : ∀ j : Nat, (j : Int) < σ 88 12 → τ 98 j = σ 98 j) (i3 : ∀ k : Nat, (k : Int) < τ 88 12 - σ 88 12 → τ 98 ((σ 88 12).toNat + k) = byt v k) (hm : (i + 8).toNat < N_), tw_J G (tw_mt RX12 cX12_feed 4 (some .int) 0) (tw_E G (q_X12_feed v σ)) 19 [(0, vR 88), (1, vL v), (3, vI i)] [] τ) := by
  intro N_
  induction N_ with
  | zero => exact fun i hi τ hIτ hFτ i0 i1 i2 i3 hm => absurd hm (Nat.not_lt_zero _)
  | succ N_ ih =>
    intro i hi τ hIτ hFτ i0 i1 i2 i3 hm
    have f12s : (0 : Int) ≤ σ 88 12 ∧ σ 88 12 ≤ 400 := hI 88 12
    refine j_iload_n (pc := 19) dX12_feed_19 rfl rfl ?_
    refine j_ifR_lt (pc := 20) (tgt := 56) ⟨by omega, by omega⟩ dX12_feed_20 rfl (fun h1 => ?_) (fun h1 => ?_)
    · refine j_aload_n (pc := 56) dX12_feed_56 rfl rfl ?_
      refine j_getI (pc := 57) fl_X12_86 dX12_feed_57 (a_88 hM) rfl ?_
      have f2 : (0 : Int) ≤ τ 88 12 ∧ τ 88 12 ≤ 400 := hIτ 88 12
      exact j_iret (pc := 60) ⟨rfl, rfl⟩ dX12_feed_60 rfl ⟨_, rfl, ⟨by omega, by omega⟩, hIτ, hFτ, by omega, (by first | exact i2 | exact (fun j hj => rfl)), (by first | exact Or.inl rfl | exact Or.inr (fun k hk => i3 k (by omega)))⟩
    · refine j_aload_n (pc := 23) dX12_feed_23 rfl rfl ?_
      refine j_getR (pc := 24) (r := 98) fl_X12_38 dX12_feed_24 (a_88 hM) rfl ?_
      refine j_aload_n (pc := 27) dX12_feed_27 rfl rfl ?_
      refine j_getI (pc := 28) fl_X12_86 dX12_feed_28 (a_88 hM) rfl ?_
      have f3 : (0 : Int) ≤ τ 88 12 ∧ τ 88 12 ≤ 400 := hIτ 88 12
      refine j_lload_n (pc := 31) dX12_feed_31 rfl rfl ?_
      refine j_iload_n (pc := 32) dX12_feed_32 rfl rfl ?_
      refine j_lshr (pc := 33) dX12_feed_33 (fun z4 ez4 => ?_)
      have hz4 : (-9223372036854775808 : Int) ≤ z4 ∧ z4 ≤ 9223372036854775807 := by rw [ez4]; exact lshrL_in _ _
      have x1 := ez4
      refine j_ldc2 (pc := 34) (z := 255) dX12_feed_34 (tw_inc tm_6 (i := 131) rfl rfl) ?_
      refine j_land (pc := 37) dX12_feed_37 (fun z5 ez5 => ?_)
      have hz5 : (-9223372036854775808 : Int) ≤ z5 ∧ z5 ≤ 9223372036854775807 := by rw [ez5]; exact landL_in _ _
      have x2 := ez5; rw [x1] at x2
      refine j_l2i (pc := 38) dX12_feed_38 (fun z6 ez6 => ?_)
      have hz6 : (-2147483648 : Int) ≤ z6 ∧ z6 ≤ 2147483647 := by rw [ez6]; exact l2i_in _
      have x3 := ez6; rw [x2] at x3
      refine j_iast (pc := 39) dX12_feed_39 (a_98 hM) (by omega) (by omega) (by decide) (j_nm (fun σ7 (eσ7 : σ7 = tw_up τ 98 ((τ 88 12).toNat) z6) => ?_))
      have hIσ7 : tw_I σ7 := tw_I_up hIτ eσ7 (show (-2147483648 : Int) ≤ z6 ∧ z6 ≤ 2147483647 from ⟨by omega, by omega⟩)
      have hFσ7 : tw_F (fun c j => (c = 88 ∧ (j = 12)) ∨ c = 98) σ σ7 := tw_F_up hFτ eσ7 (show (98 = 88 ∧ ((τ 88 12).toNat = 12)) ∨ 98 = 98 from (Or.inr rfl))
      refine j_aload_n (pc := 40) dX12_feed_40 rfl rfl ?_
      refine j_dup (pc := 41) dX12_feed_41 rfl ?_
      refine j_getI (pc := 42) fl_X12_86 dX12_feed_42 (a_88 hM) rfl ?_
      refine j_topV (show σ7 88 12 = τ 88 12 from (tw_ne1 eσ7 (by (first | decide | omega)))) ?_
      refine j_iconst (pc := 45) dX12_feed_45 ?_
      refine j_iadd (pc := 46) dX12_feed_46 ?_
      refine j_putI (pc := 47) fl_X12_86 fp_X12_12 dX12_feed_47 (a_88 hM) rfl (j_nm (fun σ8 (eσ8 : σ8 = tw_up σ7 88 12 ((τ 88 12) + 1)) => ?_))
      have hIσ8 : tw_I σ8 := tw_I_up hIσ7 eσ8 (show (0 : Int) ≤ (τ 88 12) + 1 ∧ (τ 88 12) + 1 ≤ 400 from ⟨by omega, by omega⟩)
      have hFσ8 : tw_F (fun c j => (c = 88 ∧ (j = 12)) ∨ c = 98) σ σ8 := tw_F_up hFσ7 eσ8 (show (88 = 88 ∧ (12 = 12)) ∨ 88 = 98 from (Or.inl ⟨rfl, rfl⟩))
      refine j_iinc (pc := 50) (i := 3) (n := -8) (ls' := [(0, vR 88), (1, vL v), (3, vI (i + (-8)))]) [1, 2, 0] dX12_feed_50 rfl (Nat.le_of_ble_eq_true rfl) rfl rfl ?_
      refine j_goto (pc := 53) (tgt := 19) dX12_feed_53 rfl ?_
      refine j_ls (ls' := [(0, vR 88), (1, vL v), (3, vI (i + (-8)))]) [0, 1, 2] rfl ?_
      have y9 : σ8 88 12 = (τ 88 12) + 1 := (tw_eq1 eσ8)
      have y10 : σ8 88 12 = (τ 88 12) + 1 := (tw_eq1 eσ8)
      exact ih (i + (-8)) ⟨by omega, by omega⟩ σ8 hIσ8 hFσ8 (show 8 * σ8 88 12 = 8 * σ 88 12 + 56 - (i + (-8)) from by omega) (show σ 88 12 ≤ 392 from by omega) (show ∀ j : Nat, (j : Int) < σ 88 12 → σ8 98 j = σ 98 j from (fun j hj => by first | rfl | (rw [tw_ne1 eσ8 (by (first | decide | omega)), tw_ne1 eσ7 (by (first | decide | omega))]; exact i2 j hj))) (show ∀ k : Nat, (k : Int) < σ8 88 12 - σ 88 12 → σ8 98 ((σ 88 12).toNat + k) = byt v k from (fun k hk => by first | (exfalso; omega) | (rcases (show (k : Int) < τ 88 12 - σ 88 12 ∨ (k : Int) = τ 88 12 - σ 88 12 by omega) with q | q; (rw [tw_ne1 eσ8 (by (first | decide | omega)), tw_ne1 eσ7 (by (first | decide | omega))]; exact i3 k q); (rw [tw_ne1 eσ8 (by (first | decide | omega)), tw_eq2 eσ7 (by omega), x3]; unfold byt; rw [show (i : Int) = 56 - 8 * (k : Int) from by omega])))) (show ((i + (-8)) + 8).toNat < N_ from by omega)
set_option maxHeartbeats 4000000 in
set_option maxRecDepth 100000 in
theorem c_X12_feed {G : tw_G} (hM : tw_isM G) (v : Int) (hv : -9223372036854775808 ≤ v ∧ v ≤ 9223372036854775807) (σ : tw_M) (hI : tw_I σ) : tw_C G yX12_feed cX12_feed 4 (some .int) 0 [vR 88, vL v] σ (q_X12_feed v σ) := by
  refine tw_met [(0, vR 88), (1, vL v)] (by decide +kernel) rfl (Nat.le_of_ble_eq_true rfl) ?_
  refine j_aload_n (pc := 0) dX12_feed_0 rfl rfl ?_
  refine j_getI (pc := 1) fl_X12_86 dX12_feed_1 (a_88 hM) rfl ?_
  have f11 : (0 : Int) ≤ σ 88 12 ∧ σ 88 12 ≤ 400 := hI 88 12
  refine j_bipush (pc := 4) dX12_feed_4 rfl ?_
  refine j_iadd (pc := 6) dX12_feed_6 ?_
  refine j_sipush (pc := 7) dX12_feed_7 rfl ?_
  refine j_icmpR_le (pc := 10) (tgt := 16) ⟨by omega, by omega⟩ ⟨by omega, by omega⟩ dX12_feed_10 rfl (fun h12 => ?_) (fun h12 => ?_)
  · refine j_bipush (pc := 16) dX12_feed_16 rfl ?_
    refine j_istore_n (pc := 18) (i := 3) (ls' := [(0, vR 88), (1, vL v), (3, vI 56)]) [1, 2, 0] dX12_feed_18 rfl (Nat.le_of_ble_eq_true rfl) rfl rfl ?_
    refine j_ls (ls' := [(0, vR 88), (1, vL v), (3, vI 56)]) [0, 1, 2] rfl ?_
    exact (l_X12_feed hM v hv σ hI ((((56 : Int) + 8).toNat) + 1)) 56 (by (first | decide | exact ⟨by omega, by omega⟩)) σ hI (tw_F_rf) (show 8 * σ 88 12 = 8 * σ 88 12 + 56 - (56 : Int) from by omega) (show σ 88 12 ≤ 392 from by omega) (show ∀ j : Nat, (j : Int) < σ 88 12 → σ 98 j = σ 98 j from (fun j hj => by first | rfl | (rw [tw_ne1 _ (by omega), tw_ne1 _ (by omega)]; exact i2 j hj))) (show ∀ k : Nat, (k : Int) < σ 88 12 - σ 88 12 → σ 98 ((σ 88 12).toNat + k) = byt v k from (fun k hk => by first | (exfalso; omega) | (rcases (show (k : Int) < τ 88 12 - σ 88 12 ∨ (k : Int) = τ 88 12 - σ 88 12 by omega) with q | q; (rw [tw_ne1 _ (by omega), tw_ne1 _ (by omega)]; exact i3 k q); (rw [tw_ne1 _ (by omega), tw_eq2 _ (by omega), x3]; unfold byt; rw [show (i : Int) = 56 - 8 * (k : Int) from by omega])))) (Nat.lt_succ_self _)
  · refine j_bipush (pc := 13) dX12_feed_13 rfl ?_
    exact j_iret (pc := 15) ⟨rfl, rfl⟩ dX12_feed_15 rfl ⟨_, rfl, ⟨by omega, by omega⟩, hI, (tw_F_rf), by omega, (by first | exact i2 | exact (fun j hj => rfl)), (by first | exact Or.inl rfl | exact Or.inr (fun k hk => i3 k (by omega)))⟩
