/-! 32an.model -/
theorem dX12_sheet_0 : decode cX12_sheet 0 = .ok (.iload_n 1, 1) := by decide +kernel
theorem dX12_sheet_1 : decode cX12_sheet 1 = .ok (.iload_n 2, 1) := by decide +kernel
theorem dX12_sheet_2 : decode cX12_sheet 2 = .ok (.invokestatic 377, 3) := by decide +kernel
theorem dX12_sheet_5 : decode cX12_sheet 5 = .ok (.ifCond .eq 9, 3) := by decide +kernel
theorem dX12_sheet_8 : decode cX12_sheet 8 = .ok (.iload_n 3, 1) := by decide +kernel
theorem dX12_sheet_9 : decode cX12_sheet 9 = .ok (.bipush 40, 2) := by decide +kernel
theorem dX12_sheet_11 : decode cX12_sheet 11 = .ok (.if_icmp .le 5, 3) := by decide +kernel
theorem dX12_sheet_14 : decode cX12_sheet 14 = .ok (.iconst (-1), 1) := by decide +kernel
theorem dX12_sheet_15 : decode cX12_sheet 15 = .ok (.ireturn, 1) := by decide +kernel
theorem dX12_sheet_16 : decode cX12_sheet 16 = .ok (.iload_n 3, 1) := by decide +kernel
theorem dX12_sheet_17 : decode cX12_sheet 17 = .ok (.ifCond .ge 6, 3) := by decide +kernel
theorem dX12_sheet_20 : decode cX12_sheet 20 = .ok (.bipush (-14), 2) := by decide +kernel
theorem dX12_sheet_22 : decode cX12_sheet 22 = .ok (.ireturn, 1) := by decide +kernel
theorem dX12_sheet_23 : decode cX12_sheet 23 = .ok (.aload_n 0, 1) := by decide +kernel
theorem dX12_sheet_24 : decode cX12_sheet 24 = .ok (.getfield 56, 3) := by decide +kernel
theorem dX12_sheet_27 : decode cX12_sheet 27 = .ok (.iload_n 1, 1) := by decide +kernel
theorem dX12_sheet_28 : decode cX12_sheet 28 = .ok (.iload_n 2, 1) := by decide +kernel
theorem dX12_sheet_29 : decode cX12_sheet 29 = .ok (.iastore, 1) := by decide +kernel
theorem dX12_sheet_30 : decode cX12_sheet 30 = .ok (.aload_n 0, 1) := by decide +kernel
theorem dX12_sheet_31 : decode cX12_sheet 31 = .ok (.getfield 59, 3) := by decide +kernel
theorem dX12_sheet_34 : decode cX12_sheet 34 = .ok (.iload_n 1, 1) := by decide +kernel
theorem dX12_sheet_35 : decode cX12_sheet 35 = .ok (.iload_n 3, 1) := by decide +kernel
theorem dX12_sheet_36 : decode cX12_sheet 36 = .ok (.iastore, 1) := by decide +kernel
theorem dX12_sheet_37 : decode cX12_sheet 37 = .ok (.iconst 0, 1) := by decide +kernel
theorem dX12_sheet_38 : decode cX12_sheet 38 = .ok (.istore 4, 2) := by decide +kernel
theorem dX12_sheet_40 : decode cX12_sheet 40 = .ok (.iload 4, 2) := by decide +kernel
theorem dX12_sheet_42 : decode cX12_sheet 42 = .ok (.bipush 40, 2) := by decide +kernel
theorem dX12_sheet_44 : decode cX12_sheet 44 = .ok (.if_icmp .ge 22, 3) := by decide +kernel
theorem dX12_sheet_47 : decode cX12_sheet 47 = .ok (.aload_n 0, 1) := by decide +kernel
theorem dX12_sheet_48 : decode cX12_sheet 48 = .ok (.getfield 62, 3) := by decide +kernel
theorem dX12_sheet_51 : decode cX12_sheet 51 = .ok (.bipush 40, 2) := by decide +kernel
theorem dX12_sheet_53 : decode cX12_sheet 53 = .ok (.iload_n 1, 1) := by decide +kernel
theorem dX12_sheet_54 : decode cX12_sheet 54 = .ok (.imul, 1) := by decide +kernel
theorem dX12_sheet_55 : decode cX12_sheet 55 = .ok (.iload 4, 2) := by decide +kernel
theorem dX12_sheet_57 : decode cX12_sheet 57 = .ok (.iadd, 1) := by decide +kernel
theorem dX12_sheet_58 : decode cX12_sheet 58 = .ok (.iconst 0, 1) := by decide +kernel
theorem dX12_sheet_59 : decode cX12_sheet 59 = .ok (.iastore, 1) := by decide +kernel
theorem dX12_sheet_60 : decode cX12_sheet 60 = .ok (.iinc 4 1, 3) := by decide +kernel
theorem dX12_sheet_63 : decode cX12_sheet 63 = .ok (.goto (-23), 3) := by decide +kernel
theorem dX12_sheet_66 : decode cX12_sheet 66 = .ok (.iconst 1, 1) := by decide +kernel
theorem dX12_sheet_67 : decode cX12_sheet 67 = .ok (.ireturn, 1) := by decide +kernel
abbrev q_X12_sheet (k : Int) (l : Int) (n : Int) (σ : tw_M) : Option tw_V → tw_M → Prop := fun z τ => ∃ r : Int, z = some (vI r) ∧ (-2147483648 ≤ r ∧ r ≤ 2147483647) ∧ tw_I τ ∧ tw_F (fun c j => (104 ≤ c ∧ c < 107)) σ τ ∧ ((r = -1 ∧ (¬ (0 ≤ k ∧ k ≤ 3 ∧ 0 ≤ l ∧ l ≤ 2) ∨ 40 < n)) ∨ (r = -14 ∧ 0 ≤ k ∧ k ≤ 3 ∧ 0 ≤ l ∧ l ≤ 2 ∧ n < 0) ∨ (r = 1 ∧ 0 ≤ k ∧ k ≤ 3 ∧ 0 ≤ l ∧ l ≤ 2 ∧ 0 ≤ n ∧ n ≤ 40)) ∧ ((k = 0 ∧ r = 1 ∧ τ 104 0 = l ∧ τ 105 0 = n) ∨ (¬ (k = 0 ∧ r = 1) ∧ τ 104 0 = σ 104 0 ∧ τ 105 0 = σ 105 0)) ∧ ((k = 1 ∧ r = 1 ∧ τ 104 1 = l ∧ τ 105 1 = n) ∨ (¬ (k = 1 ∧ r = 1) ∧ τ 104 1 = σ 104 1 ∧ τ 105 1 = σ 105 1)) ∧ ((k = 2 ∧ r = 1 ∧ τ 104 2 = l ∧ τ 105 2 = n) ∨ (¬ (k = 2 ∧ r = 1) ∧ τ 104 2 = σ 104 2 ∧ τ 105 2 = σ 105 2)) ∧ ((k = 3 ∧ r = 1 ∧ τ 104 3 = l ∧ τ 105 3 = n) ∨ (¬ (k = 3 ∧ r = 1) ∧ τ 104 3 = σ 104 3 ∧ τ 105 3 = σ 105 3)) ∧ ((r = 1 ∧ (∀ j : Int, 0 ≤ j → j < 40 → τ 106 (40 * k + j).toNat = 0) ∧ ∀ j : Nat, ((j : Int) < 40 * k ∨ 40 * k + 40 ≤ (j : Int)) → τ 106 j = σ 106 j) ∨ (¬ r = 1 ∧ ∀ j : Nat, τ 106 j = σ 106 j))
set_option maxHeartbeats 4000000 in
set_option maxRecDepth 100000 in
theorem l_X12_sheet {G : tw_G} (hM : tw_isM G) (k : Int) (hk : -2147483648 ≤ k ∧ k ≤ 2147483647) (l : Int) (hl : -2147483648 ≤ l ∧ l ≤ 2147483647) (n : Int) (hn : -2147483648 ≤ n ∧ n ≤ 2147483647) (σ : tw_M) (hI : tw_I σ) : ∀ N_ : Nat, (∀ (i : Int) (hi : 0 ≤ i ∧ i ≤ 40) (τ : tw_M) (hIτ : tw_I τ) (hFτ : tw_F (fun c j => (104 ≤ c ∧ c < 107)) σ τ) (i0 : 0 ≤ k ∧ k ≤ 3 ∧ 0 ≤ l ∧ l ≤ 2 ∧ 0 ≤ n ∧ n ≤ 40) (i1 : (k = 0 ∧ τ 104 0 = l ∧ τ 105 0 = n) ∨ (¬ k = 0 ∧ τ 104 0 = σ 104 0 ∧ τ 105 0 = σ 105 0)) (i2 : (k = 1 ∧ τ 104 1 = l ∧ τ 105 1 = n) ∨ (¬ k = 1 ∧ τ 104 1 = σ 104 1 ∧ τ 105 1 = σ 105 1)) (i3 : (k = 2 ∧ τ 104 2 = l ∧ τ 105 2 = n) ∨ (¬ k = 2 ∧ τ 104 2 = σ 104 2 ∧ τ 105 2 = σ 105 2)) (i4 : (k = 3 ∧ τ 104 3 = l ∧ τ 105 3 = n) ∨ (¬ k = 3 ∧ τ 104 3 = σ 104 3 ∧ τ 105 3 = σ 105 3)) (i5 : (∀ j : Int, 0 ≤ j → j < i → τ 106 (40 * k + j).toNat = 0) ∧ ∀ j : Nat, ((j : Int) < 40 * k ∨ 40 * k + 40 ≤ (j : Int)) → τ 106 j = σ 106 j) (hm : (40 - i).toNat < N_), tw_J G (tw_mt RX12 cX12_sheet 5 (some .int) 2) (tw_E G (q_X12_sheet k l n σ)) 40 [(0, vR 88), (1, vI k), (4, vI i)] [] τ) := by
  intro N_
  induction N_ with
  | zero => exact fun i hi τ hIτ hFτ i0 i1 i2 i3 i4 i5 hm => absurd hm (Nat.not_lt_zero _)
  | succ N_ ih =>
    intro i hi τ hIτ hFτ i0 i1 i2 i3 i4 i5 hm
    refine j_iload (pc := 40) dX12_sheet_40 rfl ?_
    refine j_bipush (pc := 42) dX12_sheet_42 rfl ?_
    refine j_icmpR_ge (pc := 44) (tgt := 66) ⟨by omega, by omega⟩ ⟨by omega, by omega⟩ dX12_sheet_44 rfl (fun h1 => ?_) (fun h1 => ?_)
    · refine j_iconst (pc := 66) dX12_sheet_66 ?_
      exact j_iret (pc := 67) ⟨rfl, rfl⟩ dX12_sheet_67 rfl ⟨_, rfl, ⟨by omega, by omega⟩, hIτ, hFτ, by omega, by omega, by omega, by omega, by omega, (by first | exact Or.inl ⟨rfl, fun j j1 j2 => i5.1 j j1 (by omega), i5.2⟩ | exact Or.inr ⟨by decide, fun j => rfl⟩)⟩
    · refine j_aload_n (pc := 47) dX12_sheet_47 rfl rfl ?_
      refine j_getR (pc := 48) (r := 106) fl_X12_62 dX12_sheet_48 (a_88 hM) rfl ?_
      refine j_bipush (pc := 51) dX12_sheet_51 rfl ?_
      refine j_iload_n (pc := 53) dX12_sheet_53 rfl rfl ?_
      refine j_imul (pc := 54) dX12_sheet_54 ?_
      refine j_iload (pc := 55) dX12_sheet_55 rfl ?_
      refine j_iadd (pc := 57) dX12_sheet_57 ?_
      refine j_iconst (pc := 58) dX12_sheet_58 ?_
      refine j_iast (pc := 59) dX12_sheet_59 (a_106 hM) (by omega) (by omega) (by decide) (j_nm (fun σ2 (eσ2 : σ2 = tw_up τ 106 (((40 * k) + i).toNat) 0) => ?_))
      have hIσ2 : tw_I σ2 := tw_I_up hIτ eσ2 (show (-2147483648 : Int) ≤ 0 ∧ 0 ≤ 2147483647 from by decide)
      have hFσ2 : tw_F (fun c j => (104 ≤ c ∧ c < 107)) σ σ2 := tw_F_up hFτ eσ2 (show (104 ≤ 106 ∧ 106 < 107) from (by decide))
      refine j_iinc (pc := 60) (i := 4) (n := 1) (ls' := [(0, vR 88), (1, vI k), (4, vI (i + 1))]) [1, 2, 0] dX12_sheet_60 rfl (Nat.le_of_ble_eq_true rfl) rfl rfl ?_
      refine j_goto (pc := 63) (tgt := 40) dX12_sheet_63 rfl ?_
      refine j_ls (ls' := [(0, vR 88), (1, vI k), (4, vI (i + 1))]) [0, 1, 2] rfl ?_
      have y3 : σ2 104 0 = τ 104 0 := (tw_ne1 eσ2 (by (first | decide | omega)))
      have f4 : (-4 : Int) ≤ τ 104 0 ∧ τ 104 0 ≤ 2 := hIτ 104 0
      have y5 : σ2 105 0 = τ 105 0 := (tw_ne1 eσ2 (by (first | decide | omega)))
      have f6 : (0 : Int) ≤ τ 105 0 ∧ τ 105 0 ≤ 40 := hIτ 105 0
      have y7 : σ2 104 1 = τ 104 1 := (tw_ne1 eσ2 (by (first | decide | omega)))
      have f8 : (-4 : Int) ≤ τ 104 1 ∧ τ 104 1 ≤ 2 := hIτ 104 1
      have y9 : σ2 105 1 = τ 105 1 := (tw_ne1 eσ2 (by (first | decide | omega)))
      have f10 : (0 : Int) ≤ τ 105 1 ∧ τ 105 1 ≤ 40 := hIτ 105 1
      have y11 : σ2 104 2 = τ 104 2 := (tw_ne1 eσ2 (by (first | decide | omega)))
      have f12 : (-4 : Int) ≤ τ 104 2 ∧ τ 104 2 ≤ 2 := hIτ 104 2
      have y13 : σ2 105 2 = τ 105 2 := (tw_ne1 eσ2 (by (first | decide | omega)))
      have f14 : (0 : Int) ≤ τ 105 2 ∧ τ 105 2 ≤ 40 := hIτ 105 2
      have y15 : σ2 104 3 = τ 104 3 := (tw_ne1 eσ2 (by (first | decide | omega)))
      have f16 : (-4 : Int) ≤ τ 104 3 ∧ τ 104 3 ≤ 2 := hIτ 104 3
      have y17 : σ2 105 3 = τ 105 3 := (tw_ne1 eσ2 (by (first | decide | omega)))
      have f18 : (0 : Int) ≤ τ 105 3 ∧ τ 105 3 ≤ 40 := hIτ 105 3
      exact ih (i + 1) ⟨by omega, by omega⟩ σ2 hIσ2 hFσ2 (show 0 ≤ k ∧ k ≤ 3 ∧ 0 ≤ l ∧ l ≤ 2 ∧ 0 ≤ n ∧ n ≤ 40 from by omega) (show (k = 0 ∧ σ2 104 0 = l ∧ σ2 105 0 = n) ∨ (¬ k = 0 ∧ σ2 104 0 = σ 104 0 ∧ σ2 105 0 = σ 105 0) from (by first | (rw [show σ2 104 0 = τ 104 0 from (tw_ne1 eσ2 (by (first | decide | omega))), show σ2 105 0 = τ 105 0 from (tw_ne1 eσ2 (by (first | decide | omega)))]; exact i1) | (rcases (show k = 0 ∨ ¬ k = 0 by omega) with q | q; (left; exact ⟨q, (tw_ne1 eσ2 (by (first | decide | omega))).trans (tw_eq2 _ (by omega)), tw_eq2 eσ2 (by omega)⟩); (right; exact ⟨q, (tw_ne1 eσ2 (by (first | decide | omega))).trans (tw_ne1 _ (by omega)), (tw_ne1 eσ2 (by (first | decide | omega))).trans (tw_ne1 _ (by omega))⟩)))) (show (k = 1 ∧ σ2 104 1 = l ∧ σ2 105 1 = n) ∨ (¬ k = 1 ∧ σ2 104 1 = σ 104 1 ∧ σ2 105 1 = σ 105 1) from (by first | (rw [show σ2 104 1 = τ 104 1 from (tw_ne1 eσ2 (by (first | decide | omega))), show σ2 105 1 = τ 105 1 from (tw_ne1 eσ2 (by (first | decide | omega)))]; exact i2) | (rcases (show k = 1 ∨ ¬ k = 1 by omega) with q | q; (left; exact ⟨q, (tw_ne1 eσ2 (by (first | decide | omega))).trans (tw_eq2 _ (by omega)), tw_eq2 eσ2 (by omega)⟩); (right; exact ⟨q, (tw_ne1 eσ2 (by (first | decide | omega))).trans (tw_ne1 _ (by omega)), (tw_ne1 eσ2 (by (first | decide | omega))).trans (tw_ne1 _ (by omega))⟩)))) (show (k = 2 ∧ σ2 104 2 = l ∧ σ2 105 2 = n) ∨ (¬ k = 2 ∧ σ2 104 2 = σ 104 2 ∧ σ2 105 2 = σ 105 2) from (by first | (rw [show σ2 104 2 = τ 104 2 from (tw_ne1 eσ2 (by (first | decide | omega))), show σ2 105 2 = τ 105 2 from (tw_ne1 eσ2 (by (first | decide | omega)))]; exact i3) | (rcases (show k = 2 ∨ ¬ k = 2 by omega) with q | q; (left; exact ⟨q, (tw_ne1 eσ2 (by (first | decide | omega))).trans (tw_eq2 _ (by omega)), tw_eq2 eσ2 (by omega)⟩); (right; exact ⟨q, (tw_ne1 eσ2 (by (first | decide | omega))).trans (tw_ne1 _ (by omega)), (tw_ne1 eσ2 (by (first | decide | omega))).trans (tw_ne1 _ (by omega))⟩)))) (show (k = 3 ∧ σ2 104 3 = l ∧ σ2 105 3 = n) ∨ (¬ k = 3 ∧ σ2 104 3 = σ 104 3 ∧ σ2 105 3 = σ 105 3) from (by first | (rw [show σ2 104 3 = τ 104 3 from (tw_ne1 eσ2 (by (first | decide | omega))), show σ2 105 3 = τ 105 3 from (tw_ne1 eσ2 (by (first | decide | omega)))]; exact i4) | (rcases (show k = 3 ∨ ¬ k = 3 by omega) with q | q; (left; exact ⟨q, (tw_ne1 eσ2 (by (first | decide | omega))).trans (tw_eq2 _ (by omega)), tw_eq2 eσ2 (by omega)⟩); (right; exact ⟨q, (tw_ne1 eσ2 (by (first | decide | omega))).trans (tw_ne1 _ (by omega)), (tw_ne1 eσ2 (by (first | decide | omega))).trans (tw_ne1 _ (by omega))⟩)))) (show (∀ j : Int, 0 ≤ j → j < (i + 1) → σ2 106 (40 * k + j).toNat = 0) ∧ ∀ j : Nat, ((j : Int) < 40 * k ∨ 40 * k + 40 ≤ (j : Int)) → σ2 106 j = σ 106 j from ⟨fun j j1 j2 => by rcases (show j < i ∨ j = i by omega) with q | q; (rw [tw_ne1 eσ2 (by (first | decide | omega))]; exact i5.1 j j1 q); (exact tw_eq2 eσ2 (by omega)), fun j hj => (tw_ne1 eσ2 (by (first | decide | omega))).trans (i5.2 j hj)⟩) (show (40 - (i + 1)).toNat < N_ from by omega)
set_option maxHeartbeats 4000000 in
set_option maxRecDepth 100000 in
theorem c_X12_sheet {G : tw_G} (hM : tw_isM G) (k : Int) (hk : -2147483648 ≤ k ∧ k ≤ 2147483647) (l : Int) (hl : -2147483648 ≤ l ∧ l ≤ 2147483647) (n : Int) (hn : -2147483648 ≤ n ∧ n ≤ 2147483647) (σ : tw_M) (hI : tw_I σ) : tw_C G yX12_sheet cX12_sheet 5 (some .int) 2 [vR 88, vI k, vI l, vI n] σ (q_X12_sheet k l n σ) := by
  refine tw_met [(0, vR 88), (1, vI k), (2, vI l), (3, vI n)] (by decide +kernel) rfl (Nat.le_of_ble_eq_true rfl) ?_
  refine j_iload_n (pc := 0) dX12_sheet_0 rfl rfl ?_
  refine j_iload_n (pc := 1) dX12_sheet_1 rfl rfl ?_
  refine j_callS (pc := 2) (As := [vI k, vI l]) (st := []) (c_X12_isSheet k ⟨by omega, by omega⟩ l ⟨by omega, by omega⟩ σ hI) ms_X12_377 rfl dX12_sheet_2 ⟨Nat.le_of_ble_eq_true rfl, Nat.le_of_ble_eq_true rfl⟩ ⟨Nat.le_refl _, Nat.le_refl _⟩ rfl (Nat.le_of_ble_eq_true rfl) rfl (fun z19 σ20 hz19 => ?_)
  obtain ⟨r22, rfl, hr22, rfl, q21_0⟩ := hz19
  replace q21_0 : (r22 = 1 ∧ 0 ≤ k ∧ k ≤ 3 ∧ 0 ≤ l ∧ l ≤ 2) ∨ (r22 = 0 ∧ ¬ (0 ≤ k ∧ k ≤ 3 ∧ 0 ≤ l ∧ l ≤ 2)) := q21_0
  refine j_st (st' := [vI r22]) rfl ?_
  refine j_ifR_eq (pc := 5) (tgt := 14) ⟨by omega, by omega⟩ dX12_sheet_5 rfl (fun h23 => ?_) (fun h23 => ?_)
  · refine j_iconst (pc := 14) dX12_sheet_14 ?_
    exact j_iret (pc := 15) ⟨rfl, rfl⟩ dX12_sheet_15 rfl ⟨_, rfl, ⟨by omega, by omega⟩, hI, (tw_F_rf), by omega, by omega, by omega, by omega, by omega, (by first | exact Or.inl ⟨rfl, fun j j1 j2 => i5.1 j j1 (by omega), i5.2⟩ | exact Or.inr ⟨by decide, fun j => rfl⟩)⟩
  · refine j_iload_n (pc := 8) dX12_sheet_8 rfl rfl ?_
    refine j_bipush (pc := 9) dX12_sheet_9 rfl ?_
    refine j_icmpR_le (pc := 11) (tgt := 16) ⟨by omega, by omega⟩ ⟨by omega, by omega⟩ dX12_sheet_11 rfl (fun h24 => ?_) (fun h24 => ?_)
    · refine j_iload_n (pc := 16) dX12_sheet_16 rfl rfl ?_
      refine j_ifR_ge (pc := 17) (tgt := 23) ⟨by omega, by omega⟩ dX12_sheet_17 rfl (fun h25 => ?_) (fun h25 => ?_)
      · refine j_aload_n (pc := 23) dX12_sheet_23 rfl rfl ?_
        refine j_getR (pc := 24) (r := 104) fl_X12_56 dX12_sheet_24 (a_88 hM) rfl ?_
        refine j_iload_n (pc := 27) dX12_sheet_27 rfl rfl ?_
        refine j_iload_n (pc := 28) dX12_sheet_28 rfl rfl ?_
        refine j_iast (pc := 29) dX12_sheet_29 (a_104 hM) (by omega) (by omega) (by decide) (j_nm (fun σ26 (eσ26 : σ26 = tw_up σ 104 (k.toNat) l) => ?_))
        have hIσ26 : tw_I σ26 := tw_I_up hI eσ26 (show (-4 : Int) ≤ l ∧ l ≤ 2 from ⟨by omega, by omega⟩)
        have hFσ26 : tw_F (fun c j => (104 ≤ c ∧ c < 107)) σ σ26 := tw_F_up (tw_F_rf) eσ26 (show (104 ≤ 104 ∧ 104 < 107) from (by decide))
        refine j_aload_n (pc := 30) dX12_sheet_30 rfl rfl ?_
        refine j_getR (pc := 31) (r := 105) fl_X12_59 dX12_sheet_31 (a_88 hM) rfl ?_
        refine j_iload_n (pc := 34) dX12_sheet_34 rfl rfl ?_
        refine j_iload_n (pc := 35) dX12_sheet_35 rfl rfl ?_
        refine j_iast (pc := 36) dX12_sheet_36 (a_105 hM) (by omega) (by omega) (by decide) (j_nm (fun σ27 (eσ27 : σ27 = tw_up σ26 105 (k.toNat) n) => ?_))
        have hIσ27 : tw_I σ27 := tw_I_up hIσ26 eσ27 (show (0 : Int) ≤ n ∧ n ≤ 40 from ⟨by omega, by omega⟩)
        have hFσ27 : tw_F (fun c j => (104 ≤ c ∧ c < 107)) σ σ27 := tw_F_up hFσ26 eσ27 (show (104 ≤ 105 ∧ 105 < 107) from (by decide))
        refine j_iconst (pc := 37) dX12_sheet_37 ?_
        refine j_istore (pc := 38) (i := 4) (ls' := [(0, vR 88), (1, vI k), (4, vI 0)]) [1, 2, 0] dX12_sheet_38 (Nat.le_of_ble_eq_true rfl) rfl rfl ?_
        refine j_ls (ls' := [(0, vR 88), (1, vI k), (4, vI 0)]) [0, 1, 2] rfl ?_
        have y28 : σ27 104 0 = σ26 104 0 := (tw_ne1 eσ27 (by (first | decide | omega)))
        have f29 : (-4 : Int) ≤ σ26 104 0 ∧ σ26 104 0 ≤ 2 := hIσ26 104 0
        have y30 : σ27 104 1 = σ26 104 1 := (tw_ne1 eσ27 (by (first | decide | omega)))
        have f31 : (-4 : Int) ≤ σ26 104 1 ∧ σ26 104 1 ≤ 2 := hIσ26 104 1
        have y32 : σ27 104 2 = σ26 104 2 := (tw_ne1 eσ27 (by (first | decide | omega)))
        have f33 : (-4 : Int) ≤ σ26 104 2 ∧ σ26 104 2 ≤ 2 := hIσ26 104 2
        have y34 : σ27 104 3 = σ26 104 3 := (tw_ne1 eσ27 (by (first | decide | omega)))
        have f35 : (-4 : Int) ≤ σ26 104 3 ∧ σ26 104 3 ≤ 2 := hIσ26 104 3
        exact (l_X12_sheet hM k hk l hl n hn σ hI (((40 - (0 : Int)).toNat) + 1)) 0 (by (first | decide | exact ⟨by omega, by omega⟩)) σ27 hIσ27 hFσ27 (show 0 ≤ k ∧ k ≤ 3 ∧ 0 ≤ l ∧ l ≤ 2 ∧ 0 ≤ n ∧ n ≤ 40 from by omega) (show (k = 0 ∧ σ27 104 0 = l ∧ σ27 105 0 = n) ∨ (¬ k = 0 ∧ σ27 104 0 = σ 104 0 ∧ σ27 105 0 = σ 105 0) from (by first | (rw [show σ27 104 0 = τ 104 0 from (tw_ne1 eσ27 (by (first | decide | omega))), show σ27 105 0 = τ 105 0 from rfl]; exact i1) | (rcases (show k = 0 ∨ ¬ k = 0 by omega) with q | q; (left; exact ⟨q, (tw_ne1 eσ27 (by (first | decide | omega))).trans (tw_eq2 eσ26 (by omega)), tw_eq2 eσ27 (by omega)⟩); (right; exact ⟨q, (tw_ne1 eσ27 (by (first | decide | omega))).trans (tw_ne1 eσ26 (by (first | decide | omega))), (tw_ne1 eσ27 (by (first | decide | omega))).trans (tw_ne1 eσ26 (by (first | decide | omega)))⟩)))) (show (k = 1 ∧ σ27 104 1 = l ∧ σ27 105 1 = n) ∨ (¬ k = 1 ∧ σ27 104 1 = σ 104 1 ∧ σ27 105 1 = σ 105 1) from (by first | (rw [show σ27 104 1 = τ 104 1 from (tw_ne1 eσ27 (by (first | decide | omega))), show σ27 105 1 = τ 105 1 from rfl]; exact i2) | (rcases (show k = 1 ∨ ¬ k = 1 by omega) with q | q; (left; exact ⟨q, (tw_ne1 eσ27 (by (first | decide | omega))).trans (tw_eq2 eσ26 (by omega)), tw_eq2 eσ27 (by omega)⟩); (right; exact ⟨q, (tw_ne1 eσ27 (by (first | decide | omega))).trans (tw_ne1 eσ26 (by (first | decide | omega))), (tw_ne1 eσ27 (by (first | decide | omega))).trans (tw_ne1 eσ26 (by (first | decide | omega)))⟩)))) (show (k = 2 ∧ σ27 104 2 = l ∧ σ27 105 2 = n) ∨ (¬ k = 2 ∧ σ27 104 2 = σ 104 2 ∧ σ27 105 2 = σ 105 2) from (by first | (rw [show σ27 104 2 = τ 104 2 from (tw_ne1 eσ27 (by (first | decide | omega))), show σ27 105 2 = τ 105 2 from rfl]; exact i3) | (rcases (show k = 2 ∨ ¬ k = 2 by omega) with q | q; (left; exact ⟨q, (tw_ne1 eσ27 (by (first | decide | omega))).trans (tw_eq2 eσ26 (by omega)), tw_eq2 eσ27 (by omega)⟩); (right; exact ⟨q, (tw_ne1 eσ27 (by (first | decide | omega))).trans (tw_ne1 eσ26 (by (first | decide | omega))), (tw_ne1 eσ27 (by (first | decide | omega))).trans (tw_ne1 eσ26 (by (first | decide | omega)))⟩)))) (show (k = 3 ∧ σ27 104 3 = l ∧ σ27 105 3 = n) ∨ (¬ k = 3 ∧ σ27 104 3 = σ 104 3 ∧ σ27 105 3 = σ 105 3) from (by first | (rw [show σ27 104 3 = τ 104 3 from (tw_ne1 eσ27 (by (first | decide | omega))), show σ27 105 3 = τ 105 3 from rfl]; exact i4) | (rcases (show k = 3 ∨ ¬ k = 3 by omega) with q | q; (left; exact ⟨q, (tw_ne1 eσ27 (by (first | decide | omega))).trans (tw_eq2 eσ26 (by omega)), tw_eq2 eσ27 (by omega)⟩); (right; exact ⟨q, (tw_ne1 eσ27 (by (first | decide | omega))).trans (tw_ne1 eσ26 (by (first | decide | omega))), (tw_ne1 eσ27 (by (first | decide | omega))).trans (tw_ne1 eσ26 (by (first | decide | omega)))⟩)))) (show (∀ j : Int, 0 ≤ j → j < (0 : Int) → σ27 106 (40 * k + j).toNat = 0) ∧ ∀ j : Nat, ((j : Int) < 40 * k ∨ 40 * k + 40 ≤ (j : Int)) → σ27 106 j = σ 106 j from ⟨fun j j1 j2 => by exfalso; omega, fun j hj => (tw_ne1 eσ27 (by (first | decide | omega))).trans (tw_ne1 eσ26 (by (first | decide | omega)))⟩) (Nat.lt_succ_self _)
      · refine j_bipush (pc := 20) dX12_sheet_20 rfl ?_
        exact j_iret (pc := 22) ⟨rfl, rfl⟩ dX12_sheet_22 rfl ⟨_, rfl, ⟨by omega, by omega⟩, hI, (tw_F_rf), by omega, by omega, by omega, by omega, by omega, (by first | exact Or.inl ⟨rfl, fun j j1 j2 => i5.1 j j1 (by omega), i5.2⟩ | exact Or.inr ⟨by decide, fun j => rfl⟩)⟩
    · refine j_iconst (pc := 14) dX12_sheet_14 ?_
      exact j_iret (pc := 15) ⟨rfl, rfl⟩ dX12_sheet_15 rfl ⟨_, rfl, ⟨by omega, by omega⟩, hI, (tw_F_rf), by omega, by omega, by omega, by omega, by omega, (by first | exact Or.inl ⟨rfl, fun j j1 j2 => i5.1 j j1 (by omega), i5.2⟩ | exact Or.inr ⟨by decide, fun j => rfl⟩)⟩
