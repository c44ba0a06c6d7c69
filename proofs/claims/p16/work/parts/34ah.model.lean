/-! 34ah.model -/
theorem dX12_readNumber_0 : decode cX12_readNumber 0 = .ok (.aload_n 0, 1) := by decide +kernel
theorem dX12_readNumber_1 : decode cX12_readNumber 1 = .ok (.iload_n 1, 1) := by decide +kernel
theorem dX12_readNumber_2 : decode cX12_readNumber 2 = .ok (.iload_n 2, 1) := by decide +kernel
theorem dX12_readNumber_3 : decode cX12_readNumber 3 = .ok (.invokevirtual 133, 3) := by decide +kernel
theorem dX12_readNumber_6 : decode cX12_readNumber 6 = .ok (.aload_n 0, 1) := by decide +kernel
theorem dX12_readNumber_7 : decode cX12_readNumber 7 = .ok (.getfield 126, 3) := by decide +kernel
theorem dX12_readNumber_10 : decode cX12_readNumber 10 = .ok (.istore_n 3, 1) := by decide +kernel
theorem dX12_readNumber_11 : decode cX12_readNumber 11 = .ok (.aload_n 0, 1) := by decide +kernel
theorem dX12_readNumber_12 : decode cX12_readNumber 12 = .ok (.invokevirtual 137, 3) := by decide +kernel
theorem dX12_readNumber_15 : decode cX12_readNumber 15 = .ok (.iload_n 3, 1) := by decide +kernel
theorem dX12_readNumber_16 : decode cX12_readNumber 16 = .ok (.ireturn, 1) := by decide +kernel
abbrev q_X12_readNumber (a : Int) (b : Int) (σ : tw_M) : Option tw_V → tw_M → Prop := fun z τ => ∃ r : Int, z = some (vI r) ∧ (-2147483648 ≤ r ∧ r ≤ 2147483647) ∧ tw_I τ ∧ tw_F (fun c j => (c = 88 ∧ (j = 13 ∨ j = 14 ∨ j = 15 ∨ j = 16 ∨ j = 17 ∨ j = 18))) σ τ ∧ (¬ τ 88 17 = 0 ∨ (σ 88 17 = 0 ∧ a ≤ r ∧ r ≤ b)) ∧ (σ 88 13 ≤ τ 88 13) ∧ (¬ τ 88 17 = 0 ∨ τ 88 15 = 0 ∨ σ 88 13 < τ 88 13) ∧ (aM τ = tok (fM σ) (numS a b (aM σ))) ∧ ((aM τ) 4 = 0 → r = (numS a b (aM σ)) 3)
set_option maxHeartbeats 4000000 in
set_option maxRecDepth 100000 in
theorem c_X12_readNumber {G : tw_G} (hM : tw_isM G) (a : Int) (ha : -2147483648 ≤ a ∧ a ≤ 2147483647) (b : Int) (hb : -2147483648 ≤ b ∧ b ≤ 2147483647) (σ : tw_M) (hI : tw_I σ) : tw_C G yX12_readNumber cX12_readNumber 4 (some .int) 2 [vR 88, vI a, vI b] σ (q_X12_readNumber a b σ) := by
  refine tw_met [(0, vR 88), (1, vI a), (2, vI b)] (by decide +kernel) rfl (Nat.le_of_ble_eq_true rfl) ?_
  refine j_aload_n (pc := 0) dX12_readNumber_0 rfl rfl ?_
  refine j_iload_n (pc := 1) dX12_readNumber_1 rfl rfl ?_
  refine j_iload_n (pc := 2) dX12_readNumber_2 rfl rfl ?_
  refine j_callV (pc := 3) (As := [vI a, vI b]) (st := []) (c_X12_isNumber hM a ⟨by omega, by omega⟩ b ⟨by omega, by omega⟩ σ hI) mv_X12_133 rfl rfl rfl (a_88 hM) dX12_readNumber_3 ⟨Nat.le_of_ble_eq_true rfl, Nat.le_of_ble_eq_true rfl⟩ ⟨Nat.le_refl _, Nat.le_refl _⟩ rfl (Nat.le_of_ble_eq_true rfl) rfl (fun z1 σ2 hz1 => ?_)
  obtain ⟨rfl, hIσ2, hGσ2, q3_0, q3_1⟩ := hz1
  replace q3_0 : ¬ σ2 88 17 = 0 ∨ (σ 88 17 = 0 ∧ a ≤ σ 88 16 ∧ σ 88 16 ≤ b) := q3_0
  replace q3_1 : aM σ2 = numS a b (aM σ) := q3_1
  have hFσ2 : tw_F (fun c j => (c = 88 ∧ (j = 13 ∨ j = 14 ∨ j = 15 ∨ j = 16 ∨ j = 17 ∨ j = 18))) σ σ2 := tw_F_tr (tw_F_rf) hGσ2 (fun c j q => (show (c = 88 ∧ (j = 13 ∨ j = 14 ∨ j = 15 ∨ j = 16 ∨ j = 17 ∨ j = 18)) from by replace q : (c = 88 ∧ (j = 17 ∨ j = 18)) := q; exact ⟨q.1, (q.2.elim (fun z => (Or.inr (Or.inr (Or.inr (Or.inr (Or.inl z)))))) (fun z => (Or.inr (Or.inr (Or.inr (Or.inr (Or.inr z)))))))⟩))
  refine j_st (st' := []) rfl ?_
  have c1 := q3_1
  have y5 : σ2 88 16 = σ 88 16 := (hGσ2 88 16 (show ¬ ((88 = 88 ∧ (16 = 17 ∨ 16 = 18))) from by decide))
  refine j_aload_n (pc := 6) dX12_readNumber_6 rfl rfl ?_
  refine j_getI (pc := 7) fl_X12_126 dX12_readNumber_7 (a_88 hM) rfl ?_
  refine j_topV (show σ2 88 16 = σ 88 16 from (hGσ2 88 16 (show ¬ ((88 = 88 ∧ (16 = 17 ∨ 16 = 18))) from by decide))) ?_
  have f6 : (-2147483648 : Int) ≤ σ 88 16 ∧ σ 88 16 ≤ 2147483647 := hI 88 16
  refine j_istore_n (pc := 10) (i := 3) (ls' := [(0, vR 88), (3, vI (σ 88 16))]) [1, 0] dX12_readNumber_10 rfl (Nat.le_of_ble_eq_true rfl) rfl rfl ?_
  refine j_aload_n (pc := 11) dX12_readNumber_11 rfl rfl ?_
  have fz : fM σ2 = fM σ := fM_F (hFσ2 88 12 (show ¬ ((88 = 88 ∧ (12 = 13 ∨ 12 = 14 ∨ 12 = 15 ∨ 12 = 16 ∨ 12 = 17 ∨ 12 = 18))) from by decide)) (fun j => hFσ2 98 j (show ¬ ((98 = 88 ∧ (j = 13 ∨ j = 14 ∨ j = 15 ∨ j = 16 ∨ j = 17 ∨ j = 18))) from fun h => absurd h.1 (by decide)))
  refine j_callV (pc := 12) (As := []) (st := []) (c_X12_next hM σ2 hIσ2) mv_X12_137 rfl rfl rfl (a_88 hM) dX12_readNumber_12 ⟨Nat.le_of_ble_eq_true rfl, Nat.le_of_ble_eq_true rfl⟩ ⟨Nat.le_refl _, Nat.le_refl _⟩ rfl (Nat.le_of_ble_eq_true rfl) rfl (fun z7 σ8 hz7 => ?_)
  obtain ⟨rfl, hIσ8, hGσ8, q9_0, q9_1, q9_2, q9_3⟩ := hz7
  replace q9_0 : ¬ σ8 88 17 = 0 ∨ σ2 88 17 = 0 := q9_0
  replace q9_1 : σ2 88 13 ≤ σ8 88 13 := q9_1
  have y11 : σ2 88 13 = σ 88 13 := (hGσ2 88 13 (show ¬ ((88 = 88 ∧ (13 = 17 ∨ 13 = 18))) from by decide))
  have f12 : (0 : Int) ≤ σ 88 13 ∧ σ 88 13 ≤ 400 := hI 88 13
  replace q9_2 : ¬ σ8 88 17 = 0 ∨ σ8 88 15 = 0 ∨ σ2 88 13 < σ8 88 13 := q9_2
  have y13 : σ2 88 13 = σ 88 13 := (hGσ2 88 13 (show ¬ ((88 = 88 ∧ (13 = 17 ∨ 13 = 18))) from by decide))
  replace q9_3 : aM σ8 = tok (fM σ2) (aM σ2) := q9_3
  have hFσ8 : tw_F (fun c j => (c = 88 ∧ (j = 13 ∨ j = 14 ∨ j = 15 ∨ j = 16 ∨ j = 17 ∨ j = 18))) σ σ8 := tw_F_tr hFσ2 hGσ8 (fun c j q => (show (c = 88 ∧ (j = 13 ∨ j = 14 ∨ j = 15 ∨ j = 16 ∨ j = 17 ∨ j = 18)) from by replace q : (c = 88 ∧ (j = 13 ∨ j = 14 ∨ j = 15 ∨ j = 16 ∨ j = 17 ∨ j = 18)) := q; exact q))
  refine j_st (st' := []) rfl ?_
  have c2 := q9_3; rw [fz, c1] at c2
  refine j_iload_n (pc := 15) dX12_readNumber_15 rfl rfl ?_
  exact j_iret (pc := 16) ⟨rfl, rfl⟩ dX12_readNumber_16 rfl ⟨_, rfl, ⟨by omega, by omega⟩, hIσ8, hFσ8, by omega, by omega, by omega, c2, (aM_rv c2 (by omega))⟩
