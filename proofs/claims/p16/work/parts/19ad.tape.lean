/-! 19ad.tape -/
theorem dX9_byteAt_0 : decode cX9_byteAt 0 = .ok (.iload_n 1, 1) := by decide +kernel
theorem dX9_byteAt_1 : decode cX9_byteAt 1 = .ok (.ifCond .lt 31, 3) := by decide +kernel
theorem dX9_byteAt_4 : decode cX9_byteAt 4 = .ok (.iload_n 1, 1) := by decide +kernel
theorem dX9_byteAt_5 : decode cX9_byteAt 5 = .ok (.aload_n 0, 1) := by decide +kernel
theorem dX9_byteAt_6 : decode cX9_byteAt 6 = .ok (.getfield 29, 3) := by decide +kernel
theorem dX9_byteAt_9 : decode cX9_byteAt 9 = .ok (.if_icmp .ge 23, 3) := by decide +kernel
theorem dX9_byteAt_12 : decode cX9_byteAt 12 = .ok (.iload_n 1, 1) := by decide +kernel
theorem dX9_byteAt_13 : decode cX9_byteAt 13 = .ok (.sipush 400, 3) := by decide +kernel
theorem dX9_byteAt_16 : decode cX9_byteAt 16 = .ok (.if_icmp .ge 16, 3) := by decide +kernel
theorem dX9_byteAt_19 : decode cX9_byteAt 19 = .ok (.aload_n 0, 1) := by decide +kernel
theorem dX9_byteAt_20 : decode cX9_byteAt 20 = .ok (.getfield 9, 3) := by decide +kernel
theorem dX9_byteAt_23 : decode cX9_byteAt 23 = .ok (.iload_n 1, 1) := by decide +kernel
theorem dX9_byteAt_24 : decode cX9_byteAt 24 = .ok (.baload, 1) := by decide +kernel
theorem dX9_byteAt_25 : decode cX9_byteAt 25 = .ok (.sipush 255, 3) := by decide +kernel
theorem dX9_byteAt_28 : decode cX9_byteAt 28 = .ok (.iand, 1) := by decide +kernel
theorem dX9_byteAt_29 : decode cX9_byteAt 29 = .ok (.goto 4, 3) := by decide +kernel
theorem dX9_byteAt_32 : decode cX9_byteAt 32 = .ok (.iconst (-1), 1) := by decide +kernel
theorem dX9_byteAt_33 : decode cX9_byteAt 33 = .ok (.ireturn, 1) := by decide +kernel
abbrev q_X9_byteAt (i : Int) (σ : tw_M) : Option tw_V → tw_M → Prop := fun z τ => ∃ r : Int, z = some (vI r) ∧ (-1 ≤ r ∧ r ≤ 255) ∧ σ = τ ∧ ((¬ (0 ≤ i ∧ i < σ 10 10 ∧ i < 400) ∧ r = -1) ∨ (0 ≤ i ∧ i < σ 10 10 ∧ i < 400 ∧ 0 ≤ r ∧ r = tw_and (σ 11 i.toNat) 255)) ∧ (r = fX σ i)
set_option maxHeartbeats 4000000 in
set_option maxRecDepth 100000 in
theorem c_X9_byteAt {G : tw_G} (hX : tw_isX G) (i : Int) (hi : -2147483648 ≤ i ∧ i ≤ 2147483647) (σ : tw_M) (hI : tw_I σ) : tw_C G yX9_byteAt cX9_byteAt 2 (some .int) 0 [vR 10, vI i] σ (q_X9_byteAt i σ) := by
  refine tw_met [(0, vR 10), (1, vI i)] (by decide +kernel) rfl (Nat.le_of_ble_eq_true rfl) ?_
  refine j_iload_n (pc := 0) dX9_byteAt_0 rfl rfl ?_
  refine j_ifR_lt (pc := 1) (tgt := 32) ⟨by omega, by omega⟩ dX9_byteAt_1 rfl (fun h1 => ?_) (fun h1 => ?_)
  · refine j_iconst (pc := 32) dX9_byteAt_32 ?_
    exact j_iret (pc := 33) ⟨rfl, rfl⟩ dX9_byteAt_33 rfl ⟨_, rfl, ⟨by omega, by omega⟩, rfl, by omega, (by have f10 : (0 : Int) ≤ σ 10 10 ∧ σ 10 10 ≤ 400 := hI 10 10; first | exact (fX_no (by omega)).symm | exact Eq.trans (by omega) (fX_at ⟨by omega, by omega⟩).symm)⟩
  · refine j_iload_n (pc := 4) dX9_byteAt_4 rfl rfl ?_
    refine j_aload_n (pc := 5) dX9_byteAt_5 rfl rfl ?_
    refine j_getI (pc := 6) fl_X9_29 dX9_byteAt_6 (a_10 hX) rfl ?_
    have f2 : (0 : Int) ≤ σ 10 10 ∧ σ 10 10 ≤ 400 := hI 10 10
    refine j_icmpR_ge (pc := 9) (tgt := 32) ⟨by omega, by omega⟩ ⟨by omega, by omega⟩ dX9_byteAt_9 rfl (fun h3 => ?_) (fun h3 => ?_)
    · refine j_iconst (pc := 32) dX9_byteAt_32 ?_
      exact j_iret (pc := 33) ⟨rfl, rfl⟩ dX9_byteAt_33 rfl ⟨_, rfl, ⟨by omega, by omega⟩, rfl, by omega, (by have f10 : (0 : Int) ≤ σ 10 10 ∧ σ 10 10 ≤ 400 := hI 10 10; first | exact (fX_no (by omega)).symm | exact Eq.trans (by omega) (fX_at ⟨by omega, by omega⟩).symm)⟩
    · refine j_iload_n (pc := 12) dX9_byteAt_12 rfl rfl ?_
      refine j_sipush (pc := 13) dX9_byteAt_13 rfl ?_
      refine j_icmpR_ge (pc := 16) (tgt := 32) ⟨by omega, by omega⟩ ⟨by omega, by omega⟩ dX9_byteAt_16 rfl (fun h4 => by exfalso; omega) (fun h4 => ?_)
      refine j_aload_n (pc := 19) dX9_byteAt_19 rfl rfl ?_
      refine j_getR (pc := 20) (r := 11) fl_X9_9 dX9_byteAt_20 (a_10 hX) rfl ?_
      refine j_iload_n (pc := 23) dX9_byteAt_23 rfl rfl ?_
      refine j_bald (pc := 24) dX9_byteAt_24 (a_11 hX) (by omega) (by omega) (by decide) ?_
      have f5 : (-128 : Int) ≤ σ 11 (i.toNat) ∧ σ 11 (i.toNat) ≤ 127 := hI 11 (i.toNat)
      refine j_sipush (pc := 25) dX9_byteAt_25 rfl ?_
      refine j_iand (pc := 28) dX9_byteAt_28 (fun z6 ez6 => ?_)
      have hz6 : (-2147483648 : Int) ≤ z6 ∧ z6 ≤ 2147483647 := by rw [ez6]; exact and_in _ _
      have gz6 : (0 : Int) ≤ z6 ∧ z6 ≤ 255 := by rw [ez6]; exact and255
      refine j_goto (pc := 29) (tgt := 33) dX9_byteAt_29 rfl ?_
      exact j_iret (pc := 33) ⟨rfl, rfl⟩ dX9_byteAt_33 rfl ⟨_, rfl, ⟨by omega, by omega⟩, rfl, by omega, (by have f10 : (0 : Int) ≤ σ 10 10 ∧ σ 10 10 ≤ 400 := hI 10 10; first | exact (fX_no (by omega)).symm | exact Eq.trans (by omega) (fX_at ⟨by omega, by omega⟩).symm)⟩
