/-! 30ao.model -/
theorem dX12_areClear_0 : decode cX12_areClear 0 = .ok (.iconst 1, 1) := by decide +kernel
theorem dX12_areClear_1 : decode cX12_areClear 1 = .ok (.istore 4, 2) := by decide +kernel
theorem dX12_areClear_3 : decode cX12_areClear 3 = .ok (.iload_n 1, 1) := by decide +kernel
theorem dX12_areClear_4 : decode cX12_areClear 4 = .ok (.istore 5, 2) := by decide +kernel
theorem dX12_areClear_6 : decode cX12_areClear 6 = .ok (.iload 5, 2) := by decide +kernel
theorem dX12_areClear_8 : decode cX12_areClear 8 = .ok (.iload_n 2, 1) := by decide +kernel
theorem dX12_areClear_9 : decode cX12_areClear 9 = .ok (.if_icmp .gt 31, 3) := by decide +kernel
theorem dX12_areClear_12 : decode cX12_areClear 12 = .ok (.iload 4, 2) := by decide +kernel
theorem dX12_areClear_14 : decode cX12_areClear 14 = .ok (.ifCond .eq 17, 3) := by decide +kernel
theorem dX12_areClear_17 : decode cX12_areClear 17 = .ok (.aload_n 0, 1) := by decide +kernel
theorem dX12_areClear_18 : decode cX12_areClear 18 = .ok (.iload 5, 2) := by decide +kernel
theorem dX12_areClear_20 : decode cX12_areClear 20 = .ok (.iload_n 3, 1) := by decide +kernel
theorem dX12_areClear_21 : decode cX12_areClear 21 = .ok (.invokevirtual 356, 3) := by decide +kernel
theorem dX12_areClear_24 : decode cX12_areClear 24 = .ok (.ifCond .eq 7, 3) := by decide +kernel
theorem dX12_areClear_27 : decode cX12_areClear 27 = .ok (.iconst 1, 1) := by decide +kernel
theorem dX12_areClear_28 : decode cX12_areClear 28 = .ok (.goto 4, 3) := by decide +kernel
theorem dX12_areClear_31 : decode cX12_areClear 31 = .ok (.iconst 0, 1) := by decide +kernel
theorem dX12_areClear_32 : decode cX12_areClear 32 = .ok (.istore 4, 2) := by decide +kernel
theorem dX12_areClear_34 : decode cX12_areClear 34 = .ok (.iinc 5 1, 3) := by decide +kernel
theorem dX12_areClear_37 : decode cX12_areClear 37 = .ok (.goto (-31), 3) := by decide +kernel
theorem dX12_areClear_40 : decode cX12_areClear 40 = .ok (.iload 4, 2) := by decide +kernel
theorem dX12_areClear_42 : decode cX12_areClear 42 = .ok (.ireturn, 1) := by decide +kernel
abbrev q_X12_areClear (l : Int) (g : Int) (b : Int) (σ : tw_M) : Option tw_V → tw_M → Prop := fun z τ => ∃ r : Int, z = some (vI r) ∧ (0 ≤ r ∧ r ≤ 1) ∧ tw_I τ ∧ tw_F (fun c j => (c = 88 ∧ (j = 19 ∨ j = 23))) σ τ ∧ ((r = 1 ∧ mAC σ l g b) ∨ (r = 0 ∧ ¬ mAC σ l g b))
set_option maxHeartbeats 4000000 in
set_option maxRecDepth 100000 in
theorem l_X12_areClear {G : tw_G} (hM : tw_isM G) (l : Int) (hl : 1 ≤ l ∧ l ≤ 41) (g : Int) (hg : 0 ≤ g ∧ g ≤ 40) (b : Int) (hb : 1 ≤ b ∧ b ≤ 40) (σ : tw_M) (hI : tw_I σ) : ∀ N_ : Nat, (∀ (i : Int) (hi : 0 ≤ i ∧ i ≤ 1) (h : Int) (hh : 1 ≤ h ∧ h ≤ 41) (τ : tw_M) (hIτ : tw_I τ) (hFτ : tw_F (fun c j => (c = 88 ∧ (j = 19 ∨ j = 23))) σ τ) (i0 : AI σ l h b i) (i1 : l ≤ h) (i2 : h = l ∨ h ≤ g + 1) (hm : (41 - h).toNat < N_), tw_J G (tw_mt RX12 cX12_areClear 6 (some .boolean) 3) (tw_E G (q_X12_areClear l g b σ)) 6 [(0, vR 88), (2, vI g), (3, vI b), (4, vI i), (5, vI h)] [] τ) := by
  intro N_
  induction N_ with
  | zero => exact fun i hi h hh τ hIτ hFτ i0 i1 i2 hm => absurd hm (Nat.not_lt_zero _)
  | succ N_ ih =>
    intro i hi h hh τ hIτ hFτ i0 i1 i2 hm
    have c9 : ∀ x y, mIC τ x y ↔ mIC σ x y := fun x y => mIC_congr (fun j => hFτ 92 j (show ¬ ((92 = 88 ∧ (j = 19 ∨ j = 23))) from fun h => absurd h.1 (by decide))) (hFτ 91 4 (show ¬ ((91 = 88 ∧ (4 = 19 ∨ 4 = 23))) from by decide))
    refine j_iload (pc := 6) dX12_areClear_6 rfl ?_
    refine j_iload_n (pc := 8) dX12_areClear_8 rfl rfl ?_
    refine j_icmpR_gt (pc := 9) (tgt := 40) ⟨by omega, by omega⟩ ⟨by omega, by omega⟩ dX12_areClear_9 rfl (fun h1 => ?_) (fun h1 => ?_)
    · refine j_iload (pc := 40) dX12_areClear_40 rfl ?_
      exact j_zret (pc := 42) ⟨rfl, rfl⟩ dX12_areClear_42 rfl (nar_bool (by omega) (by omega)) ⟨_, rfl, ⟨by omega, by omega⟩, hIτ, hFτ, AI_end i0 (by omega) (by omega)⟩
    · refine j_iload (pc := 12) dX12_areClear_12 rfl ?_
      refine j_ifR_eq (pc := 14) (tgt := 31) ⟨by omega, by omega⟩ dX12_areClear_14 rfl (fun h2 => ?_) (fun h2 => ?_)
      · refine j_iconst (pc := 31) dX12_areClear_31 ?_
        refine j_istore (pc := 32) (i := 4) (ls' := [(0, vR 88), (2, vI g), (3, vI b), (4, vI 0), (5, vI h)]) [1, 2, 3, 0, 4] dX12_areClear_32 (Nat.le_of_ble_eq_true rfl) rfl rfl ?_
        refine j_iinc (pc := 34) (i := 5) (n := 1) (ls' := [(0, vR 88), (2, vI g), (3, vI b), (4, vI 0), (5, vI (h + 1))]) [1, 2, 3, 4, 0] dX12_areClear_34 rfl (Nat.le_of_ble_eq_true rfl) rfl rfl ?_
        refine j_goto (pc := 37) (tgt := 6) dX12_areClear_37 rfl ?_
        refine j_ls (ls' := [(0, vR 88), (2, vI g), (3, vI b), (4, vI 0), (5, vI (h + 1))]) [0, 1, 2, 3, 4] rfl ?_
        exact ih 0 (by (first | decide | exact ⟨by omega, by omega⟩)) (h + 1) ⟨by omega, by omega⟩ τ hIτ hFτ (show AI σ l (h + 1) b (0 : Int) from (by first | exact AI_t i0 (by omega) ((c9 h b).mp ((b01 __0).1 (by omega))) | exact AI_n (by omega) (fun k => (b01 __0).2 (by omega) ((c9 h b).mpr k)) | exact AI_f i0 (by omega) (by omega))) (show l ≤ (h + 1) from by omega) (show (h + 1) = l ∨ (h + 1) ≤ g + 1 from by omega) (show (41 - (h + 1)).toNat < N_ from by omega)
      · refine j_aload_n (pc := 17) dX12_areClear_17 rfl rfl ?_
        refine j_iload (pc := 18) dX12_areClear_18 rfl ?_
        refine j_iload_n (pc := 20) dX12_areClear_20 rfl rfl ?_
        refine j_callV (pc := 21) (As := [vI h, vI b]) (st := []) (c_X12_isClear hM h ⟨by omega, by omega⟩ b ⟨by omega, by omega⟩ τ hIτ) mv_X12_356 rfl rfl rfl (a_88 hM) dX12_areClear_21 ⟨Nat.le_of_ble_eq_true rfl, Nat.le_of_ble_eq_true rfl⟩ ⟨Nat.le_refl _, Nat.le_refl _⟩ rfl (Nat.le_of_ble_eq_true rfl) rfl (fun z3 σ4 hz3 => ?_)
        obtain ⟨r6, rfl, hr6, hIσ4, hGσ4, q5_0⟩ := hz3
        replace q5_0 : (r6 = 1 ∧ mIC τ h b) ∨ (r6 = 0 ∧ ¬ mIC τ h b) := q5_0
        have hFσ4 : tw_F (fun c j => (c = 88 ∧ (j = 19 ∨ j = 23))) σ σ4 := tw_F_tr hFτ hGσ4 (fun c j q => (show (c = 88 ∧ (j = 19 ∨ j = 23)) from by replace q : (c = 88 ∧ (j = 19 ∨ j = 23)) := q; exact q))
        refine j_st (st' := [vI r6]) rfl ?_
        refine j_ifR_eq (pc := 24) (tgt := 31) ⟨by omega, by omega⟩ dX12_areClear_24 rfl (fun h7 => ?_) (fun h7 => ?_)
        · refine j_iconst (pc := 31) dX12_areClear_31 ?_
          refine j_istore (pc := 32) (i := 4) (ls' := [(0, vR 88), (2, vI g), (3, vI b), (4, vI 0), (5, vI h)]) [1, 2, 3, 0, 4] dX12_areClear_32 (Nat.le_of_ble_eq_true rfl) rfl rfl ?_
          refine j_iinc (pc := 34) (i := 5) (n := 1) (ls' := [(0, vR 88), (2, vI g), (3, vI b), (4, vI 0), (5, vI (h + 1))]) [1, 2, 3, 4, 0] dX12_areClear_34 rfl (Nat.le_of_ble_eq_true rfl) rfl rfl ?_
          refine j_goto (pc := 37) (tgt := 6) dX12_areClear_37 rfl ?_
          refine j_ls (ls' := [(0, vR 88), (2, vI g), (3, vI b), (4, vI 0), (5, vI (h + 1))]) [0, 1, 2, 3, 4] rfl ?_
          exact ih 0 (by (first | decide | exact ⟨by omega, by omega⟩)) (h + 1) ⟨by omega, by omega⟩ σ4 hIσ4 hFσ4 (show AI σ l (h + 1) b (0 : Int) from (by first | exact AI_t i0 (by omega) ((c9 h b).mp ((b01 q5_0).1 (by omega))) | exact AI_n (by omega) (fun k => (b01 q5_0).2 (by omega) ((c9 h b).mpr k)) | exact AI_f i0 (by omega) (by omega))) (show l ≤ (h + 1) from by omega) (show (h + 1) = l ∨ (h + 1) ≤ g + 1 from by omega) (show (41 - (h + 1)).toNat < N_ from by omega)
        · refine j_iconst (pc := 27) dX12_areClear_27 ?_
          refine j_goto (pc := 28) (tgt := 32) dX12_areClear_28 rfl ?_
          refine j_istore (pc := 32) (i := 4) (ls' := [(0, vR 88), (2, vI g), (3, vI b), (4, vI 1), (5, vI h)]) [1, 2, 3, 0, 4] dX12_areClear_32 (Nat.le_of_ble_eq_true rfl) rfl rfl ?_
          refine j_iinc (pc := 34) (i := 5) (n := 1) (ls' := [(0, vR 88), (2, vI g), (3, vI b), (4, vI 1), (5, vI (h + 1))]) [1, 2, 3, 4, 0] dX12_areClear_34 rfl (Nat.le_of_ble_eq_true rfl) rfl rfl ?_
          refine j_goto (pc := 37) (tgt := 6) dX12_areClear_37 rfl ?_
          refine j_ls (ls' := [(0, vR 88), (2, vI g), (3, vI b), (4, vI 1), (5, vI (h + 1))]) [0, 1, 2, 3, 4] rfl ?_
          exact ih 1 (by (first | decide | exact ⟨by omega, by omega⟩)) (h + 1) ⟨by omega, by omega⟩ σ4 hIσ4 hFσ4 (show AI σ l (h + 1) b (1 : Int) from (by first | exact AI_t i0 (by omega) ((c9 h b).mp ((b01 q5_0).1 (by omega))) | exact AI_n (by omega) (fun k => (b01 q5_0).2 (by omega) ((c9 h b).mpr k)) | exact AI_f i0 (by omega) (by omega))) (show l ≤ (h + 1) from by omega) (show (h + 1) = l ∨ (h + 1) ≤ g + 1 from by omega) (show (41 - (h + 1)).toNat < N_ from by omega)
set_option maxHeartbeats 4000000 in
set_option maxRecDepth 100000 in
theorem c_X12_areClear {G : tw_G} (hM : tw_isM G) (l : Int) (hl : 1 ≤ l ∧ l ≤ 41) (g : Int) (hg : 0 ≤ g ∧ g ≤ 40) (b : Int) (hb : 1 ≤ b ∧ b ≤ 40) (σ : tw_M) (hI : tw_I σ) : tw_C G yX12_areClear cX12_areClear 6 (some .boolean) 3 [vR 88, vI l, vI g, vI b] σ (q_X12_areClear l g b σ) := by
  refine tw_met [(0, vR 88), (1, vI l), (2, vI g), (3, vI b)] (by decide +kernel) rfl (Nat.le_of_ble_eq_true rfl) ?_
  refine j_iconst (pc := 0) dX12_areClear_0 ?_
  refine j_istore (pc := 1) (i := 4) (ls' := [(0, vR 88), (1, vI l), (2, vI g), (3, vI b), (4, vI 1)]) [1, 2, 3, 4, 0] dX12_areClear_1 (Nat.le_of_ble_eq_true rfl) rfl rfl ?_
  refine j_iload_n (pc := 3) dX12_areClear_3 rfl rfl ?_
  refine j_istore (pc := 4) (i := 5) (ls' := [(0, vR 88), (2, vI g), (3, vI b), (4, vI 1), (5, vI l)]) [1, 3, 4, 5, 0] dX12_areClear_4 (Nat.le_of_ble_eq_true rfl) rfl rfl ?_
  refine j_ls (ls' := [(0, vR 88), (2, vI g), (3, vI b), (4, vI 1), (5, vI l)]) [0, 1, 2, 3, 4] rfl ?_
  exact (l_X12_areClear hM l hl g hg b hb σ hI (((41 - l).toNat) + 1)) 1 (by (first | decide | exact ⟨by omega, by omega⟩)) l ⟨by omega, by omega⟩ σ hI (tw_F_rf) (show AI σ l l b (1 : Int) from AI_0) (show l ≤ l from by omega) (show l = l ∨ l ≤ g + 1 from by omega) (Nat.lt_succ_self _)
