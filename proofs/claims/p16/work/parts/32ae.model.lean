/-! 32ae.model -/
theorem dX12_strip_0 : decode cX12_strip 0 = .ok (.aload_n 0, 1) := by decide +kernel
theorem dX12_strip_1 : decode cX12_strip 1 = .ok (.iconst 0, 1) := by decide +kernel
theorem dX12_strip_2 : decode cX12_strip 2 = .ok (.invokevirtual 192, 3) := by decide +kernel
theorem dX12_strip_5 : decode cX12_strip 5 = .ok (.istore_n 1, 1) := by decide +kernel
theorem dX12_strip_6 : decode cX12_strip 6 = .ok (.iconst 1, 1) := by decide +kernel
theorem dX12_strip_7 : decode cX12_strip 7 = .ok (.istore_n 2, 1) := by decide +kernel
theorem dX12_strip_8 : decode cX12_strip 8 = .ok (.iload_n 2, 1) := by decide +kernel
theorem dX12_strip_9 : decode cX12_strip 9 = .ok (.aload_n 0, 1) := by decide +kernel
theorem dX12_strip_10 : decode cX12_strip 10 = .ok (.getfield 17, 3) := by decide +kernel
theorem dX12_strip_13 : decode cX12_strip 13 = .ok (.iconst 0, 1) := by decide +kernel
theorem dX12_strip_14 : decode cX12_strip 14 = .ok (.iaload, 1) := by decide +kernel
theorem dX12_strip_15 : decode cX12_strip 15 = .ok (.if_icmp .gt 24, 3) := by decide +kernel
theorem dX12_strip_18 : decode cX12_strip 18 = .ok (.aload_n 0, 1) := by decide +kernel
theorem dX12_strip_19 : decode cX12_strip 19 = .ok (.getfield 7, 3) := by decide +kernel
theorem dX12_strip_22 : decode cX12_strip 22 = .ok (.iload_n 2, 1) := by decide +kernel
theorem dX12_strip_23 : decode cX12_strip 23 = .ok (.iaload, 1) := by decide +kernel
theorem dX12_strip_24 : decode cX12_strip 24 = .ok (.ifCond .le 9, 3) := by decide +kernel
theorem dX12_strip_27 : decode cX12_strip 27 = .ok (.aload_n 0, 1) := by decide +kernel
theorem dX12_strip_28 : decode cX12_strip 28 = .ok (.iload_n 2, 1) := by decide +kernel
theorem dX12_strip_29 : decode cX12_strip 29 = .ok (.invokevirtual 217, 3) := by decide +kernel
theorem dX12_strip_32 : decode cX12_strip 32 = .ok (.pop, 1) := by decide +kernel
theorem dX12_strip_33 : decode cX12_strip 33 = .ok (.iinc 2 1, 3) := by decide +kernel
theorem dX12_strip_36 : decode cX12_strip 36 = .ok (.goto (-28), 3) := by decide +kernel
theorem dX12_strip_39 : decode cX12_strip 39 = .ok (.iload_n 1, 1) := by decide +kernel
theorem dX12_strip_40 : decode cX12_strip 40 = .ok (.ireturn, 1) := by decide +kernel
abbrev q_X12_strip  (σ : tw_M) : Option tw_V → tw_M → Prop := fun z τ => ∃ r : Int, z = some (vI r) ∧ (-2147483648 ≤ r ∧ r ≤ 2147483647) ∧ tw_I τ ∧ tw_F (fun c j => (c = 89 ∧ j < 93)) σ τ ∧ (mI τ) ∧ (∀ rk : Nat → Int, MOB rk 0 σ → r = cnt (gM 0 σ) (σ 91 0).toNat ∧ MOB rk 0 τ ∧ ∀ f : Int, 1 ≤ f → f ≤ τ 91 0 → τ 89 f.toNat = 0)
set_option maxHeartbeats 4000000 in
set_option maxRecDepth 100000 in
theorem l_X12_strip {G : tw_G} (hM : tw_isM G) (σ : tw_M) (hI : tw_I σ) (hq0 : mI σ) : ∀ N_ : Nat, (∀ (m : Int) (hm : 0 ≤ m ∧ m ≤ 40) (h : Int) (hh : 1 ≤ h ∧ h ≤ 41) (τ : tw_M) (hIτ : tw_I τ) (hFτ : tw_F (fun c j => (c = 89 ∧ j < 93)) σ τ) (i0 : mI τ) (i1 : ∀ rk : Nat → Int, MOB rk 0 σ → MOB rk 0 τ ∧ ∀ f : Int, 1 ≤ f → f < h → τ 89 f.toNat = 0) (i2 : m = cnt (gM 0 σ) (σ 91 0).toNat) (hm : (41 - h).toNat < N_), tw_J G (tw_mt RX12 cX12_strip 3 (some .int) 3) (tw_E G (q_X12_strip σ)) 8 [(0, vR 88), (1, vI m), (2, vI h)] [] τ) := by
  intro N_
  induction N_ with
  | zero => exact fun m hm h hh τ hIτ hFτ i0 i1 i2 hm => absurd hm (Nat.not_lt_zero _)
  | succ N_ ih =>
    intro m hm h hh τ hIτ hFτ i0 i1 i2 hm
    have ft : (1 : Int) ≤ σ 91 0 ∧ σ 91 0 ≤ 40 := hI 91 0
    have n0 : τ 91 0 = σ 91 0 := hFτ 91 0 (show ¬ ((91 = 89 ∧ 0 < 93)) from by decide)
    refine j_iload_n (pc := 8) dX12_strip_8 rfl rfl ?_
    refine j_aload_n (pc := 9) dX12_strip_9 rfl rfl ?_
    refine j_getR (pc := 10) (r := 91) fl_X12_17 dX12_strip_10 (a_88 hM) rfl ?_
    refine j_iconst (pc := 13) dX12_strip_13 ?_
    refine j_iald (pc := 14) dX12_strip_14 (a_91 hM) (by omega) (by omega) (by decide) ?_
    refine j_topV (show τ 91 (Int.toNat 0) = τ 91 0 from rfl) ?_
    have f1 : (1 : Int) ≤ τ 91 0 ∧ τ 91 0 ≤ 40 := hIτ 91 0
    refine j_icmpR_gt (pc := 15) (tgt := 39) ⟨by omega, by omega⟩ ⟨by omega, by omega⟩ dX12_strip_15 rfl (fun h2 => ?_) (fun h2 => ?_)
    · refine j_iload_n (pc := 39) dX12_strip_39 rfl rfl ?_
      exact j_iret (pc := 40) ⟨rfl, rfl⟩ dX12_strip_40 rfl ⟨_, rfl, ⟨by omega, by omega⟩, hIτ, hFτ, i0, (fun rk M => ⟨by omega, (i1 rk M).1, fun f f1 f2 => (i1 rk M).2 f f1 (by omega)⟩)⟩
    · refine j_aload_n (pc := 18) dX12_strip_18 rfl rfl ?_
      refine j_getR (pc := 19) (r := 89) fl_X12_7 dX12_strip_19 (a_88 hM) rfl ?_
      refine j_iload_n (pc := 22) dX12_strip_22 rfl rfl ?_
      refine j_iald (pc := 23) dX12_strip_23 (a_89 hM) (by omega) (by omega) (by decide) ?_
      have f3 : (-2147483648 : Int) ≤ τ 89 (h.toNat) ∧ τ 89 (h.toNat) ≤ 2147483647 := st_D hIτ _
      have g4 : (0 : Int) ≤ τ 89 (h.toNat) ∧ τ 89 (h.toNat) ≤ 10 := st_p hIτ (by omega)
      refine j_ifR_le (pc := 24) (tgt := 33) ⟨by omega, by omega⟩ dX12_strip_24 rfl (fun h5 => ?_) (fun h5 => ?_)
      · refine j_iinc (pc := 33) (i := 2) (n := 1) (ls' := [(0, vR 88), (1, vI m), (2, vI (h + 1))]) [1, 2, 0] dX12_strip_33 rfl (Nat.le_of_ble_eq_true rfl) rfl rfl ?_
        refine j_goto (pc := 36) (tgt := 8) dX12_strip_36 rfl ?_
        refine j_ls (ls' := [(0, vR 88), (1, vI m), (2, vI (h + 1))]) [0, 1, 2] rfl ?_
        exact ih m ⟨by omega, by omega⟩ (h + 1) ⟨by omega, by omega⟩ τ hIτ hFτ (show mI τ from (by first | exact __0 | exact i0)) (show ∀ rk : Nat → Int, MOB rk 0 σ → MOB rk 0 τ ∧ ∀ f : Int, 1 ≤ f → f < (h + 1) → τ 89 f.toNat = 0 from (fun rk M => by
                                                              have H := i1 rk M
                                                              first
                                                              | exact ⟨H.1, fun f f1 f2 => by rcases (show f < h ∨ f = h by omega) with z | z; (exact H.2 f f1 z); (rw [z]; omega)⟩
                                                              | (rcases __1 with ⟨z1, z2, z3⟩ | ⟨z1, z2, z3, z4⟩ | ⟨z1, z2, z3, z4, z5, z6, z7, z8⟩; (exfalso; omega); (exfalso; omega); (exact ⟨MOB_take (s := τ 89 h.toNat) H.1 ⟨by omega, by omega⟩ ⟨by omega, by omega⟩ rfl z5 z6 (by (have C := H.1.1 _ (show (1 : Int) ≤ τ 89 h.toNat from by omega) (by omega)); (have C2 : τ 89 (0 + 82 + τ 89 h.toNat).toNat + csz (gM 0 τ) (τ 89 h.toNat) 40 = rk (τ 89 h.toNat).toNat ∧ 0 ≤ τ 89 (0 + 82 + τ 89 h.toNat).toNat ∧ rk (τ 89 h.toNat).toNat ≤ 5 := C); (have n0 := csz_nn (g := gM 0 τ) (s := τ 89 h.toNat) 40); rw [show (0 + 82 + τ 89 h.toNat).toNat = (82 + τ 89 h.toNat).toNat from by omega] at C2; rw [z3] at z7; omega) (by rw [z3] at z8; exact z8) (hG_ 91 0 _), fun f f1 f2 => by rcases (show f < h ∨ f = h by omega) with z | z; (rw [z8 _ (by omega) (by omega) (by omega)]; exact H.2 f f1 z); (rw [z]; exact z5)⟩)))) (show m = cnt (gM 0 σ) (σ 91 0).toNat from by omega) (show (41 - (h + 1)).toNat < N_ from by omega)
      · refine j_aload_n (pc := 27) dX12_strip_27 rfl rfl ?_
        refine j_iload_n (pc := 28) dX12_strip_28 rfl rfl ?_
        refine j_callV (pc := 29) (As := [vI h]) (st := []) (c_X12_take hM h ⟨by omega, by omega⟩ τ hIτ i0) mv_X12_217 rfl rfl rfl (a_88 hM) dX12_strip_29 ⟨Nat.le_of_ble_eq_true rfl, Nat.le_of_ble_eq_true rfl⟩ ⟨Nat.le_refl _, Nat.le_refl _⟩ rfl (Nat.le_of_ble_eq_true rfl) rfl (fun z6 σ7 hz6 => ?_)
        obtain ⟨r9, rfl, hr9, hIσ7, hGσ7, q8_0, q8_1⟩ := hz6
        replace q8_0 : mI σ7 := q8_0
        replace q8_1 : (r9 = -1 ∧ ¬ (1 ≤ h ∧ h ≤ τ 91 0) ∧ ∀ c j, σ7 c j = τ c j) ∨ (r9 = -4 ∧ (1 ≤ h ∧ h ≤ τ 91 0) ∧ τ 89 h.toNat = 0 ∧ ∀ c j, σ7 c j = τ c j) ∨ ((1 ≤ h ∧ h ≤ τ 91 0) ∧ 0 < τ 89 h.toNat ∧ r9 = τ 89 h.toNat ∧ r9 ≤ 10 ∧ σ7 89 h.toNat = 0 ∧ σ7 89 (41 + h).toNat = 0 ∧ (1000 < τ 89 (82 + r9).toNat ∨ τ 89 (82 + r9).toNat < 0 ∨ σ7 89 (82 + r9).toNat = τ 89 (82 + r9).toNat + 1) ∧ ∀ j : Nat, ¬ j = h.toNat → ¬ j = (41 + h).toNat → ¬ j = (82 + r9).toNat → σ7 89 j = τ 89 j) := q8_1
        have hFσ7 : tw_F (fun c j => (c = 89 ∧ j < 93)) σ σ7 := tw_F_tr hFτ hGσ7 (fun c j q => (show (c = 89 ∧ j < 93) from by replace q : (c = 89 ∧ j < 93) := q; exact q))
        refine j_st (st' := [vI r9]) rfl ?_
        refine j_pop (pc := 32) dX12_strip_32 rfl ?_
        refine j_iinc (pc := 33) (i := 2) (n := 1) (ls' := [(0, vR 88), (1, vI m), (2, vI (h + 1))]) [1, 2, 0] dX12_strip_33 rfl (Nat.le_of_ble_eq_true rfl) rfl rfl ?_
        refine j_goto (pc := 36) (tgt := 8) dX12_strip_36 rfl ?_
        refine j_ls (ls' := [(0, vR 88), (1, vI m), (2, vI (h + 1))]) [0, 1, 2] rfl ?_
        exact ih m ⟨by omega, by omega⟩ (h + 1) ⟨by omega, by omega⟩ σ7 hIσ7 hFσ7 (show mI σ7 from (by first | exact q8_0 | exact i0)) (show ∀ rk : Nat → Int, MOB rk 0 σ → MOB rk 0 σ7 ∧ ∀ f : Int, 1 ≤ f → f < (h + 1) → σ7 89 f.toNat = 0 from (fun rk M => by
                                                              have H := i1 rk M
                                                              first
                                                              | exact ⟨H.1, fun f f1 f2 => by rcases (show f < h ∨ f = h by omega) with z | z; (exact H.2 f f1 z); (rw [z]; omega)⟩
                                                              | (rcases q8_1 with ⟨z1, z2, z3⟩ | ⟨z1, z2, z3, z4⟩ | ⟨z1, z2, z3, z4, z5, z6, z7, z8⟩; (exfalso; omega); (exfalso; omega); (exact ⟨MOB_take (s := τ 89 h.toNat) H.1 ⟨by omega, by omega⟩ ⟨by omega, by omega⟩ rfl z5 z6 (by (have C := H.1.1 _ (show (1 : Int) ≤ τ 89 h.toNat from by omega) (by omega)); (have C2 : τ 89 (0 + 82 + τ 89 h.toNat).toNat + csz (gM 0 τ) (τ 89 h.toNat) 40 = rk (τ 89 h.toNat).toNat ∧ 0 ≤ τ 89 (0 + 82 + τ 89 h.toNat).toNat ∧ rk (τ 89 h.toNat).toNat ≤ 5 := C); (have n0 := csz_nn (g := gM 0 τ) (s := τ 89 h.toNat) 40); rw [show (0 + 82 + τ 89 h.toNat).toNat = (82 + τ 89 h.toNat).toNat from by omega] at C2; rw [z3] at z7; omega) (by rw [z3] at z8; exact z8) (hGσ7 91 0 (show ¬ ((91 = 89 ∧ 0 < 93)) from by decide)), fun f f1 f2 => by rcases (show f < h ∨ f = h by omega) with z | z; (rw [z8 _ (by omega) (by omega) (by omega)]; exact H.2 f f1 z); (rw [z]; exact z5)⟩)))) (show m = cnt (gM 0 σ) (σ 91 0).toNat from by omega) (show (41 - (h + 1)).toNat < N_ from by omega)
set_option maxHeartbeats 4000000 in
set_option maxRecDepth 100000 in
theorem c_X12_strip {G : tw_G} (hM : tw_isM G) (σ : tw_M) (hI : tw_I σ) (hq0 : mI σ) : tw_C G yX12_strip cX12_strip 3 (some .int) 3 [vR 88] σ (q_X12_strip σ) := by
  refine tw_met [(0, vR 88)] (by decide +kernel) rfl (Nat.le_of_ble_eq_true rfl) ?_
  refine j_aload_n (pc := 0) dX12_strip_0 rfl rfl ?_
  refine j_iconst (pc := 1) dX12_strip_1 ?_
  refine j_callV (pc := 2) (As := [vI 0]) (st := []) (c_X12_all hM 0 (by (first | decide | exact ⟨by omega, by omega⟩)) σ hI) mv_X12_192 rfl rfl rfl (a_88 hM) dX12_strip_2 ⟨Nat.le_of_ble_eq_true rfl, Nat.le_of_ble_eq_true rfl⟩ ⟨Nat.le_refl _, Nat.le_refl _⟩ rfl (Nat.le_of_ble_eq_true rfl) rfl (fun z10 σ11 hz10 => ?_)
  obtain ⟨r13, rfl, hr13, rfl, q12_0⟩ := hz10
  replace q12_0 : r13 = mc σ (0 : Int) (σ 91 0).toNat := q12_0
  refine j_st (st' := [vI r13]) rfl ?_
  refine j_istore_n (pc := 5) (i := 1) (ls' := [(0, vR 88), (1, vI r13)]) [1, 0] dX12_strip_5 rfl (Nat.le_of_ble_eq_true rfl) rfl rfl ?_
  refine j_iconst (pc := 6) dX12_strip_6 ?_
  refine j_istore_n (pc := 7) (i := 2) (ls' := [(0, vR 88), (1, vI r13), (2, vI 1)]) [1, 2, 0] dX12_strip_7 rfl (Nat.le_of_ble_eq_true rfl) rfl rfl ?_
  refine j_ls (ls' := [(0, vR 88), (1, vI r13), (2, vI 1)]) [0, 1, 2] rfl ?_
  exact (l_X12_strip hM σ hI hq0 (((41 - (1 : Int)).toNat) + 1)) r13 ⟨by omega, by omega⟩ 1 (by (first | decide | exact ⟨by omega, by omega⟩)) σ hI (tw_F_rf) (show mI σ from hq0) (show ∀ rk : Nat → Int, MOB rk 0 σ → MOB rk 0 σ ∧ ∀ f : Int, 1 ≤ f → f < (1 : Int) → σ 89 f.toNat = 0 from (fun rk M => ⟨M, fun f f1 f2 => by exfalso; omega⟩)) (show r13 = cnt (gM 0 σ) (σ 91 0).toNat from (by (have e := q12_0); rw [mc_gM (by have ft : (1 : Int) ≤ σ 91 0 ∧ σ 91 0 ≤ 40 := hI 91 0; omega)] at e; omega)) (Nat.lt_succ_self _)
