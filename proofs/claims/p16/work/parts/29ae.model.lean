/-! 29ae.model -/
theorem dX12_adopt_0 : decode cX12_adopt 0 = .ok (.aload_n 0, 1) := by decide +kernel
theorem dX12_adopt_1 : decode cX12_adopt 1 = .ok (.invokevirtual 309, 3) := by decide +kernel
theorem dX12_adopt_4 : decode cX12_adopt 4 = .ok (.aload_n 0, 1) := by decide +kernel
theorem dX12_adopt_5 : decode cX12_adopt 5 = .ok (.getfield 292, 3) := by decide +kernel
theorem dX12_adopt_8 : decode cX12_adopt 8 = .ok (.bipush (-4), 2) := by decide +kernel
theorem dX12_adopt_10 : decode cX12_adopt 10 = .ok (.if_icmp .ne 6, 3) := by decide +kernel
theorem dX12_adopt_13 : decode cX12_adopt 13 = .ok (.bipush (-4), 2) := by decide +kernel
theorem dX12_adopt_15 : decode cX12_adopt 15 = .ok (.ireturn, 1) := by decide +kernel
theorem dX12_adopt_16 : decode cX12_adopt 16 = .ok (.aload_n 0, 1) := by decide +kernel
theorem dX12_adopt_17 : decode cX12_adopt 17 = .ok (.aload_n 0, 1) := by decide +kernel
theorem dX12_adopt_18 : decode cX12_adopt 18 = .ok (.getfield 292, 3) := by decide +kernel
theorem dX12_adopt_21 : decode cX12_adopt 21 = .ok (.invokevirtual 301, 3) := by decide +kernel
theorem dX12_adopt_24 : decode cX12_adopt 24 = .ok (.pop, 1) := by decide +kernel
theorem dX12_adopt_25 : decode cX12_adopt 25 = .ok (.aload_n 0, 1) := by decide +kernel
theorem dX12_adopt_26 : decode cX12_adopt 26 = .ok (.iconst 0, 1) := by decide +kernel
theorem dX12_adopt_27 : decode cX12_adopt 27 = .ok (.sipush 300, 3) := by decide +kernel
theorem dX12_adopt_30 : decode cX12_adopt 30 = .ok (.invokevirtual 283, 3) := by decide +kernel
theorem dX12_adopt_33 : decode cX12_adopt 33 = .ok (.aload_n 0, 1) := by decide +kernel
theorem dX12_adopt_34 : decode cX12_adopt 34 = .ok (.iconst 0, 1) := by decide +kernel
theorem dX12_adopt_35 : decode cX12_adopt 35 = .ok (.invokevirtual 192, 3) := by decide +kernel
theorem dX12_adopt_38 : decode cX12_adopt 38 = .ok (.ireturn, 1) := by decide +kernel
abbrev q_X12_adopt  (σ : tw_M) : Option tw_V → tw_M → Prop := fun z τ => ∃ r : Int, z = some (vI r) ∧ (-2147483648 ≤ r ∧ r ≤ 2147483647) ∧ tw_I τ ∧ tw_F (fun c j => (c = 88 ∧ (j = 19 ∨ j = 20 ∨ j = 21 ∨ j = 22 ∨ j = 23 ∨ j = 24 ∨ j = 25 ∨ j = 26 ∨ j = 27)) ∨ (c = 89 ∧ (j < 100 ∨ 300 ≤ j))) σ τ ∧ (mI τ) ∧ (τ 89 93 = σ 89 93) ∧ (τ 89 94 = σ 89 94) ∧ (τ 89 95 = σ 89 95) ∧ (τ 89 96 = σ 89 96) ∧ (∀ rk : Nat → Int, MOB rk 0 σ → WOK (wM σ) → ∃ p v : Int, BMS (wM σ) rk (pt (kk (wM σ))) p v ∧ ((p = -4 ∧ r = -4 ∧ ∀ j : Nat, j < 100 → τ 89 j = σ 89 j) ∨ (¬ p = -4 ∧ gM 0 τ = lay (wM σ) p ∧ (∀ f : Int, 1 ≤ f → f ≤ 40 → τ 89 (41 + f).toNat = 0) ∧ (∀ x : Int, 1 ≤ x → x ≤ 10 → τ 89 (82 + x).toNat = rk x.toNat - csz (lay (wM σ) p) x 40) ∧ r = cnt (lay (wM σ) p) (σ 91 0).toNat)))
set_option maxHeartbeats 4000000 in
set_option maxRecDepth 100000 in
theorem c_X12_adopt {G : tw_G} (hM : tw_isM G) (σ : tw_M) (hI : tw_I σ) (hq0 : mI σ) : tw_C G yX12_adopt cX12_adopt 1 (some .int) 5 [vR 88] σ (q_X12_adopt σ) := by
  refine tw_met [(0, vR 88)] (by decide +kernel) rfl (Nat.le_of_ble_eq_true rfl) ?_
  refine j_aload_n (pc := 0) dX12_adopt_0 rfl rfl ?_
  refine j_callV (pc := 1) (As := []) (st := []) (c_X12_findPlan hM σ hI) mv_X12_309 rfl rfl rfl (a_88 hM) dX12_adopt_1 ⟨Nat.le_of_ble_eq_true rfl, Nat.le_of_ble_eq_true rfl⟩ ⟨Nat.le_refl _, Nat.le_refl _⟩ rfl (Nat.le_of_ble_eq_true rfl) rfl (fun z1 σ2 hz1 => ?_)
  obtain ⟨rfl, hIσ2, hGσ2, q3_0, q3_1⟩ := hz1
  replace q3_0 : PS σ (σ2 88 26) (p2 (mK σ)) := q3_0
  replace q3_1 : ∀ rk : Nat → Int, MOK rk σ → WOK (wM σ) → BMS (wM σ) rk (pt (kk (wM σ))) (σ2 88 26) (σ2 88 27) := q3_1
  have hFσ2 : tw_F (fun c j => (c = 88 ∧ (j = 19 ∨ j = 20 ∨ j = 21 ∨ j = 22 ∨ j = 23 ∨ j = 24 ∨ j = 25 ∨ j = 26 ∨ j = 27)) ∨ (c = 89 ∧ (j < 100 ∨ 300 ≤ j))) σ σ2 := tw_F_tr (tw_F_rf) hGσ2 (fun c j q => (show (c = 88 ∧ (j = 19 ∨ j = 20 ∨ j = 21 ∨ j = 22 ∨ j = 23 ∨ j = 24 ∨ j = 25 ∨ j = 26 ∨ j = 27)) ∨ (c = 89 ∧ (j < 100 ∨ 300 ≤ j)) from by replace q : (c = 88 ∧ (j = 19 ∨ j = 20 ∨ j = 21 ∨ j = 22 ∨ j = 23 ∨ j = 24 ∨ j = 25 ∨ j = 26 ∨ j = 27)) ∨ (c = 89 ∧ 300 ≤ j) := q; omega))
  refine j_st (st' := []) rfl ?_
  have fp := q3_1
  refine j_aload_n (pc := 4) dX12_adopt_4 rfl rfl ?_
  refine j_getI (pc := 5) fl_X12_292 dX12_adopt_5 (a_88 hM) rfl ?_
  have f5 : (-4 : Int) ≤ σ2 88 26 ∧ σ2 88 26 ≤ 1023 := hIσ2 88 26
  refine j_bipush (pc := 8) dX12_adopt_8 rfl ?_
  refine j_icmpR_ne (pc := 10) (tgt := 16) ⟨by omega, by omega⟩ ⟨by omega, by omega⟩ dX12_adopt_10 rfl (fun h6 => ?_) (fun h6 => ?_)
  · have p89 : ∀ j, j < 100 → σ2 89 j = σ 89 j := fun j hj => hGσ2 89 j (show ¬ ((89 = 88 ∧ (j = 19 ∨ j = 20 ∨ j = 21 ∨ j = 22 ∨ j = 23 ∨ j = 24 ∨ j = 25 ∨ j = 26 ∨ j = 27)) ∨ (89 = 89 ∧ 300 ≤ j)) from by omega)
    refine j_aload_n (pc := 16) dX12_adopt_16 rfl rfl ?_
    refine j_aload_n (pc := 17) dX12_adopt_17 rfl rfl ?_
    refine j_getI (pc := 18) fl_X12_292 dX12_adopt_18 (a_88 hM) rfl ?_
    refine j_callV (pc := 21) (As := [vI (σ2 88 26)]) (st := []) (c_X12_lays hM (σ2 88 26) ⟨by omega, by omega⟩ σ2 hIσ2) mv_X12_301 rfl rfl rfl (a_88 hM) dX12_adopt_21 ⟨Nat.le_of_ble_eq_true rfl, Nat.le_of_ble_eq_true rfl⟩ ⟨Nat.le_refl _, Nat.le_refl _⟩ rfl (Nat.le_of_ble_eq_true rfl) rfl (fun z7 σ8 hz7 => ?_)
    obtain ⟨r10, rfl, hr10, hIσ8, hGσ8, q9_0, q9_1⟩ := hz7
    replace q9_0 : LZ σ2 σ8 (σ2 88 26) r10 := q9_0
    replace q9_1 : ∀ rk : Nat → Int, MOK rk σ2 → LJZ (wM σ2) rk (σ2 88 26) r10 σ8 := q9_1
    have hFσ8 : tw_F (fun c j => (c = 88 ∧ (j = 19 ∨ j = 20 ∨ j = 21 ∨ j = 22 ∨ j = 23 ∨ j = 24 ∨ j = 25 ∨ j = 26 ∨ j = 27)) ∨ (c = 89 ∧ (j < 100 ∨ 300 ≤ j))) σ σ8 := tw_F_tr hFσ2 hGσ8 (fun c j q => (show (c = 88 ∧ (j = 19 ∨ j = 20 ∨ j = 21 ∨ j = 22 ∨ j = 23 ∨ j = 24 ∨ j = 25 ∨ j = 26 ∨ j = 27)) ∨ (c = 89 ∧ (j < 100 ∨ 300 ≤ j)) from by replace q : (c = 89 ∧ 300 ≤ j) := q; omega))
    refine j_st (st' := [vI r10]) rfl ?_
    have c29 : σ8 91 0 = σ 91 0 := hFσ8 91 0 (show ¬ ((91 = 88 ∧ (0 = 19 ∨ 0 = 20 ∨ 0 = 21 ∨ 0 = 22 ∨ 0 = 23 ∨ 0 = 24 ∨ 0 = 25 ∨ 0 = 26 ∨ 0 = 27)) ∨ (91 = 89 ∧ (0 < 100 ∨ 300 ≤ 0))) from by decide)
    have ly := q9_1
    have WP9 : wM σ2 = wM σ := wM_F (fun j a b => hGσ2 91 j (show ¬ ((91 = 88 ∧ (j = 19 ∨ j = 20 ∨ j = 21 ∨ j = 22 ∨ j = 23 ∨ j = 24 ∨ j = 25 ∨ j = 26 ∨ j = 27)) ∨ (91 = 89 ∧ 300 ≤ j)) from fun h => h.elim (fun h => absurd h.1 (by decide)) (fun h => absurd h.1 (by decide)))) (fun j => hGσ2 92 j (show ¬ ((92 = 88 ∧ (j = 19 ∨ j = 20 ∨ j = 21 ∨ j = 22 ∨ j = 23 ∨ j = 24 ∨ j = 25 ∨ j = 26 ∨ j = 27)) ∨ (92 = 89 ∧ 300 ≤ j)) from fun h => h.elim (fun h => absurd h.1 (by decide)) (fun h => absurd h.1 (by decide))))
    have kp : ∀ j, j < 93 → σ2 89 j = σ 89 j := fun j hj => hGσ2 89 j (show ¬ ((89 = 88 ∧ (j = 19 ∨ j = 20 ∨ j = 21 ∨ j = 22 ∨ j = 23 ∨ j = 24 ∨ j = 25 ∨ j = 26 ∨ j = 27)) ∨ (89 = 89 ∧ 300 ≤ j)) from by omega)
    have kt : σ2 91 0 = σ 91 0 := hGσ2 91 0 (show ¬ ((91 = 88 ∧ (0 = 19 ∨ 0 = 20 ∨ 0 = 21 ∨ 0 = 22 ∨ 0 = 23 ∨ 0 = 24 ∨ 0 = 25 ∨ 0 = 26 ∨ 0 = 27)) ∨ (91 = 89 ∧ 300 ≤ 0)) from by decide)
    refine j_pop (pc := 24) dX12_adopt_24 rfl ?_
    refine j_aload_n (pc := 25) dX12_adopt_25 rfl rfl ?_
    refine j_iconst (pc := 26) dX12_adopt_26 ?_
    refine j_sipush (pc := 27) dX12_adopt_27 rfl ?_
    refine j_callV (pc := 30) (As := [vI 0, vI 300]) (st := []) (c_X12_copies hM 0 (by (first | decide | exact ⟨by omega, by omega⟩)) 300 (by (first | decide | exact ⟨by omega, by omega⟩)) σ8 hIσ8 (by omega) (by omega) (by omega)) mv_X12_283 rfl rfl rfl (a_88 hM) dX12_adopt_30 ⟨Nat.le_of_ble_eq_true rfl, Nat.le_of_ble_eq_true rfl⟩ ⟨Nat.le_refl _, Nat.le_refl _⟩ rfl (Nat.le_of_ble_eq_true rfl) rfl (fun z11 σ12 hz11 => ?_)
    obtain ⟨rfl, hIσ12, hGσ12, q13_0⟩ := hz11
    replace q13_0 : ∀ j : Nat, (j : Int) < 100 → σ12 89 ((0 : Int) + (j : Int)).toNat = σ8 89 ((300 : Int) + (j : Int)).toNat := q13_0
    have hFσ12 : tw_F (fun c j => (c = 88 ∧ (j = 19 ∨ j = 20 ∨ j = 21 ∨ j = 22 ∨ j = 23 ∨ j = 24 ∨ j = 25 ∨ j = 26 ∨ j = 27)) ∨ (c = 89 ∧ (j < 100 ∨ 300 ≤ j))) σ σ12 := tw_F_tr hFσ8 hGσ12 (fun c j q => (show (c = 88 ∧ (j = 19 ∨ j = 20 ∨ j = 21 ∨ j = 22 ∨ j = 23 ∨ j = 24 ∨ j = 25 ∨ j = 26 ∨ j = 27)) ∨ (c = 89 ∧ (j < 100 ∨ 300 ≤ j)) from by replace q : (c = 89 ∧ (0 : Int) ≤ (j : Int) ∧ (j : Int) < (0 : Int) + 100) := q; omega))
    refine j_st (st' := []) rfl ?_
    have mI9 : mI σ12 := mI_adopt hI hq0 (fun j h1 h2 => hFσ12 89 j (show ¬ ((89 = 88 ∧ (j = 19 ∨ j = 20 ∨ j = 21 ∨ j = 22 ∨ j = 23 ∨ j = 24 ∨ j = 25 ∨ j = 26 ∨ j = 27)) ∨ (89 = 89 ∧ (j < 100 ∨ 300 ≤ j))) from by omega)) (fun j => hFσ12 90 j (show ¬ ((90 = 88 ∧ (j = 19 ∨ j = 20 ∨ j = 21 ∨ j = 22 ∨ j = 23 ∨ j = 24 ∨ j = 25 ∨ j = 26 ∨ j = 27)) ∨ (90 = 89 ∧ (j < 100 ∨ 300 ≤ j))) from fun h => h.elim (fun h => absurd h.1 (by decide)) (fun h => absurd h.1 (by decide)))) (hFσ12 91 0 (show ¬ ((91 = 88 ∧ (0 = 19 ∨ 0 = 20 ∨ 0 = 21 ∨ 0 = 22 ∨ 0 = 23 ∨ 0 = 24 ∨ 0 = 25 ∨ 0 = 26 ∨ 0 = 27)) ∨ (91 = 89 ∧ (0 < 100 ∨ 300 ≤ 0))) from by decide)) c29 q13_0 (by rw [q9_0.2.1]; exact q9_0.2.2.2.1) (fun j h1 h2 => (q9_0.2.2.2.2.2 j h1 h2).trans (p89 j h2))
    have a93 : σ12 89 93 = σ 89 93 := (cpy q13_0 (j := 93) (by decide) (by omega) (by omega)).trans ((q9_0.2.2.2.2.2 93 (by omega) (by omega)).trans (p89 93 (by omega)))
    have a94 : σ12 89 94 = σ 89 94 := (cpy q13_0 (j := 94) (by decide) (by omega) (by omega)).trans ((q9_0.2.2.2.2.2 94 (by omega) (by omega)).trans (p89 94 (by omega)))
    have a95 : σ12 89 95 = σ 89 95 := (cpy q13_0 (j := 95) (by decide) (by omega) (by omega)).trans ((q9_0.2.2.2.2.2 95 (by omega) (by omega)).trans (p89 95 (by omega)))
    have a96 : σ12 89 96 = σ 89 96 := (cpy q13_0 (j := 96) (by decide) (by omega) (by omega)).trans ((q9_0.2.2.2.2.2 96 (by omega) (by omega)).trans (p89 96 (by omega)))
    refine j_aload_n (pc := 33) dX12_adopt_33 rfl rfl ?_
    refine j_iconst (pc := 34) dX12_adopt_34 ?_
    refine j_callV (pc := 35) (As := [vI 0]) (st := []) (c_X12_all hM 0 (by (first | decide | exact ⟨by omega, by omega⟩)) σ12 hIσ12) mv_X12_192 rfl rfl rfl (a_88 hM) dX12_adopt_35 ⟨Nat.le_of_ble_eq_true rfl, Nat.le_of_ble_eq_true rfl⟩ ⟨Nat.le_refl _, Nat.le_refl _⟩ rfl (Nat.le_of_ble_eq_true rfl) rfl (fun z15 σ16 hz15 => ?_)
    obtain ⟨r18, rfl, hr18, rfl, q17_0⟩ := hz15
    replace q17_0 : r18 = mc σ12 (0 : Int) (σ12 91 0).toNat := q17_0
    refine j_st (st' := [vI r18]) rfl ?_
    have fin : ∀ rk : Nat → Int, MOB rk 0 σ → WOK (wM σ) → ∃ p v : Int, BMS (wM σ) rk (pt (kk (wM σ))) p v ∧ ((p = -4 ∧ r18 = -4 ∧ ∀ j : Nat, j < 100 → σ12 89 j = σ 89 j) ∨ (¬ p = -4 ∧ gM 0 σ12 = lay (wM σ) p ∧ (∀ f : Int, 1 ≤ f → f ≤ 40 → σ12 89 (41 + f).toNat = 0) ∧ (∀ x : Int, 1 ≤ x → x ≤ 10 → σ12 89 (82 + x).toNat = rk x.toNat - csz (lay (wM σ) p) x 40) ∧ r18 = cnt (lay (wM σ) p) (σ 91 0).toNat)) := fun rk M hW => by
      have B := fp rk (MOK_of (hI 91 0).1 M) hW
      have Y := ly rk (MOK_F (MOK_of (hI 91 0).1 M) kp kt)
      rw [WP9] at Y
      have ft : (1 : Int) ≤ σ 91 0 ∧ σ 91 0 ≤ 40 := hI 91 0
      have ng : ¬ σ2 88 26 = -4 := by omega
      have n0 : σ12 91 0 = σ 91 0 := hFσ12 91 0 (show ¬ ((91 = 88 ∧ (0 = 19 ∨ 0 = 20 ∨ 0 = 21 ∨ 0 = 22 ∨ 0 = 23 ∨ 0 = 24 ∨ 0 = 25 ∨ 0 = 26 ∨ 0 = 27)) ∨ (91 = 89 ∧ (0 < 100 ∨ 300 ≤ 0))) from by decide)
      have r9 := q17_0
      rw [n0, mc_gM (by omega)] at r9
      rcases B with ⟨b1, b2⟩ | ⟨b1, b2, b3, b4⟩
      · exact absurd b1 ng
      rcases Y with ⟨y1, y2, y3, y4⟩ | ⟨y1, x, x1, x2, x3⟩
      · have cp := q13_0
        have cj : ∀ j : Int, 0 ≤ j → j < 100 → σ12 89 j.toNat = σ8 89 (300 + j).toNat := fun j j1 j2 => by
          have e := cp j.toNat (by omega)
          rw [show ((j.toNat : Nat) : Int) = j from by omega, show (0 + j).toNat = j.toNat from by omega] at e
          exact e
        have eg : gM 0 σ12 = lay (wM σ) (σ2 88 26) := by
          rw [← y2]
          exact gM_F (fun f f1 f2 => by have e := cj f (by omega) (by omega); rw [show (0 + f).toNat = f.toNat from by omega]; exact e)
        refine ⟨_, _, Or.inr ⟨b1, b2, b3, b4⟩, Or.inr ⟨ng, eg, fun f f1 f2 => ?_, fun x x1 x2 => ?_, by rw [← eg]; exact r9⟩⟩
        · rw [cj (41 + f) (by omega) (by omega), show (300 + (41 + f)).toNat = (341 + f).toNat from by omega]; exact y4 f f1 f2
        · rw [cj (82 + x) (by omega) (by omega), show (300 + (82 + x)).toNat = (382 + x).toNat from by omega]; exact (y3 x x1 x2).1
      · have := b2.1 x x1 x2
        omega
    exact j_iret (pc := 38) ⟨rfl, rfl⟩ dX12_adopt_38 rfl ⟨_, rfl, ⟨by omega, by omega⟩, hIσ12, hFσ12, mI9, (by first | exact a93 | exact hGσ12 89 93 (show ¬ ((89 = 89 ∧ (0 : Int) ≤ (93 : Int) ∧ (93 : Int) < (0 : Int) + 100)) from by omega)), (by first | exact a94 | exact hGσ12 89 94 (show ¬ ((89 = 89 ∧ (0 : Int) ≤ (94 : Int) ∧ (94 : Int) < (0 : Int) + 100)) from by omega)), (by first | exact a95 | exact hGσ12 89 95 (show ¬ ((89 = 89 ∧ (0 : Int) ≤ (95 : Int) ∧ (95 : Int) < (0 : Int) + 100)) from by omega)), (by first | exact a96 | exact hGσ12 89 96 (show ¬ ((89 = 89 ∧ (0 : Int) ≤ (96 : Int) ∧ (96 : Int) < (0 : Int) + 100)) from by omega)), fin⟩
  · have mI9 : mI σ2 := mI_kept hq0 (fun j hj => hGσ2 89 j (show ¬ ((89 = 88 ∧ (j = 19 ∨ j = 20 ∨ j = 21 ∨ j = 22 ∨ j = 23 ∨ j = 24 ∨ j = 25 ∨ j = 26 ∨ j = 27)) ∨ (89 = 89 ∧ 300 ≤ j)) from by omega)) (fun j => hGσ2 90 j (show ¬ ((90 = 88 ∧ (j = 19 ∨ j = 20 ∨ j = 21 ∨ j = 22 ∨ j = 23 ∨ j = 24 ∨ j = 25 ∨ j = 26 ∨ j = 27)) ∨ (90 = 89 ∧ 300 ≤ j)) from fun h => h.elim (fun h => absurd h.1 (by decide)) (fun h => absurd h.1 (by decide)))) (hGσ2 91 0 (show ¬ ((91 = 88 ∧ (0 = 19 ∨ 0 = 20 ∨ 0 = 21 ∨ 0 = 22 ∨ 0 = 23 ∨ 0 = 24 ∨ 0 = 25 ∨ 0 = 26 ∨ 0 = 27)) ∨ (91 = 89 ∧ 300 ≤ 0)) from by decide)) hI
    refine j_bipush (pc := 13) dX12_adopt_13 rfl ?_
    have fin : ∀ rk : Nat → Int, MOB rk 0 σ → WOK (wM σ) → ∃ p v : Int, BMS (wM σ) rk (pt (kk (wM σ))) p v ∧ ((p = -4 ∧ (-4) = -4 ∧ ∀ j : Nat, j < 100 → σ2 89 j = σ 89 j) ∨ (¬ p = -4 ∧ gM 0 σ2 = lay (wM σ) p ∧ (∀ f : Int, 1 ≤ f → f ≤ 40 → σ2 89 (41 + f).toNat = 0) ∧ (∀ x : Int, 1 ≤ x → x ≤ 10 → σ2 89 (82 + x).toNat = rk x.toNat - csz (lay (wM σ) p) x 40) ∧ (-4) = cnt (lay (wM σ) p) (σ 91 0).toNat)) := fun rk M hW => ⟨_, _, fp rk (MOK_of (hI 91 0).1 M) hW, Or.inl ⟨by omega, rfl, fun j hj => hGσ2 89 j (show ¬ ((89 = 88 ∧ (j = 19 ∨ j = 20 ∨ j = 21 ∨ j = 22 ∨ j = 23 ∨ j = 24 ∨ j = 25 ∨ j = 26 ∨ j = 27)) ∨ (89 = 89 ∧ 300 ≤ j)) from by omega)⟩⟩
    exact j_iret (pc := 15) ⟨rfl, rfl⟩ dX12_adopt_15 rfl ⟨_, rfl, ⟨by omega, by omega⟩, hIσ2, hFσ2, mI9, (by first | exact a93 | exact hGσ2 89 93 (show ¬ ((89 = 88 ∧ (93 = 19 ∨ 93 = 20 ∨ 93 = 21 ∨ 93 = 22 ∨ 93 = 23 ∨ 93 = 24 ∨ 93 = 25 ∨ 93 = 26 ∨ 93 = 27)) ∨ (89 = 89 ∧ 300 ≤ 93)) from by decide)), (by first | exact a94 | exact hGσ2 89 94 (show ¬ ((89 = 88 ∧ (94 = 19 ∨ 94 = 20 ∨ 94 = 21 ∨ 94 = 22 ∨ 94 = 23 ∨ 94 = 24 ∨ 94 = 25 ∨ 94 = 26 ∨ 94 = 27)) ∨ (89 = 89 ∧ 300 ≤ 94)) from by decide)), (by first | exact a95 | exact hGσ2 89 95 (show ¬ ((89 = 88 ∧ (95 = 19 ∨ 95 = 20 ∨ 95 = 21 ∨ 95 = 22 ∨ 95 = 23 ∨ 95 = 24 ∨ 95 = 25 ∨ 95 = 26 ∨ 95 = 27)) ∨ (89 = 89 ∧ 300 ≤ 95)) from by decide)), (by first | exact a96 | exact hGσ2 89 96 (show ¬ ((89 = 88 ∧ (96 = 19 ∨ 96 = 20 ∨ 96 = 21 ∨ 96 = 22 ∨ 96 = 23 ∨ 96 = 24 ∨ 96 = 25 ∨ 96 = 26 ∨ 96 = 27)) ∨ (89 = 89 ∧ 300 ≤ 96)) from by decide)), fin⟩
