/-! 21ad.main -/
theorem dX11_adopt_0 : decode cX11_adopt 0 = .ok (.aload_n 0, 1) := by decide +kernel
theorem dX11_adopt_1 : decode cX11_adopt 1 = .ok (.getfield 67, 3) := by decide +kernel
theorem dX11_adopt_4 : decode cX11_adopt 4 = .ok (.invokevirtual 281, 3) := by decide +kernel
theorem dX11_adopt_7 : decode cX11_adopt 7 = .ok (.aload_n 0, 1) := by decide +kernel
theorem dX11_adopt_8 : decode cX11_adopt 8 = .ok (.getfield 67, 3) := by decide +kernel
theorem dX11_adopt_11 : decode cX11_adopt 11 = .ok (.getfield 284, 3) := by decide +kernel
theorem dX11_adopt_14 : decode cX11_adopt 14 = .ok (.ifCond .ne 6, 3) := by decide +kernel
theorem dX11_adopt_17 : decode cX11_adopt 17 = .ok (.bipush (-4), 2) := by decide +kernel
theorem dX11_adopt_19 : decode cX11_adopt 19 = .ok (.ireturn, 1) := by decide +kernel
theorem dX11_adopt_20 : decode cX11_adopt 20 = .ok (.aload_n 0, 1) := by decide +kernel
theorem dX11_adopt_21 : decode cX11_adopt 21 = .ok (.getfield 26, 3) := by decide +kernel
theorem dX11_adopt_24 : decode cX11_adopt 24 = .ok (.invokevirtual 207, 3) := by decide +kernel
theorem dX11_adopt_27 : decode cX11_adopt 27 = .ok (.pop, 1) := by decide +kernel
theorem dX11_adopt_28 : decode cX11_adopt 28 = .ok (.aload_n 0, 1) := by decide +kernel
theorem dX11_adopt_29 : decode cX11_adopt 29 = .ok (.getfield 67, 3) := by decide +kernel
theorem dX11_adopt_32 : decode cX11_adopt 32 = .ok (.getfield 287, 3) := by decide +kernel
theorem dX11_adopt_35 : decode cX11_adopt 35 = .ok (.astore_n 1, 1) := by decide +kernel
theorem dX11_adopt_36 : decode cX11_adopt 36 = .ok (.iconst 0, 1) := by decide +kernel
theorem dX11_adopt_37 : decode cX11_adopt 37 = .ok (.istore_n 2, 1) := by decide +kernel
theorem dX11_adopt_38 : decode cX11_adopt 38 = .ok (.iload_n 2, 1) := by decide +kernel
theorem dX11_adopt_39 : decode cX11_adopt 39 = .ok (.aload_n 1, 1) := by decide +kernel
theorem dX11_adopt_40 : decode cX11_adopt 40 = .ok (.getfield 187, 3) := by decide +kernel
theorem dX11_adopt_43 : decode cX11_adopt 43 = .ok (.if_icmp .ge 33, 3) := by decide +kernel
theorem dX11_adopt_46 : decode cX11_adopt 46 = .ok (.aload_n 0, 1) := by decide +kernel
theorem dX11_adopt_47 : decode cX11_adopt 47 = .ok (.getfield 26, 3) := by decide +kernel
theorem dX11_adopt_50 : decode cX11_adopt 50 = .ok (.aload_n 0, 1) := by decide +kernel
theorem dX11_adopt_51 : decode cX11_adopt 51 = .ok (.getfield 10, 3) := by decide +kernel
theorem dX11_adopt_54 : decode cX11_adopt 54 = .ok (.aload_n 1, 1) := by decide +kernel
theorem dX11_adopt_55 : decode cX11_adopt 55 = .ok (.getfield 190, 3) := by decide +kernel
theorem dX11_adopt_58 : decode cX11_adopt 58 = .ok (.iload_n 2, 1) := by decide +kernel
theorem dX11_adopt_59 : decode cX11_adopt 59 = .ok (.iaload, 1) := by decide +kernel
theorem dX11_adopt_60 : decode cX11_adopt 60 = .ok (.aload_n 1, 1) := by decide +kernel
theorem dX11_adopt_61 : decode cX11_adopt 61 = .ok (.getfield 193, 3) := by decide +kernel
theorem dX11_adopt_64 : decode cX11_adopt 64 = .ok (.iload_n 2, 1) := by decide +kernel
theorem dX11_adopt_65 : decode cX11_adopt 65 = .ok (.iaload, 1) := by decide +kernel
theorem dX11_adopt_66 : decode cX11_adopt 66 = .ok (.invokevirtual 178, 3) := by decide +kernel
theorem dX11_adopt_69 : decode cX11_adopt 69 = .ok (.pop, 1) := by decide +kernel
theorem dX11_adopt_70 : decode cX11_adopt 70 = .ok (.iinc 2 1, 3) := by decide +kernel
theorem dX11_adopt_73 : decode cX11_adopt 73 = .ok (.goto (-35), 3) := by decide +kernel
theorem dX11_adopt_76 : decode cX11_adopt 76 = .ok (.aload_n 0, 1) := by decide +kernel
theorem dX11_adopt_77 : decode cX11_adopt 77 = .ok (.getfield 26, 3) := by decide +kernel
theorem dX11_adopt_80 : decode cX11_adopt 80 = .ok (.getfield 168, 3) := by decide +kernel
theorem dX11_adopt_83 : decode cX11_adopt 83 = .ok (.getfield 187, 3) := by decide +kernel
theorem dX11_adopt_86 : decode cX11_adopt 86 = .ok (.ireturn, 1) := by decide +kernel
abbrev q_X11_adopt  (σ : tw_M) : Option tw_V → tw_M → Prop := fun z τ => ∃ r : Int, z = some (vI r) ∧ (-2147483648 ≤ r ∧ r ≤ 2147483647) ∧ tw_I τ ∧ tw_F (fun c j => (56 ≤ c ∧ c < 58) ∨ (c = 60 ∧ (j = 5 ∨ j = 6 ∨ j = 8 ∨ j = 10 ∨ j = 11)) ∨ (61 ≤ c ∧ c < 71) ∨ (24 ≤ c ∧ c < 29)) σ τ ∧ (∀ rk : Nat → Int, ADQ rk σ → ADE (wW 1 σ) rk r σ τ)
set_option maxHeartbeats 4000000 in
set_option maxRecDepth 100000 in
theorem l_X11_adopt {G : tw_G} (hX : tw_isX G) (σ : tw_M) (hI : tw_I σ) : ∀ N_ : Nat, (∀ (k : Int) (hk : 0 ≤ k ∧ k ≤ 10) (τ : tw_M) (hIτ : tw_I τ) (hFτ : tw_F (fun c j => (56 ≤ c ∧ c < 58) ∨ (c = 60 ∧ (j = 5 ∨ j = 6 ∨ j = 8 ∨ j = 10 ∨ j = 11)) ∨ (61 ≤ c ∧ c < 71) ∨ (24 ≤ c ∧ c < 29)) σ τ) (i0 : ∀ rk : Nat → Int, ADQ rk σ → ADI (wW 1 σ) rk k τ) (hm : (10 - k).toNat < N_), tw_J G (tw_mt RX11 cX11_adopt 3 (some .int) 45) (tw_E G (q_X11_adopt σ)) 38 [(0, vR 0), (1, vR 67), (2, vI k)] [] τ) := by
  intro N_
  induction N_ with
  | zero => exact fun k hk τ hIτ hFτ i0 hm => absurd hm (Nat.not_lt_zero _)
  | succ N_ ih =>
    intro k hk τ hIτ hFτ i0 hm
    have W1 : wW 1 τ = wW 1 σ := wW_F (fun c j a b => hFτ c j (show ¬ ((56 ≤ c ∧ c < 58) ∨ (c = 60 ∧ (j = 5 ∨ j = 6 ∨ j = 8 ∨ j = 10 ∨ j = 11)) ∨ (61 ≤ c ∧ c < 71) ∨ (24 ≤ c ∧ c < 29)) from by omega))
    refine j_iload_n (pc := 38) dX11_adopt_38 rfl rfl ?_
    refine j_aload_n (pc := 39) dX11_adopt_39 rfl rfl ?_
    refine j_getI (pc := 40) fl_X11_187 dX11_adopt_40 (a_67 hX) rfl ?_
    have f1 : (0 : Int) ≤ τ 67 0 ∧ τ 67 0 ≤ 10 := hIτ 67 0
    refine j_icmpR_ge (pc := 43) (tgt := 76) ⟨by omega, by omega⟩ ⟨by omega, by omega⟩ dX11_adopt_43 rfl (fun h2 => ?_) (fun h2 => ?_)
    · refine j_aload_n (pc := 76) dX11_adopt_76 rfl rfl ?_
      refine j_getR (pc := 77) (r := 23) fl_X11_26 dX11_adopt_77 (a_0 hX) rfl ?_
      refine j_getR (pc := 80) (r := 24) fl_X11_168 dX11_adopt_80 (a_23 hX) rfl ?_
      refine j_getI (pc := 83) fl_X11_187 dX11_adopt_83 (a_24 hX) rfl ?_
      have f3 : (0 : Int) ≤ τ 24 0 ∧ τ 24 0 ≤ 10 := hIτ 24 0
      have fin : ∀ rk : Nat → Int, ADQ rk σ → ADE (wW 1 σ) rk (τ 24 0) σ τ := fun rk Q => ADI_end Q.1 (i0 rk Q) (by omega) rfl
      exact j_iret (pc := 86) ⟨rfl, rfl⟩ dX11_adopt_86 rfl ⟨_, rfl, ⟨by omega, by omega⟩, hIτ, hFτ, fin⟩
    · refine j_aload_n (pc := 46) dX11_adopt_46 rfl rfl ?_
      refine j_getR (pc := 47) (r := 23) fl_X11_26 dX11_adopt_47 (a_0 hX) rfl ?_
      refine j_aload_n (pc := 50) dX11_adopt_50 rfl rfl ?_
      refine j_getR (pc := 51) (r := 1) fl_X11_10 dX11_adopt_51 (a_0 hX) rfl ?_
      refine j_aload_n (pc := 54) dX11_adopt_54 rfl rfl ?_
      refine j_getR (pc := 55) (r := 68) fl_X11_190 dX11_adopt_55 (a_67 hX) rfl ?_
      refine j_iload_n (pc := 58) dX11_adopt_58 rfl rfl ?_
      refine j_iald (pc := 59) dX11_adopt_59 (a_68 hX) (by omega) (by omega) (by decide) ?_
      have f4 : (0 : Int) ≤ τ 68 (k.toNat) ∧ τ 68 (k.toNat) ≤ 40 := hIτ 68 (k.toNat)
      refine j_aload_n (pc := 60) dX11_adopt_60 rfl rfl ?_
      refine j_getR (pc := 61) (r := 69) fl_X11_193 dX11_adopt_61 (a_67 hX) rfl ?_
      refine j_iload_n (pc := 64) dX11_adopt_64 rfl rfl ?_
      refine j_iald (pc := 65) dX11_adopt_65 (a_69 hX) (by omega) (by omega) (by decide) ?_
      have f5 : (0 : Int) ≤ τ 69 (k.toNat) ∧ τ 69 (k.toNat) ≤ 10 := hIτ 69 (k.toNat)
      refine j_callV (pc := 66) (As := [vR 1, vI (τ 68 (k.toNat)), vI (τ 69 (k.toNat))]) (st := []) (c_X3_place 23 (s_Hand_23 hX) 1 (s_Wall_1 hX) (τ 68 (k.toNat)) ⟨by omega, by omega⟩ (τ 69 (k.toNat)) ⟨by omega, by omega⟩ τ hIτ (by omega)) mv_X11_178 rfl rfl rfl (a_23 hX) dX11_adopt_66 ⟨Nat.le_of_ble_eq_true rfl, Nat.le_of_ble_eq_true rfl⟩ ⟨Nat.le_refl _, Nat.le_refl _⟩ rfl (Nat.le_of_ble_eq_true rfl) rfl (fun z6 σ7 hz6 => ?_)
      obtain ⟨r9, rfl, hr9, hIσ7, hGσ7, q8_0⟩ := hz6
      replace q8_0 : ∀ gg qq : Nat → Int, RG 24 gg qq τ → (1 ≤ (τ 69 (k.toNat)) → (τ 69 (k.toNat)) ≤ 10 → 0 ≤ τ 28 (τ 69 (k.toNat)).toNat) → (¬ whyS (wW 1 τ) (gg (τ 68 (k.toNat)).toNat) (τ 24 0) (τ 28 (τ 69 (k.toNat)).toNat) (τ 68 (k.toNat)) (τ 69 (k.toNat)) = 0 ∧ r9 = whyS (wW 1 τ) (gg (τ 68 (k.toNat)).toNat) (τ 24 0) (τ 28 (τ 69 (k.toNat)).toNat) (τ 68 (k.toNat)) (τ 69 (k.toNat)) ∧ ∀ c j, σ7 c j = τ c j) ∨ (whyS (wW 1 τ) (gg (τ 68 (k.toNat)).toNat) (τ 24 0) (τ 28 (τ 69 (k.toNat)).toNat) (τ 68 (k.toNat)) (τ 69 (k.toNat)) = 0 ∧ r9 = cnt gg (τ 68 (k.toNat)).toNat ∧ RG 24 (pg gg (τ 68 (k.toNat)).toNat (τ 69 (k.toNat))) (pg qq (τ 68 (k.toNat)).toNat 0) σ7 ∧ σ7 28 (τ 69 (k.toNat)).toNat = τ 28 (τ 69 (k.toNat)).toNat - 1 ∧ ∀ j : Nat, ¬ j = (τ 69 (k.toNat)).toNat → σ7 28 j = τ 28 j) := q8_0
      have hFσ7 : tw_F (fun c j => (56 ≤ c ∧ c < 58) ∨ (c = 60 ∧ (j = 5 ∨ j = 6 ∨ j = 8 ∨ j = 10 ∨ j = 11)) ∨ (61 ≤ c ∧ c < 71) ∨ (24 ≤ c ∧ c < 29)) σ σ7 := tw_F_tr hFτ hGσ7 (fun c j q => (show (56 ≤ c ∧ c < 58) ∨ (c = 60 ∧ (j = 5 ∨ j = 6 ∨ j = 8 ∨ j = 10 ∨ j = 11)) ∨ (61 ≤ c ∧ c < 71) ∨ (24 ≤ c ∧ c < 29) from by replace q : (24 ≤ c ∧ c < 29) := q; exact (Or.inr (Or.inr (Or.inr q)))))
      refine j_st (st' := [vI r9]) rfl ?_
      refine j_pop (pc := 69) dX11_adopt_69 rfl ?_
      refine j_iinc (pc := 70) (i := 2) (n := 1) (ls' := [(0, vR 0), (1, vR 67), (2, vI (k + 1))]) [1, 2, 0] dX11_adopt_70 rfl (Nat.le_of_ble_eq_true rfl) rfl rfl ?_
      refine j_goto (pc := 73) (tgt := 38) dX11_adopt_73 rfl ?_
      refine j_ls (ls' := [(0, vR 0), (1, vR 67), (2, vI (k + 1))]) [0, 1, 2] rfl ?_
      exact ih (k + 1) ⟨by omega, by omega⟩ σ7 hIσ7 hFσ7 (show ∀ rk : Nat → Int, ADQ rk σ → ADI (wW 1 σ) rk (k + 1) σ7 from (fun rk Q => by
                                                              have H := i0 rk Q
                                                              obtain ⟨o1, o2, o3, o4, o5, o6⟩ := ADI_ok Q.1 H (k := k) ⟨by omega, by omega⟩
                                                              have y := q8_0 _ _ H.2.2.1 (fun _ _ => o2)
                                                              rw [W1] at y
                                                              rcases y with ⟨y1, y2⟩ | ⟨y1, y2, y3, y4, y5⟩
                                                              · exact absurd o1 y1
                                                              · exact ADI_s Q.1 H (k := k) ⟨by omega, by omega⟩ (fun c j a b => hGσ7 c j (show ¬ ((24 ≤ c ∧ c < 29)) from by omega)) y3 y4 y5)) (show (10 - (k + 1)).toNat < N_ from by omega)
set_option maxHeartbeats 4000000 in
set_option maxRecDepth 100000 in
theorem c_X11_adopt {G : tw_G} (hX : tw_isX G) (σ : tw_M) (hI : tw_I σ) : tw_C G yX11_adopt cX11_adopt 3 (some .int) 45 [vR 0] σ (q_X11_adopt σ) := by
  refine tw_met [(0, vR 0)] (by decide +kernel) rfl (Nat.le_of_ble_eq_true rfl) ?_
  refine j_aload_n (pc := 0) dX11_adopt_0 rfl rfl ?_
  refine j_getR (pc := 1) (r := 60) fl_X11_67 dX11_adopt_1 (a_0 hX) rfl ?_
  refine j_callV (pc := 4) (As := []) (st := []) (c_X5_findPlan hX σ hI) mv_X11_281 rfl rfl rfl (a_60 hX) dX11_adopt_4 ⟨Nat.le_of_ble_eq_true rfl, Nat.le_of_ble_eq_true rfl⟩ ⟨Nat.le_refl _, Nat.le_refl _⟩ rfl (Nat.le_of_ble_eq_true rfl) rfl (fun z10 σ11 hz10 => ?_)
  obtain ⟨rfl, hIσ11, hGσ11, q12_0⟩ := hz10
  replace q12_0 : ∀ rk : Nat → Int, WOK (wW 1 σ) → (∀ s : Int, 1 ≤ s → s ≤ 10 → σ 3 s.toNat = rk s.toNat) → (¬ σ 60 6 = 0 → PLN (wW 1 σ) rk σ) → PLN (wW 1 σ) rk σ11 ∧ σ11 60 6 = 1 := q12_0
  have hFσ11 : tw_F (fun c j => (56 ≤ c ∧ c < 58) ∨ (c = 60 ∧ (j = 5 ∨ j = 6 ∨ j = 8 ∨ j = 10 ∨ j = 11)) ∨ (61 ≤ c ∧ c < 71) ∨ (24 ≤ c ∧ c < 29)) σ σ11 := tw_F_tr (tw_F_rf) hGσ11 (fun c j q => (show (56 ≤ c ∧ c < 58) ∨ (c = 60 ∧ (j = 5 ∨ j = 6 ∨ j = 8 ∨ j = 10 ∨ j = 11)) ∨ (61 ≤ c ∧ c < 71) ∨ (24 ≤ c ∧ c < 29) from by replace q : (56 ≤ c ∧ c < 58) ∨ (c = 60 ∧ (j = 5 ∨ j = 6 ∨ j = 8 ∨ j = 10 ∨ j = 11)) ∨ (61 ≤ c ∧ c < 71) := q; exact (q.elim (fun q => (Or.inl q)) (fun q => (q.elim (fun q => (Or.inr (Or.inl q))) (fun q => (Or.inr (Or.inr (Or.inl q)))))))))
  refine j_st (st' := []) rfl ?_
  have pl := q12_0
  have WA9 : wW 1 σ11 = wW 1 σ := wW_F (fun c j a b => hFσ11 c j (show ¬ ((56 ≤ c ∧ c < 58) ∨ (c = 60 ∧ (j = 5 ∨ j = 6 ∨ j = 8 ∨ j = 10 ∨ j = 11)) ∨ (61 ≤ c ∧ c < 71) ∨ (24 ≤ c ∧ c < 29)) from by omega))
  have fA : ∀ c j : Nat, 23 ≤ c → c < 31 → σ11 c j = σ c j := fun c j a b => hGσ11 c j (show ¬ ((56 ≤ c ∧ c < 58) ∨ (c = 60 ∧ (j = 5 ∨ j = 6 ∨ j = 8 ∨ j = 10 ∨ j = 11)) ∨ (61 ≤ c ∧ c < 71)) from by omega)
  have pq : ∀ rk : Nat → Int, ADQ rk σ → PLN (wW 1 σ) rk σ11 ∧ σ11 60 6 = 1 := fun rk Q => pl rk Q.1 (fun s s1 s2 => (Q.2.1 s s1 s2).1) Q.2.2.1
  refine j_aload_n (pc := 7) dX11_adopt_7 rfl rfl ?_
  refine j_getR (pc := 8) (r := 60) fl_X11_67 dX11_adopt_8 (a_0 hX) rfl ?_
  refine j_getI (pc := 11) fl_X11_284 dX11_adopt_11 (a_60 hX) rfl ?_
  have f14 : (0 : Int) ≤ σ11 60 10 ∧ σ11 60 10 ≤ 1 := hIσ11 60 10
  refine j_ifR_ne (pc := 14) (tgt := 20) ⟨by omega, by omega⟩ dX11_adopt_14 rfl (fun h15 => ?_) (fun h15 => ?_)
  · refine j_aload_n (pc := 20) dX11_adopt_20 rfl rfl ?_
    refine j_getR (pc := 21) (r := 23) fl_X11_26 dX11_adopt_21 (a_0 hX) rfl ?_
    refine j_callV (pc := 24) (As := []) (st := []) (c_X3_takeAll 23 (s_Hand_23 hX) σ11 hIσ11) mv_X11_207 rfl rfl rfl (a_23 hX) dX11_adopt_24 ⟨Nat.le_of_ble_eq_true rfl, Nat.le_of_ble_eq_true rfl⟩ ⟨Nat.le_refl _, Nat.le_refl _⟩ rfl (Nat.le_of_ble_eq_true rfl) rfl (fun z16 σ17 hz16 => ?_)
    obtain ⟨r19, rfl, hr19, hIσ17, hGσ17, q18_0⟩ := hz16
    replace q18_0 : ∀ gg qq rk : Nat → Int, RG 24 gg qq σ11 → CNR rk gg 28 σ11 → r19 = σ11 24 0 ∧ σ17 24 0 = 0 ∧ ∀ x : Int, 1 ≤ x → x ≤ 10 → σ17 28 x.toNat = rk x.toNat := q18_0
    have y20 : σ11 24 0 = σ 24 0 := (hGσ11 24 0 (show ¬ ((56 ≤ 24 ∧ 24 < 58) ∨ (24 = 60 ∧ (0 = 5 ∨ 0 = 6 ∨ 0 = 8 ∨ 0 = 10 ∨ 0 = 11)) ∨ (61 ≤ 24 ∧ 24 < 71)) from by decide))
    have f21 : (0 : Int) ≤ σ 24 0 ∧ σ 24 0 ≤ 10 := hI 24 0
    have hFσ17 : tw_F (fun c j => (56 ≤ c ∧ c < 58) ∨ (c = 60 ∧ (j = 5 ∨ j = 6 ∨ j = 8 ∨ j = 10 ∨ j = 11)) ∨ (61 ≤ c ∧ c < 71) ∨ (24 ≤ c ∧ c < 29)) σ σ17 := tw_F_tr hFσ11 hGσ17 (fun c j q => (show (56 ≤ c ∧ c < 58) ∨ (c = 60 ∧ (j = 5 ∨ j = 6 ∨ j = 8 ∨ j = 10 ∨ j = 11)) ∨ (61 ≤ c ∧ c < 71) ∨ (24 ≤ c ∧ c < 29) from by replace q : (24 ≤ c ∧ c < 29) := q; exact (Or.inr (Or.inr (Or.inr q)))))
    refine j_st (st' := [vI r19]) rfl ?_
    have tk := q18_0
    refine j_pop (pc := 27) dX11_adopt_27 rfl ?_
    refine j_aload_n (pc := 28) dX11_adopt_28 rfl rfl ?_
    refine j_getR (pc := 29) (r := 60) fl_X11_67 dX11_adopt_29 (a_0 hX) rfl ?_
    refine j_getR (pc := 32) (r := 67) fl_X11_287 dX11_adopt_32 (a_60 hX) rfl ?_
    refine j_astore_n (pc := 35) (i := 1) (ls' := [(0, vR 0), (1, vR 67)]) [1, 0] dX11_adopt_35 rfl (Nat.le_of_ble_eq_true rfl) rfl rfl ?_
    refine j_iconst (pc := 36) dX11_adopt_36 ?_
    refine j_istore_n (pc := 37) (i := 2) (ls' := [(0, vR 0), (1, vR 67), (2, vI 0)]) [1, 2, 0] dX11_adopt_37 rfl (Nat.le_of_ble_eq_true rfl) rfl rfl ?_
    refine j_ls (ls' := [(0, vR 0), (1, vR 67), (2, vI 0)]) [0, 1, 2] rfl ?_
    exact (l_X11_adopt hX σ hI (((10 - (0 : Int)).toNat) + 1)) 0 (by (first | decide | exact ⟨by omega, by omega⟩)) σ17 hIσ17 hFσ17 (show ∀ rk : Nat → Int, ADQ rk σ → ADI (wW 1 σ) rk (0 : Int) σ17 from (fun rk Q => by
                                                              obtain ⟨gg, qq, R, C⟩ := Q.2.2.2
                                                              have y := tk gg qq rk (RG_F R (fun c j a b => fA c j (by omega) (by omega))) (fun x x1 x2 => by (have z := C x x1 x2); show σ11 28 x.toNat + _ = _ ∧ 0 ≤ σ11 28 x.toNat ∧ _; rw [fA 28 _ (by omega) (by omega)]; exact z)
                                                              exact ADI_0 Q.1 ⟨(hGσ17 60 10 (show ¬ ((24 ≤ 60 ∧ 60 < 29)) from by decide)).trans (by omega), (hGσ17 60 6 (show ¬ ((24 ≤ 60 ∧ 60 < 29)) from by decide)).trans (pq rk Q).2⟩ (BST_F (pq rk Q).1 (fun j => hGσ17 60 j (show ¬ ((24 ≤ 60 ∧ 60 < 29)) from by decide)) (fun c j a b => hGσ17 c j (show ¬ ((24 ≤ c ∧ c < 29)) from by omega))) y.2.1 y.2.2)) (Nat.lt_succ_self _)
  · refine j_bipush (pc := 17) dX11_adopt_17 rfl ?_
    have fin : ∀ rk : Nat → Int, ADQ rk σ → ADE (wW 1 σ) rk (-4) σ σ11 := fun rk Q => ⟨(pq rk Q).1, (pq rk Q).2, Or.inl ⟨by omega, rfl, fA⟩⟩
    exact j_iret (pc := 19) ⟨rfl, rfl⟩ dX11_adopt_19 rfl ⟨_, rfl, ⟨by omega, by omega⟩, hIσ11, hFσ11, fin⟩
