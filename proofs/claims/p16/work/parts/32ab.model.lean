/-! 32ab.model -/
theorem dX12_put_0 : decode cX12_put 0 = .ok (.aload_n 0, 1) := by decide +kernel
theorem dX12_put_1 : decode cX12_put 1 = .ok (.iload_n 1, 1) := by decide +kernel
theorem dX12_put_2 : decode cX12_put 2 = .ok (.iload_n 2, 1) := by decide +kernel
theorem dX12_put_3 : decode cX12_put 3 = .ok (.invokevirtual 195, 3) := by decide +kernel
theorem dX12_put_6 : decode cX12_put 6 = .ok (.istore_n 3, 1) := by decide +kernel
theorem dX12_put_7 : decode cX12_put 7 = .ok (.iload_n 3, 1) := by decide +kernel
theorem dX12_put_8 : decode cX12_put 8 = .ok (.ifCond .eq 5, 3) := by decide +kernel
theorem dX12_put_11 : decode cX12_put 11 = .ok (.iload_n 3, 1) := by decide +kernel
theorem dX12_put_12 : decode cX12_put 12 = .ok (.ireturn, 1) := by decide +kernel
theorem dX12_put_13 : decode cX12_put 13 = .ok (.aload_n 0, 1) := by decide +kernel
theorem dX12_put_14 : decode cX12_put 14 = .ok (.getfield 7, 3) := by decide +kernel
theorem dX12_put_17 : decode cX12_put 17 = .ok (.iload_n 1, 1) := by decide +kernel
theorem dX12_put_18 : decode cX12_put 18 = .ok (.iload_n 2, 1) := by decide +kernel
theorem dX12_put_19 : decode cX12_put 19 = .ok (.iastore, 1) := by decide +kernel
theorem dX12_put_20 : decode cX12_put 20 = .ok (.aload_n 0, 1) := by decide +kernel
theorem dX12_put_21 : decode cX12_put 21 = .ok (.getfield 7, 3) := by decide +kernel
theorem dX12_put_24 : decode cX12_put 24 = .ok (.bipush 41, 2) := by decide +kernel
theorem dX12_put_26 : decode cX12_put 26 = .ok (.iload_n 1, 1) := by decide +kernel
theorem dX12_put_27 : decode cX12_put 27 = .ok (.iadd, 1) := by decide +kernel
theorem dX12_put_28 : decode cX12_put 28 = .ok (.iconst 0, 1) := by decide +kernel
theorem dX12_put_29 : decode cX12_put 29 = .ok (.iastore, 1) := by decide +kernel
theorem dX12_put_30 : decode cX12_put 30 = .ok (.aload_n 0, 1) := by decide +kernel
theorem dX12_put_31 : decode cX12_put 31 = .ok (.getfield 7, 3) := by decide +kernel
theorem dX12_put_34 : decode cX12_put 34 = .ok (.bipush 82, 2) := by decide +kernel
theorem dX12_put_36 : decode cX12_put 36 = .ok (.iload_n 2, 1) := by decide +kernel
theorem dX12_put_37 : decode cX12_put 37 = .ok (.iadd, 1) := by decide +kernel
theorem dX12_put_38 : decode cX12_put 38 = .ok (.dup2, 1) := by decide +kernel
theorem dX12_put_39 : decode cX12_put 39 = .ok (.iaload, 1) := by decide +kernel
theorem dX12_put_40 : decode cX12_put 40 = .ok (.iconst 1, 1) := by decide +kernel
theorem dX12_put_41 : decode cX12_put 41 = .ok (.isub, 1) := by decide +kernel
theorem dX12_put_42 : decode cX12_put 42 = .ok (.iastore, 1) := by decide +kernel
theorem dX12_put_43 : decode cX12_put 43 = .ok (.aload_n 0, 1) := by decide +kernel
theorem dX12_put_44 : decode cX12_put 44 = .ok (.iload_n 1, 1) := by decide +kernel
theorem dX12_put_45 : decode cX12_put 45 = .ok (.invokevirtual 181, 3) := by decide +kernel
theorem dX12_put_48 : decode cX12_put 48 = .ok (.ireturn, 1) := by decide +kernel
abbrev q_X12_put (h : Int) (s : Int) (σ : tw_M) : Option tw_V → tw_M → Prop := fun z τ => ∃ r : Int, z = some (vI r) ∧ (-2147483648 ≤ r ∧ r ≤ 2147483647) ∧ tw_I τ ∧ tw_F (fun c j => (c = 89 ∧ j < 93)) σ τ ∧ (mI τ) ∧ ((¬ whyS (wM σ) (gM 0 σ h.toNat) (cnt (gM 0 σ) (σ 91 0).toNat) (σ 89 (82 + s).toNat) h s = 0 ∧ r = whyS (wM σ) (gM 0 σ h.toNat) (cnt (gM 0 σ) (σ 91 0).toNat) (σ 89 (82 + s).toNat) h s ∧ ∀ c j, τ c j = σ c j) ∨ (whyS (wM σ) (gM 0 σ h.toNat) (cnt (gM 0 σ) (σ 91 0).toNat) (σ 89 (82 + s).toNat) h s = 0 ∧ r = cnt (gM 0 σ) h.toNat ∧ τ 89 h.toNat = s ∧ τ 89 (41 + h).toNat = 0 ∧ (σ 89 (82 + s).toNat < 0 ∨ τ 89 (82 + s).toNat = σ 89 (82 + s).toNat - 1) ∧ ∀ j : Nat, ¬ j = h.toNat → ¬ j = (41 + h).toNat → ¬ j = (82 + s).toNat → τ 89 j = σ 89 j))
set_option maxHeartbeats 4000000 in
set_option maxRecDepth 100000 in
theorem c_X12_put {G : tw_G} (hM : tw_isM G) (h : Int) (hh : -2147483648 ≤ h ∧ h ≤ 2147483647) (s : Int) (hs : -2147483648 ≤ s ∧ s ≤ 2147483647) (σ : tw_M) (hI : tw_I σ) (hq0 : mI σ) : tw_C G yX12_put cX12_put 4 (some .int) 4 [vR 88, vI h, vI s] σ (q_X12_put h s σ) := by
  refine tw_met [(0, vR 88), (1, vI h), (2, vI s)] (by decide +kernel) rfl (Nat.le_of_ble_eq_true rfl) ?_
  refine j_aload_n (pc := 0) dX12_put_0 rfl rfl ?_
  refine j_iload_n (pc := 1) dX12_put_1 rfl rfl ?_
  refine j_iload_n (pc := 2) dX12_put_2 rfl rfl ?_
  refine j_callV (pc := 3) (As := [vI h, vI s]) (st := []) (c_X12_whyNot hM h ⟨by omega, by omega⟩ s ⟨by omega, by omega⟩ σ hI) mv_X12_195 rfl rfl rfl (a_88 hM) dX12_put_3 ⟨Nat.le_of_ble_eq_true rfl, Nat.le_of_ble_eq_true rfl⟩ ⟨Nat.le_refl _, Nat.le_refl _⟩ rfl (Nat.le_of_ble_eq_true rfl) rfl (fun z1 σ2 hz1 => ?_)
  obtain ⟨r4, rfl, hr4, rfl, q3_0, q3_1⟩ := hz1
  replace q3_0 : ¬ r4 = 0 ∨ (1 ≤ h ∧ h ≤ σ 91 0 ∧ h ≤ 40 ∧ 1 ≤ s ∧ s ≤ 10 ∧ σ 89 h.toNat = 0 ∧ ¬ mc σ 0 (σ 91 0).toNat = 10) := q3_0
  replace q3_1 : mI σ → r4 = whyS (wM σ) (gM 0 σ h.toNat) (cnt (gM 0 σ) (σ 91 0).toNat) (σ 89 (82 + s).toNat) h s := q3_1
  refine j_st (st' := [vI r4]) rfl ?_
  refine j_istore_n (pc := 6) (i := 3) (ls' := [(0, vR 88), (1, vI h), (2, vI s), (3, vI r4)]) [1, 2, 3, 0] dX12_put_6 rfl (Nat.le_of_ble_eq_true rfl) rfl rfl ?_
  have wy := q3_1 hq0
  refine j_iload_n (pc := 7) dX12_put_7 rfl rfl ?_
  refine j_ifR_eq (pc := 8) (tgt := 13) ⟨by omega, by omega⟩ dX12_put_8 rfl (fun h5 => ?_) (fun h5 => ?_)
  · refine j_aload_n (pc := 13) dX12_put_13 rfl rfl ?_
    refine j_getR (pc := 14) (r := 89) fl_X12_7 dX12_put_14 (a_88 hM) rfl ?_
    refine j_iload_n (pc := 17) dX12_put_17 rfl rfl ?_
    refine j_iload_n (pc := 18) dX12_put_18 rfl rfl ?_
    refine j_iast (pc := 19) dX12_put_19 (a_89 hM) (by omega) (by omega) (by decide) (j_nm (fun σ6 (eσ6 : σ6 = tw_up σ 89 (h.toNat) s) => ?_))
    have hIσ6 : tw_I σ6 := tw_I_up hI eσ6  (st_wp (by omega) (by omega))
    have hFσ6 : tw_F (fun c j => (c = 89 ∧ j < 93)) σ σ6 := tw_F_up (tw_F_rf) eσ6 (show (89 = 89 ∧ h.toNat < 93) from by omega)
    refine j_aload_n (pc := 20) dX12_put_20 rfl rfl ?_
    refine j_getR (pc := 21) (r := 89) fl_X12_7 dX12_put_21 (a_88 hM) rfl ?_
    refine j_bipush (pc := 24) dX12_put_24 rfl ?_
    refine j_iload_n (pc := 26) dX12_put_26 rfl rfl ?_
    refine j_iadd (pc := 27) dX12_put_27 ?_
    refine j_iconst (pc := 28) dX12_put_28 ?_
    refine j_iast (pc := 29) dX12_put_29 (a_89 hM) (by omega) (by omega) (by decide) (j_nm (fun σ7 (eσ7 : σ7 = tw_up σ6 89 ((41 + h).toNat) 0) => ?_))
    have hIσ7 : tw_I σ7 := tw_I_up hIσ6 eσ7  st_w0
    have hFσ7 : tw_F (fun c j => (c = 89 ∧ j < 93)) σ σ7 := tw_F_up hFσ6 eσ7 (show (89 = 89 ∧ (41 + h).toNat < 93) from by omega)
    refine j_aload_n (pc := 30) dX12_put_30 rfl rfl ?_
    refine j_getR (pc := 31) (r := 89) fl_X12_7 dX12_put_31 (a_88 hM) rfl ?_
    refine j_bipush (pc := 34) dX12_put_34 rfl ?_
    refine j_iload_n (pc := 36) dX12_put_36 rfl rfl ?_
    refine j_iadd (pc := 37) dX12_put_37 ?_
    refine j_dup2 (pc := 38) dX12_put_38 rfl rfl ?_
    refine j_iald (pc := 39) dX12_put_39 (a_89 hM) (by omega) (by omega) (by decide) ?_
    have f8 : (-2147483648 : Int) ≤ σ7 89 ((82 + s).toNat) ∧ σ7 89 ((82 + s).toNat) ≤ 2147483647 := st_D hIσ7 _
    refine j_iconst (pc := 40) dX12_put_40 ?_
    have v3 : σ7 89 (82 + s).toNat = σ 89 (82 + s).toNat := (tw_ne1 eσ7 (by (first | decide | omega))).trans (tw_ne1 eσ6 (by (first | decide | omega)))
    refine j_isub (pc := 41) dX12_put_41 ?_
    refine j_top (fun z9 ez9 hz9 => ?_)
    have gz9 : (σ7 89 ((82 + s).toNat)) - 1 < -2147483648 ∨ 2147483647 < (σ7 89 ((82 + s).toNat)) - 1 ∨ z9 = (σ7 89 ((82 + s).toNat)) - 1 := by rw [ez9]; exact w32_or _
    refine j_iast (pc := 42) dX12_put_42 (a_89 hM) (by omega) (by omega) (by decide) (j_nm (fun σ10 (eσ10 : σ10 = tw_up σ7 89 ((82 + s).toNat) z9) => ?_))
    have hIσ10 : tw_I σ10 := tw_I_up hIσ7 eσ10  (st_wd (by omega) (by omega))
    have hFσ10 : tw_F (fun c j => (c = 89 ∧ j < 93)) σ σ10 := tw_F_up hFσ7 eσ10 (show (89 = 89 ∧ (82 + s).toNat < 93) from by omega)
    refine j_aload_n (pc := 43) dX12_put_43 rfl rfl ?_
    refine j_iload_n (pc := 44) dX12_put_44 rfl rfl ?_
    refine j_callV (pc := 45) (As := [vI h]) (st := []) (c_X12_numberAt hM h ⟨by omega, by omega⟩ σ10 hIσ10) mv_X12_181 rfl rfl rfl (a_88 hM) dX12_put_45 ⟨Nat.le_of_ble_eq_true rfl, Nat.le_of_ble_eq_true rfl⟩ ⟨Nat.le_refl _, Nat.le_refl _⟩ rfl (Nat.le_of_ble_eq_true rfl) rfl (fun z11 σ12 hz11 => ?_)
    obtain ⟨r14, rfl, hr14, rfl, q13_0⟩ := hz11
    replace q13_0 : (0 < σ10 89 h.toNat ∧ r14 = cnt (gM 0 σ10) h.toNat - 1) ∨ (σ10 89 h.toNat ≤ 0 ∧ r14 = -4) := q13_0
    refine j_st (st' := [vI r14]) rfl ?_
    have fin : (¬ whyS (wM σ) (gM 0 σ h.toNat) (cnt (gM 0 σ) (σ 91 0).toNat) (σ 89 (82 + s).toNat) h s = 0 ∧ r14 = whyS (wM σ) (gM 0 σ h.toNat) (cnt (gM 0 σ) (σ 91 0).toNat) (σ 89 (82 + s).toNat) h s ∧ ∀ c j, σ10 c j = σ c j) ∨ (whyS (wM σ) (gM 0 σ h.toNat) (cnt (gM 0 σ) (σ 91 0).toNat) (σ 89 (82 + s).toNat) h s = 0 ∧ r14 = cnt (gM 0 σ) h.toNat ∧ σ10 89 h.toNat = s ∧ σ10 89 (41 + h).toNat = 0 ∧ (σ 89 (82 + s).toNat < 0 ∨ σ10 89 (82 + s).toNat = σ 89 (82 + s).toNat - 1) ∧ ∀ j : Nat, ¬ j = h.toNat → ¬ j = (41 + h).toNat → ¬ j = (82 + s).toNat → σ10 89 j = σ 89 j) := by
      have y0 := why_ok (show whyS (wM σ) (gM 0 σ h.toNat) (cnt (gM 0 σ) (σ 91 0).toNat) (σ 89 (82 + s).toNat) h s = 0 from by omega)
      have g9 : gM 0 σ h.toNat = σ 89 h.toNat := (gM_at (b := 0) ⟨by omega, by omega⟩).trans (by rw [show (0 + h).toNat = h.toNat from by omega])
      have n9 : gM 0 σ10 h.toNat = σ10 89 h.toNat := (gM_at (b := 0) ⟨by omega, by omega⟩).trans (by rw [show (0 + h).toNat = h.toNat from by omega])
      have m1 : σ10 89 h.toNat = s := (tw_ne1 eσ10 (by (first | decide | omega))).trans ((tw_ne1 eσ7 (by (first | decide | omega))).trans (tw_eq1 eσ6))
      have c1 := cnt_si (g := gM 0 σ10) (f := h) (by omega)
      have c2 := cnt_si (g := gM 0 σ) (f := h) (by omega)
      have c3 : cnt (gM 0 σ10) (h - 1).toNat = cnt (gM 0 σ) (h - 1).toNat := cnt_congr (fun f f1 f2 => by
        unfold gM
        rw [if_pos ⟨f1, by omega⟩, if_pos ⟨f1, by omega⟩]
        exact (tw_ne1 eσ10 (by (first | decide | omega))).trans ((tw_ne1 eσ7 (by (first | decide | omega))).trans (tw_ne1 eσ6 (by (first | decide | omega)))))
      have m3 : σ10 89 (82 + s).toNat = z9 := tw_eq1 eσ10
      exact Or.inr ⟨by omega, by omega, m1, (tw_ne1 eσ10 (by (first | decide | omega))).trans (tw_eq1 eσ7), by omega, fun j j1 j2 j3 => (tw_ne1 eσ10 (by (first | decide | omega))).trans ((tw_ne1 eσ7 (by (first | decide | omega))).trans (tw_ne1 eσ6 (by (first | decide | omega))))⟩
    have y15 : σ10 89 ((82 + s).toNat) = z9 := (tw_eq1 eσ10)
    exact j_iret (pc := 48) ⟨rfl, rfl⟩ dX12_put_48 rfl ⟨_, rfl, ⟨by omega, by omega⟩, hIσ10, hFσ10, (by first | exact hq0 | exact mI_put hI hq0 (by omega) (by omega) (by omega) (by omega) eσ6 eσ7 eσ10), fin⟩
  · refine j_iload_n (pc := 11) dX12_put_11 rfl rfl ?_
    have fin : (¬ whyS (wM σ) (gM 0 σ h.toNat) (cnt (gM 0 σ) (σ 91 0).toNat) (σ 89 (82 + s).toNat) h s = 0 ∧ r4 = whyS (wM σ) (gM 0 σ h.toNat) (cnt (gM 0 σ) (σ 91 0).toNat) (σ 89 (82 + s).toNat) h s ∧ ∀ c j, σ c j = σ c j) ∨ (whyS (wM σ) (gM 0 σ h.toNat) (cnt (gM 0 σ) (σ 91 0).toNat) (σ 89 (82 + s).toNat) h s = 0 ∧ r4 = cnt (gM 0 σ) h.toNat ∧ σ 89 h.toNat = s ∧ σ 89 (41 + h).toNat = 0 ∧ (σ 89 (82 + s).toNat < 0 ∨ σ 89 (82 + s).toNat = σ 89 (82 + s).toNat - 1) ∧ ∀ j : Nat, ¬ j = h.toNat → ¬ j = (41 + h).toNat → ¬ j = (82 + s).toNat → σ 89 j = σ 89 j) := Or.inl ⟨by omega, wy, fun c j => rfl⟩
    exact j_iret (pc := 12) ⟨rfl, rfl⟩ dX12_put_12 rfl ⟨_, rfl, ⟨by omega, by omega⟩, hI, (tw_F_rf), (by first | exact hq0 | exact mI_put hI hq0 (by omega) (by omega) (by omega) (by omega) _ _ _), fin⟩
