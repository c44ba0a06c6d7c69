/-! 20ah.main -/
theorem dX11_text_0 : decode cX11_text 0 = .ok (.aload_n 0, 1) := by decide +kernel
theorem dX11_text_1 : decode cX11_text 1 = .ok (.getfield 19, 3) := by decide +kernel
theorem dX11_text_4 : decode cX11_text 4 = .ok (.invokevirtual 109, 3) := by decide +kernel
theorem dX11_text_7 : decode cX11_text 7 = .ok (.aload_n 0, 1) := by decide +kernel
theorem dX11_text_8 : decode cX11_text 8 = .ok (.getfield 19, 3) := by decide +kernel
theorem dX11_text_11 : decode cX11_text 11 = .ok (.iconst 0, 1) := by decide +kernel
theorem dX11_text_12 : decode cX11_text 12 = .ok (.putfield 106, 3) := by decide +kernel
theorem dX11_text_15 : decode cX11_text 15 = .ok (.aload_n 0, 1) := by decide +kernel
theorem dX11_text_16 : decode cX11_text 16 = .ok (.aload_n 0, 1) := by decide +kernel
theorem dX11_text_17 : decode cX11_text 17 = .ok (.getfield 19, 3) := by decide +kernel
theorem dX11_text_20 : decode cX11_text 20 = .ok (.getfield 112, 3) := by decide +kernel
theorem dX11_text_23 : decode cX11_text 23 = .ok (.putfield 91, 3) := by decide +kernel
theorem dX11_text_26 : decode cX11_text 26 = .ok (.aload_n 0, 1) := by decide +kernel
theorem dX11_text_27 : decode cX11_text 27 = .ok (.getfield 91, 3) := by decide +kernel
theorem dX11_text_30 : decode cX11_text 30 = .ok (.ifCond .eq 14, 3) := by decide +kernel
theorem dX11_text_33 : decode cX11_text 33 = .ok (.bipush (-10), 2) := by decide +kernel
theorem dX11_text_35 : decode cX11_text 35 = .ok (.aload_n 0, 1) := by decide +kernel
theorem dX11_text_36 : decode cX11_text 36 = .ok (.getfield 19, 3) := by decide +kernel
theorem dX11_text_39 : decode cX11_text 39 = .ok (.getfield 115, 3) := by decide +kernel
theorem dX11_text_42 : decode cX11_text 42 = .ok (.isub, 1) := by decide +kernel
theorem dX11_text_43 : decode cX11_text 43 = .ok (.ireturn, 1) := by decide +kernel
theorem dX11_text_44 : decode cX11_text 44 = .ok (.aload_n 0, 1) := by decide +kernel
theorem dX11_text_45 : decode cX11_text 45 = .ok (.getfield 10, 3) := by decide +kernel
theorem dX11_text_48 : decode cX11_text 48 = .ok (.aload_n 0, 1) := by decide +kernel
theorem dX11_text_49 : decode cX11_text 49 = .ok (.getfield 19, 3) := by decide +kernel
theorem dX11_text_52 : decode cX11_text 52 = .ok (.getfield 118, 3) := by decide +kernel
theorem dX11_text_55 : decode cX11_text 55 = .ok (.invokevirtual 121, 3) := by decide +kernel
theorem dX11_text_58 : decode cX11_text 58 = .ok (.aload_n 0, 1) := by decide +kernel
theorem dX11_text_59 : decode cX11_text 59 = .ok (.getfield 26, 3) := by decide +kernel
theorem dX11_text_62 : decode cX11_text 62 = .ok (.aload_n 0, 1) := by decide +kernel
theorem dX11_text_63 : decode cX11_text 63 = .ok (.getfield 10, 3) := by decide +kernel
theorem dX11_text_66 : decode cX11_text 66 = .ok (.invokevirtual 99, 3) := by decide +kernel
theorem dX11_text_69 : decode cX11_text 69 = .ok (.aload_n 0, 1) := by decide +kernel
theorem dX11_text_70 : decode cX11_text 70 = .ok (.getfield 30, 3) := by decide +kernel
theorem dX11_text_73 : decode cX11_text 73 = .ok (.iconst 0, 1) := by decide +kernel
theorem dX11_text_74 : decode cX11_text 74 = .ok (.putfield 124, 3) := by decide +kernel
theorem dX11_text_77 : decode cX11_text 77 = .ok (.aload_n 0, 1) := by decide +kernel
theorem dX11_text_78 : decode cX11_text 78 = .ok (.getfield 33, 3) := by decide +kernel
theorem dX11_text_81 : decode cX11_text 81 = .ok (.iconst 0, 1) := by decide +kernel
theorem dX11_text_82 : decode cX11_text 82 = .ok (.putfield 124, 3) := by decide +kernel
theorem dX11_text_85 : decode cX11_text 85 = .ok (.aload_n 0, 1) := by decide +kernel
theorem dX11_text_86 : decode cX11_text 86 = .ok (.getfield 67, 3) := by decide +kernel
theorem dX11_text_89 : decode cX11_text 89 = .ok (.invokevirtual 128, 3) := by decide +kernel
theorem dX11_text_92 : decode cX11_text 92 = .ok (.aload_n 0, 1) := by decide +kernel
theorem dX11_text_93 : decode cX11_text 93 = .ok (.getfield 74, 3) := by decide +kernel
theorem dX11_text_96 : decode cX11_text 96 = .ok (.invokevirtual 131, 3) := by decide +kernel
theorem dX11_text_99 : decode cX11_text 99 = .ok (.aload_n 0, 1) := by decide +kernel
theorem dX11_text_100 : decode cX11_text 100 = .ok (.getfield 81, 3) := by decide +kernel
theorem dX11_text_103 : decode cX11_text 103 = .ok (.invokevirtual 132, 3) := by decide +kernel
theorem dX11_text_106 : decode cX11_text 106 = .ok (.aload_n 0, 1) := by decide +kernel
theorem dX11_text_107 : decode cX11_text 107 = .ok (.getfield 19, 3) := by decide +kernel
theorem dX11_text_110 : decode cX11_text 110 = .ok (.getfield 133, 3) := by decide +kernel
theorem dX11_text_113 : decode cX11_text 113 = .ok (.ireturn, 1) := by decide +kernel
abbrev q_X11_text  (σ : tw_M) : Option tw_V → tw_M → Prop := fun z τ => ∃ r : Int, z = some (vI r) ∧ (-2147483648 ≤ r ∧ r ≤ 2147483647) ∧ tw_I τ ∧ tw_F (fun c j => (c = 10 ∧ (j = 3 ∨ j = 4 ∨ j = 5 ∨ j = 6 ∨ j = 7 ∨ j = 8 ∨ j = 10 ∨ j = 11 ∨ j = 12 ∨ j = 13)) ∨ (12 ≤ c ∧ c < 14) ∨ (14 ≤ c ∧ c < 23) ∨ (1 ≤ c ∧ c < 10) ∨ (23 ≤ c ∧ c < 31) ∨ (c = 31 ∧ (j = 6)) ∨ (c = 39 ∧ (j = 6)) ∨ (c = 60 ∧ (j = 6 ∨ j = 7)) ∨ (c = 71 ∧ (j = 1)) ∨ (c = 76 ∧ (j = 1)) ∨ (c = 0 ∧ (j = 13))) σ τ ∧ (τ 10 10 = 0) ∧ (r = txt (parse (fX σ))) ∧ (τ 0 13 = (parse (fX σ)).1 4) ∧ ((τ 0 13 = 0 ∧ τ 31 6 = 0 ∧ τ 39 6 = 0) ∨ (¬ τ 0 13 = 0 ∧ τ 31 6 = σ 31 6 ∧ τ 39 6 = σ 39 6)) ∧ ((τ 0 13 = 0 ∧ τ 29 0 = 0) ∨ (¬ τ 0 13 = 0 ∧ τ 29 0 = σ 29 0)) ∧ ((τ 0 13 = 0 ∧ τ 30 0 = 0) ∨ (¬ τ 0 13 = 0 ∧ τ 30 0 = σ 30 0)) ∧ ((τ 0 13 = 0 ∧ τ 29 1 = 0) ∨ (¬ τ 0 13 = 0 ∧ τ 29 1 = σ 29 1)) ∧ ((τ 0 13 = 0 ∧ τ 30 1 = 0) ∨ (¬ τ 0 13 = 0 ∧ τ 30 1 = σ 30 1)) ∧ ((τ 0 13 = 0 ∧ wW 1 τ = pwB (parse (fX σ)).1 ∧ (∀ j : Nat, j < 11 → τ 3 j = (parse (fX σ)).1 (200 + j)) ∧ τ 24 0 = 0 ∧ (∀ j : Nat, j < 11 → τ 28 j = (parse (fX σ)).1 (200 + j)) ∧ τ 23 4 = (parse (fX σ)).1 105 ∧ τ 23 5 = (parse (fX σ)).1 106 ∧ τ 60 6 = 0) ∨ (¬ τ 0 13 = 0 ∧ ∀ c j : Nat, ((0 < c ∧ c < 10) ∨ (23 ≤ c ∧ c < 88)) → τ c j = σ c j))
set_option maxHeartbeats 4000000 in
set_option maxRecDepth 100000 in
theorem c_X11_text {G : tw_G} (hX : tw_isX G) (σ : tw_M) (hI : tw_I σ) : tw_C G yX11_text cX11_text 1 (some .int) 9 [vR 0] σ (q_X11_text σ) := by
  refine tw_met [(0, vR 0)] (by decide +kernel) rfl (Nat.le_of_ble_eq_true rfl) ?_
  refine j_aload_n (pc := 0) dX11_text_0 rfl rfl ?_
  refine j_getR (pc := 1) (r := 10) fl_X11_19 dX11_text_1 (a_0 hX) rfl ?_
  refine j_callV (pc := 4) (As := []) (st := []) (c_X9_readAll hX σ hI) mv_X11_109 rfl rfl rfl (a_10 hX) dX11_text_4 ⟨Nat.le_of_ble_eq_true rfl, Nat.le_of_ble_eq_true rfl⟩ ⟨Nat.le_refl _, Nat.le_refl _⟩ rfl (Nat.le_of_ble_eq_true rfl) rfl (fun z1 σ2 hz1 => ?_)
  obtain ⟨rfl, hIσ2, hGσ2, q3_0⟩ := hz1
  replace q3_0 : (aX σ2, σ2 10 13) = parse (fX σ) := q3_0
  have hFσ2 : tw_F (fun c j => (c = 10 ∧ (j = 3 ∨ j = 4 ∨ j = 5 ∨ j = 6 ∨ j = 7 ∨ j = 8 ∨ j = 10 ∨ j = 11 ∨ j = 12 ∨ j = 13)) ∨ (12 ≤ c ∧ c < 14) ∨ (14 ≤ c ∧ c < 23) ∨ (1 ≤ c ∧ c < 10) ∨ (23 ≤ c ∧ c < 31) ∨ (c = 31 ∧ (j = 6)) ∨ (c = 39 ∧ (j = 6)) ∨ (c = 60 ∧ (j = 6 ∨ j = 7)) ∨ (c = 71 ∧ (j = 1)) ∨ (c = 76 ∧ (j = 1)) ∨ (c = 0 ∧ (j = 13))) σ σ2 := tw_F_tr (tw_F_rf) hGσ2 (fun c j q => (show (c = 10 ∧ (j = 3 ∨ j = 4 ∨ j = 5 ∨ j = 6 ∨ j = 7 ∨ j = 8 ∨ j = 10 ∨ j = 11 ∨ j = 12 ∨ j = 13)) ∨ (12 ≤ c ∧ c < 14) ∨ (14 ≤ c ∧ c < 23) ∨ (1 ≤ c ∧ c < 10) ∨ (23 ≤ c ∧ c < 31) ∨ (c = 31 ∧ (j = 6)) ∨ (c = 39 ∧ (j = 6)) ∨ (c = 60 ∧ (j = 6 ∨ j = 7)) ∨ (c = 71 ∧ (j = 1)) ∨ (c = 76 ∧ (j = 1)) ∨ (c = 0 ∧ (j = 13)) from by replace q : (c = 10 ∧ (j = 3 ∨ j = 4 ∨ j = 5 ∨ j = 6 ∨ j = 7 ∨ j = 8 ∨ j = 11 ∨ j = 12 ∨ j = 13)) ∨ (12 ≤ c ∧ c < 14) ∨ (14 ≤ c ∧ c < 23) := q; exact (q.elim (fun q => (Or.inl ⟨q.1, (q.2.elim (fun z => (Or.inl z)) (fun z => (z.elim (fun z => (Or.inr (Or.inl z))) (fun z => (z.elim (fun z => (Or.inr (Or.inr (Or.inl z)))) (fun z => (z.elim (fun z => (Or.inr (Or.inr (Or.inr (Or.inl z))))) (fun z => (z.elim (fun z => (Or.inr (Or.inr (Or.inr (Or.inr (Or.inl z)))))) (fun z => (z.elim (fun z => (Or.inr (Or.inr (Or.inr (Or.inr (Or.inr (Or.inl z))))))) (fun z => (z.elim (fun z => (Or.inr (Or.inr (Or.inr (Or.inr (Or.inr (Or.inr (Or.inr (Or.inl z))))))))) (fun z => (z.elim (fun z => (Or.inr (Or.inr (Or.inr (Or.inr (Or.inr (Or.inr (Or.inr (Or.inr (Or.inl z)))))))))) (fun z => (Or.inr (Or.inr (Or.inr (Or.inr (Or.inr (Or.inr (Or.inr (Or.inr (Or.inr z)))))))))))))))))))))))))⟩)) (fun q => (q.elim (fun q => (Or.inr (Or.inl q))) (fun q => (Or.inr (Or.inr (Or.inl q)))))))))
  refine j_st (st' := []) rfl ?_
  have pm := q3_0
  refine j_aload_n (pc := 7) dX11_text_7 rfl rfl ?_
  refine j_getR (pc := 8) (r := 10) fl_X11_19 dX11_text_8 (a_0 hX) rfl ?_
  refine j_iconst (pc := 11) dX11_text_11 ?_
  refine j_putI (pc := 12) fl_X11_106 fp_X9_10 dX11_text_12 (a_10 hX) rfl (j_nm (fun σ5 (eσ5 : σ5 = tw_up σ2 10 10 0) => ?_))
  have hIσ5 : tw_I σ5 := tw_I_up hIσ2 eσ5 (show (0 : Int) ≤ 0 ∧ 0 ≤ 400 from by decide)
  have hFσ5 : tw_F (fun c j => (c = 10 ∧ (j = 3 ∨ j = 4 ∨ j = 5 ∨ j = 6 ∨ j = 7 ∨ j = 8 ∨ j = 10 ∨ j = 11 ∨ j = 12 ∨ j = 13)) ∨ (12 ≤ c ∧ c < 14) ∨ (14 ≤ c ∧ c < 23) ∨ (1 ≤ c ∧ c < 10) ∨ (23 ≤ c ∧ c < 31) ∨ (c = 31 ∧ (j = 6)) ∨ (c = 39 ∧ (j = 6)) ∨ (c = 60 ∧ (j = 6 ∨ j = 7)) ∨ (c = 71 ∧ (j = 1)) ∨ (c = 76 ∧ (j = 1)) ∨ (c = 0 ∧ (j = 13))) σ σ5 := tw_F_up hFσ2 eσ5 (show (10 = 10 ∧ (10 = 3 ∨ 10 = 4 ∨ 10 = 5 ∨ 10 = 6 ∨ 10 = 7 ∨ 10 = 8 ∨ 10 = 10 ∨ 10 = 11 ∨ 10 = 12 ∨ 10 = 13)) ∨ (12 ≤ 10 ∧ 10 < 14) ∨ (14 ≤ 10 ∧ 10 < 23) ∨ (1 ≤ 10 ∧ 10 < 10) ∨ (23 ≤ 10 ∧ 10 < 31) ∨ (10 = 31 ∧ (10 = 6)) ∨ (10 = 39 ∧ (10 = 6)) ∨ (10 = 60 ∧ (10 = 6 ∨ 10 = 7)) ∨ (10 = 71 ∧ (10 = 1)) ∨ (10 = 76 ∧ (10 = 1)) ∨ (10 = 0 ∧ (10 = 13)) from (Or.inl ⟨rfl, (Or.inr (Or.inr (Or.inr (Or.inr (Or.inr (Or.inr (Or.inl rfl)))))))⟩))
  refine j_aload_n (pc := 15) dX11_text_15 rfl rfl ?_
  refine j_aload_n (pc := 16) dX11_text_16 rfl rfl ?_
  refine j_getR (pc := 17) (r := 10) fl_X11_19 dX11_text_17 (a_0 hX) rfl ?_
  refine j_getI (pc := 20) fl_X11_112 dX11_text_20 (a_10 hX) rfl ?_
  refine j_topV (show σ5 10 11 = σ2 10 11 from (tw_ne1 eσ5 (by (first | decide | omega)))) ?_
  have f6 : (0 : Int) ≤ σ2 10 11 ∧ σ2 10 11 ≤ 5 := hIσ2 10 11
  refine j_putI (pc := 23) fl_X11_91 fp_X11_13 dX11_text_23 (a_0 hX) rfl (j_nm (fun σ7 (eσ7 : σ7 = tw_up σ5 0 13 (σ2 10 11)) => ?_))
  have hIσ7 : tw_I σ7 := tw_I_up hIσ5 eσ7 (show (-2147483648 : Int) ≤ σ2 10 11 ∧ σ2 10 11 ≤ 2147483647 from ⟨by omega, by omega⟩)
  have hFσ7 : tw_F (fun c j => (c = 10 ∧ (j = 3 ∨ j = 4 ∨ j = 5 ∨ j = 6 ∨ j = 7 ∨ j = 8 ∨ j = 10 ∨ j = 11 ∨ j = 12 ∨ j = 13)) ∨ (12 ≤ c ∧ c < 14) ∨ (14 ≤ c ∧ c < 23) ∨ (1 ≤ c ∧ c < 10) ∨ (23 ≤ c ∧ c < 31) ∨ (c = 31 ∧ (j = 6)) ∨ (c = 39 ∧ (j = 6)) ∨ (c = 60 ∧ (j = 6 ∨ j = 7)) ∨ (c = 71 ∧ (j = 1)) ∨ (c = 76 ∧ (j = 1)) ∨ (c = 0 ∧ (j = 13))) σ σ7 := tw_F_up hFσ5 eσ7 (show (0 = 10 ∧ (13 = 3 ∨ 13 = 4 ∨ 13 = 5 ∨ 13 = 6 ∨ 13 = 7 ∨ 13 = 8 ∨ 13 = 10 ∨ 13 = 11 ∨ 13 = 12 ∨ 13 = 13)) ∨ (12 ≤ 0 ∧ 0 < 14) ∨ (14 ≤ 0 ∧ 0 < 23) ∨ (1 ≤ 0 ∧ 0 < 10) ∨ (23 ≤ 0 ∧ 0 < 31) ∨ (0 = 31 ∧ (13 = 6)) ∨ (0 = 39 ∧ (13 = 6)) ∨ (0 = 60 ∧ (13 = 6 ∨ 13 = 7)) ∨ (0 = 71 ∧ (13 = 1)) ∨ (0 = 76 ∧ (13 = 1)) ∨ (0 = 0 ∧ (13 = 13)) from (Or.inr (Or.inr (Or.inr (Or.inr (Or.inr (Or.inr (Or.inr (Or.inr (Or.inr (Or.inr ⟨rfl, rfl⟩)))))))))))
  refine j_aload_n (pc := 26) dX11_text_26 rfl rfl ?_
  refine j_getI (pc := 27) fl_X11_91 dX11_text_27 (a_0 hX) rfl ?_
  refine j_topV (show σ7 0 13 = σ2 10 11 from (tw_eq1 eσ7)) ?_
  refine j_ifR_eq (pc := 30) (tgt := 44) ⟨by omega, by omega⟩ dX11_text_30 rfl (fun h8 => ?_) (fun h8 => ?_)
  · have dB : drX σ7 = drX σ2 := drX_F ((tw_ne1 eσ7 (by decide)).trans (tw_ne1 eσ5 (by decide))) ((tw_ne1 eσ7 (by decide)).trans (tw_ne1 eσ5 (by decide))) (fun c j h => (tw_ne1 eσ7 (by (first | decide | omega))).trans (tw_ne1 eσ5 (by (first | decide | omega))))
    have f11 : σ2 10 11 = 0 := by omega
    have pw := pwB_X pm f11
    refine j_aload_n (pc := 44) dX11_text_44 rfl rfl ?_
    refine j_getR (pc := 45) (r := 1) fl_X11_10 dX11_text_45 (a_0 hX) rfl ?_
    refine j_aload_n (pc := 48) dX11_text_48 rfl rfl ?_
    refine j_getR (pc := 49) (r := 10) fl_X11_19 dX11_text_49 (a_0 hX) rfl ?_
    refine j_getR (pc := 52) (r := 14) fl_X11_118 dX11_text_52 (a_10 hX) rfl ?_
    refine j_callV (pc := 55) (As := [vR 14]) (st := []) (c_X10_copyOf 1 (s_Wall_1 hX) 14 (s_Wall_14 hX) σ7 hIσ7 (by omega)) mv_X11_121 rfl rfl rfl (a_1 hX) dX11_text_55 ⟨Nat.le_of_ble_eq_true rfl, Nat.le_of_ble_eq_true rfl⟩ ⟨Nat.le_refl _, Nat.le_refl _⟩ rfl (Nat.le_of_ble_eq_true rfl) rfl (fun z9 σ10 hz9 => ?_)
    obtain ⟨rfl, hIσ10, hGσ10, q11_0, q11_1, q11_2, q11_3, q11_4, q11_5, q11_6, q11_7⟩ := hz9
    replace q11_0 : Cn 2 (σ7 15) σ10 9 := q11_0
    replace q11_1 : Cn 3 (σ7 16) σ10 11 := q11_1
    replace q11_2 : Cn 4 (σ7 17) σ10 41 := q11_2
    replace q11_3 : Cn 5 (σ7 18) σ10 41 := q11_3
    replace q11_4 : Cn 6 (σ7 19) σ10 41 := q11_4
    replace q11_5 : Cn 7 (σ7 20) σ10 41 := q11_5
    replace q11_6 : Cn 8 (σ7 21) σ10 41 := q11_6
    replace q11_7 : Cn 9 (hiL (σ7 19)) σ10 41 := q11_7
    have hFσ10 : tw_F (fun c j => (c = 10 ∧ (j = 3 ∨ j = 4 ∨ j = 5 ∨ j = 6 ∨ j = 7 ∨ j = 8 ∨ j = 10 ∨ j = 11 ∨ j = 12 ∨ j = 13)) ∨ (12 ≤ c ∧ c < 14) ∨ (14 ≤ c ∧ c < 23) ∨ (1 ≤ c ∧ c < 10) ∨ (23 ≤ c ∧ c < 31) ∨ (c = 31 ∧ (j = 6)) ∨ (c = 39 ∧ (j = 6)) ∨ (c = 60 ∧ (j = 6 ∨ j = 7)) ∨ (c = 71 ∧ (j = 1)) ∨ (c = 76 ∧ (j = 1)) ∨ (c = 0 ∧ (j = 13))) σ σ10 := tw_F_tr hFσ7 hGσ10 (fun c j q => (show (c = 10 ∧ (j = 3 ∨ j = 4 ∨ j = 5 ∨ j = 6 ∨ j = 7 ∨ j = 8 ∨ j = 10 ∨ j = 11 ∨ j = 12 ∨ j = 13)) ∨ (12 ≤ c ∧ c < 14) ∨ (14 ≤ c ∧ c < 23) ∨ (1 ≤ c ∧ c < 10) ∨ (23 ≤ c ∧ c < 31) ∨ (c = 31 ∧ (j = 6)) ∨ (c = 39 ∧ (j = 6)) ∨ (c = 60 ∧ (j = 6 ∨ j = 7)) ∨ (c = 71 ∧ (j = 1)) ∨ (c = 76 ∧ (j = 1)) ∨ (c = 0 ∧ (j = 13)) from by replace q : (2 ≤ c ∧ c < 10) := q; exact (Or.inr (Or.inr (Or.inr (Or.inl ⟨Nat.le_trans (by decide) q.1, Nat.lt_of_lt_of_le q.2 (by decide)⟩))))))
    refine j_st (st' := []) rfl ?_
    have w2 := q11_0
    have w3 := q11_1
    have ww : wW 1 σ10 = pwB (parse (fX σ)).1 := by
      rw [← pw.1, ← dB]
      exact wW_of q11_0 q11_2 q11_3 q11_4 q11_5 q11_6 q11_7
    refine j_aload_n (pc := 58) dX11_text_58 rfl rfl ?_
    refine j_getR (pc := 59) (r := 23) fl_X11_26 dX11_text_59 (a_0 hX) rfl ?_
    refine j_aload_n (pc := 62) dX11_text_62 rfl rfl ?_
    refine j_getR (pc := 63) (r := 1) fl_X11_10 dX11_text_63 (a_0 hX) rfl ?_
    refine j_callV (pc := 66) (As := [vR 1]) (st := []) (c_X3_begin 23 (s_Hand_23 hX) 1 (s_Wall_1 hX) σ10 hIσ10 (by omega)) mv_X11_99 rfl rfl rfl (a_23 hX) dX11_text_66 ⟨Nat.le_of_ble_eq_true rfl, Nat.le_of_ble_eq_true rfl⟩ ⟨Nat.le_refl _, Nat.le_refl _⟩ rfl (Nat.le_of_ble_eq_true rfl) rfl (fun z13 σ14 hz13 => ?_)
    obtain ⟨rfl, hIσ14, hGσ14, q15_0, q15_1, q15_2, q15_3, q15_4, q15_5, q15_6, q15_7⟩ := hz13
    replace q15_0 : σ14 29 0 = 0 := q15_0
    replace q15_1 : σ14 30 0 = 0 := q15_1
    replace q15_2 : σ14 29 1 = 0 := q15_2
    replace q15_3 : σ14 30 1 = 0 := q15_3
    replace q15_4 : σ14 24 0 = 0 := q15_4
    replace q15_5 : ∀ j : Nat, j < 11 → σ14 28 j = σ10 3 j := q15_5
    replace q15_6 : σ14 23 4 = σ10 2 5 := q15_6
    replace q15_7 : σ14 23 5 = σ10 2 6 := q15_7
    have hFσ14 : tw_F (fun c j => (c = 10 ∧ (j = 3 ∨ j = 4 ∨ j = 5 ∨ j = 6 ∨ j = 7 ∨ j = 8 ∨ j = 10 ∨ j = 11 ∨ j = 12 ∨ j = 13)) ∨ (12 ≤ c ∧ c < 14) ∨ (14 ≤ c ∧ c < 23) ∨ (1 ≤ c ∧ c < 10) ∨ (23 ≤ c ∧ c < 31) ∨ (c = 31 ∧ (j = 6)) ∨ (c = 39 ∧ (j = 6)) ∨ (c = 60 ∧ (j = 6 ∨ j = 7)) ∨ (c = 71 ∧ (j = 1)) ∨ (c = 76 ∧ (j = 1)) ∨ (c = 0 ∧ (j = 13))) σ σ14 := tw_F_tr hFσ10 hGσ14 (fun c j q => (show (c = 10 ∧ (j = 3 ∨ j = 4 ∨ j = 5 ∨ j = 6 ∨ j = 7 ∨ j = 8 ∨ j = 10 ∨ j = 11 ∨ j = 12 ∨ j = 13)) ∨ (12 ≤ c ∧ c < 14) ∨ (14 ≤ c ∧ c < 23) ∨ (1 ≤ c ∧ c < 10) ∨ (23 ≤ c ∧ c < 31) ∨ (c = 31 ∧ (j = 6)) ∨ (c = 39 ∧ (j = 6)) ∨ (c = 60 ∧ (j = 6 ∨ j = 7)) ∨ (c = 71 ∧ (j = 1)) ∨ (c = 76 ∧ (j = 1)) ∨ (c = 0 ∧ (j = 13)) from by replace q : (23 ≤ c ∧ c < 31) := q; exact (Or.inr (Or.inr (Or.inr (Or.inr (Or.inl q)))))))
    refine j_st (st' := []) rfl ?_
    have hb1 := q15_4
    have hb2 := q15_5
    have hb3 := q15_6
    have hb4 := q15_7
    have fC : ∀ c j : Nat, c < 10 → σ14 c j = σ10 c j := fun c j h => hGσ14 c j (show ¬ ((23 ≤ c ∧ c < 31)) from by omega)
    refine j_aload_n (pc := 69) dX11_text_69 rfl rfl ?_
    refine j_getR (pc := 70) (r := 31) fl_X11_30 dX11_text_70 (a_0 hX) rfl ?_
    refine j_iconst (pc := 73) dX11_text_73 ?_
    refine j_putZ (pc := 74) (by omega) fl_X11_124 fp_X3_6 dX11_text_74 (a_31 hX) rfl (j_nm (fun σ17 (eσ17 : σ17 = tw_up σ14 31 6 0) => ?_))
    have hIσ17 : tw_I σ17 := tw_I_up hIσ14 eσ17 (show (0 : Int) ≤ 0 ∧ 0 ≤ 1 from by decide)
    have hFσ17 : tw_F (fun c j => (c = 10 ∧ (j = 3 ∨ j = 4 ∨ j = 5 ∨ j = 6 ∨ j = 7 ∨ j = 8 ∨ j = 10 ∨ j = 11 ∨ j = 12 ∨ j = 13)) ∨ (12 ≤ c ∧ c < 14) ∨ (14 ≤ c ∧ c < 23) ∨ (1 ≤ c ∧ c < 10) ∨ (23 ≤ c ∧ c < 31) ∨ (c = 31 ∧ (j = 6)) ∨ (c = 39 ∧ (j = 6)) ∨ (c = 60 ∧ (j = 6 ∨ j = 7)) ∨ (c = 71 ∧ (j = 1)) ∨ (c = 76 ∧ (j = 1)) ∨ (c = 0 ∧ (j = 13))) σ σ17 := tw_F_up hFσ14 eσ17 (show (31 = 10 ∧ (6 = 3 ∨ 6 = 4 ∨ 6 = 5 ∨ 6 = 6 ∨ 6 = 7 ∨ 6 = 8 ∨ 6 = 10 ∨ 6 = 11 ∨ 6 = 12 ∨ 6 = 13)) ∨ (12 ≤ 31 ∧ 31 < 14) ∨ (14 ≤ 31 ∧ 31 < 23) ∨ (1 ≤ 31 ∧ 31 < 10) ∨ (23 ≤ 31 ∧ 31 < 31) ∨ (31 = 31 ∧ (6 = 6)) ∨ (31 = 39 ∧ (6 = 6)) ∨ (31 = 60 ∧ (6 = 6 ∨ 6 = 7)) ∨ (31 = 71 ∧ (6 = 1)) ∨ (31 = 76 ∧ (6 = 1)) ∨ (31 = 0 ∧ (6 = 13)) from (Or.inr (Or.inr (Or.inr (Or.inr (Or.inr (Or.inl ⟨rfl, rfl⟩)))))))
    refine j_aload_n (pc := 77) dX11_text_77 rfl rfl ?_
    refine j_getR (pc := 78) (r := 39) fl_X11_33 dX11_text_78 (a_0 hX) rfl ?_
    refine j_iconst (pc := 81) dX11_text_81 ?_
    refine j_putZ (pc := 82) (by omega) fl_X11_124 fp_X3_6 dX11_text_82 (a_39 hX) rfl (j_nm (fun σ18 (eσ18 : σ18 = tw_up σ17 39 6 0) => ?_))
    have hIσ18 : tw_I σ18 := tw_I_up hIσ17 eσ18 (show (0 : Int) ≤ 0 ∧ 0 ≤ 1 from by decide)
    have hFσ18 : tw_F (fun c j => (c = 10 ∧ (j = 3 ∨ j = 4 ∨ j = 5 ∨ j = 6 ∨ j = 7 ∨ j = 8 ∨ j = 10 ∨ j = 11 ∨ j = 12 ∨ j = 13)) ∨ (12 ≤ c ∧ c < 14) ∨ (14 ≤ c ∧ c < 23) ∨ (1 ≤ c ∧ c < 10) ∨ (23 ≤ c ∧ c < 31) ∨ (c = 31 ∧ (j = 6)) ∨ (c = 39 ∧ (j = 6)) ∨ (c = 60 ∧ (j = 6 ∨ j = 7)) ∨ (c = 71 ∧ (j = 1)) ∨ (c = 76 ∧ (j = 1)) ∨ (c = 0 ∧ (j = 13))) σ σ18 := tw_F_up hFσ17 eσ18 (show (39 = 10 ∧ (6 = 3 ∨ 6 = 4 ∨ 6 = 5 ∨ 6 = 6 ∨ 6 = 7 ∨ 6 = 8 ∨ 6 = 10 ∨ 6 = 11 ∨ 6 = 12 ∨ 6 = 13)) ∨ (12 ≤ 39 ∧ 39 < 14) ∨ (14 ≤ 39 ∧ 39 < 23) ∨ (1 ≤ 39 ∧ 39 < 10) ∨ (23 ≤ 39 ∧ 39 < 31) ∨ (39 = 31 ∧ (6 = 6)) ∨ (39 = 39 ∧ (6 = 6)) ∨ (39 = 60 ∧ (6 = 6 ∨ 6 = 7)) ∨ (39 = 71 ∧ (6 = 1)) ∨ (39 = 76 ∧ (6 = 1)) ∨ (39 = 0 ∧ (6 = 13)) from (Or.inr (Or.inr (Or.inr (Or.inr (Or.inr (Or.inr (Or.inl ⟨rfl, rfl⟩))))))))
    refine j_aload_n (pc := 85) dX11_text_85 rfl rfl ?_
    refine j_getR (pc := 86) (r := 60) fl_X11_67 dX11_text_86 (a_0 hX) rfl ?_
    refine j_callV (pc := 89) (As := []) (st := []) (c_X5_forget hX σ18 hIσ18) mv_X11_128 rfl rfl rfl (a_60 hX) dX11_text_89 ⟨Nat.le_of_ble_eq_true rfl, Nat.le_of_ble_eq_true rfl⟩ ⟨Nat.le_refl _, Nat.le_refl _⟩ rfl (Nat.le_of_ble_eq_true rfl) rfl (fun z19 σ20 hz19 => ?_)
    obtain ⟨rfl, hIσ20, hGσ20, q21_0⟩ := hz19
    replace q21_0 : σ20 60 6 = 0 := q21_0
    have hFσ20 : tw_F (fun c j => (c = 10 ∧ (j = 3 ∨ j = 4 ∨ j = 5 ∨ j = 6 ∨ j = 7 ∨ j = 8 ∨ j = 10 ∨ j = 11 ∨ j = 12 ∨ j = 13)) ∨ (12 ≤ c ∧ c < 14) ∨ (14 ≤ c ∧ c < 23) ∨ (1 ≤ c ∧ c < 10) ∨ (23 ≤ c ∧ c < 31) ∨ (c = 31 ∧ (j = 6)) ∨ (c = 39 ∧ (j = 6)) ∨ (c = 60 ∧ (j = 6 ∨ j = 7)) ∨ (c = 71 ∧ (j = 1)) ∨ (c = 76 ∧ (j = 1)) ∨ (c = 0 ∧ (j = 13))) σ σ20 := tw_F_tr hFσ18 hGσ20 (fun c j q => (show (c = 10 ∧ (j = 3 ∨ j = 4 ∨ j = 5 ∨ j = 6 ∨ j = 7 ∨ j = 8 ∨ j = 10 ∨ j = 11 ∨ j = 12 ∨ j = 13)) ∨ (12 ≤ c ∧ c < 14) ∨ (14 ≤ c ∧ c < 23) ∨ (1 ≤ c ∧ c < 10) ∨ (23 ≤ c ∧ c < 31) ∨ (c = 31 ∧ (j = 6)) ∨ (c = 39 ∧ (j = 6)) ∨ (c = 60 ∧ (j = 6 ∨ j = 7)) ∨ (c = 71 ∧ (j = 1)) ∨ (c = 76 ∧ (j = 1)) ∨ (c = 0 ∧ (j = 13)) from by replace q : (c = 60 ∧ (j = 6 ∨ j = 7)) := q; exact (Or.inr (Or.inr (Or.inr (Or.inr (Or.inr (Or.inr (Or.inr (Or.inl q))))))))))
    refine j_st (st' := []) rfl ?_
    refine j_aload_n (pc := 92) dX11_text_92 rfl rfl ?_
    refine j_getR (pc := 93) (r := 71) fl_X11_74 dX11_text_93 (a_0 hX) rfl ?_
    refine j_callV (pc := 96) (As := []) (st := []) (c_X6_forget hX σ20 hIσ20) mv_X11_131 rfl rfl rfl (a_71 hX) dX11_text_96 ⟨Nat.le_of_ble_eq_true rfl, Nat.le_of_ble_eq_true rfl⟩ ⟨Nat.le_refl _, Nat.le_refl _⟩ rfl (Nat.le_of_ble_eq_true rfl) rfl (fun z23 σ24 hz23 => ?_)
    obtain ⟨rfl, hIσ24, hGσ24, -⟩ := hz23
    have hFσ24 : tw_F (fun c j => (c = 10 ∧ (j = 3 ∨ j = 4 ∨ j = 5 ∨ j = 6 ∨ j = 7 ∨ j = 8 ∨ j = 10 ∨ j = 11 ∨ j = 12 ∨ j = 13)) ∨ (12 ≤ c ∧ c < 14) ∨ (14 ≤ c ∧ c < 23) ∨ (1 ≤ c ∧ c < 10) ∨ (23 ≤ c ∧ c < 31) ∨ (c = 31 ∧ (j = 6)) ∨ (c = 39 ∧ (j = 6)) ∨ (c = 60 ∧ (j = 6 ∨ j = 7)) ∨ (c = 71 ∧ (j = 1)) ∨ (c = 76 ∧ (j = 1)) ∨ (c = 0 ∧ (j = 13))) σ σ24 := tw_F_tr hFσ20 hGσ24 (fun c j q => (show (c = 10 ∧ (j = 3 ∨ j = 4 ∨ j = 5 ∨ j = 6 ∨ j = 7 ∨ j = 8 ∨ j = 10 ∨ j = 11 ∨ j = 12 ∨ j = 13)) ∨ (12 ≤ c ∧ c < 14) ∨ (14 ≤ c ∧ c < 23) ∨ (1 ≤ c ∧ c < 10) ∨ (23 ≤ c ∧ c < 31) ∨ (c = 31 ∧ (j = 6)) ∨ (c = 39 ∧ (j = 6)) ∨ (c = 60 ∧ (j = 6 ∨ j = 7)) ∨ (c = 71 ∧ (j = 1)) ∨ (c = 76 ∧ (j = 1)) ∨ (c = 0 ∧ (j = 13)) from by replace q : (c = 71 ∧ (j = 1)) := q; exact (Or.inr (Or.inr (Or.inr (Or.inr (Or.inr (Or.inr (Or.inr (Or.inr (Or.inl q)))))))))))
    refine j_st (st' := []) rfl ?_
    refine j_aload_n (pc := 99) dX11_text_99 rfl rfl ?_
    refine j_getR (pc := 100) (r := 76) fl_X11_81 dX11_text_100 (a_0 hX) rfl ?_
    refine j_callV (pc := 103) (As := []) (st := []) (c_X0_forget hX σ24 hIσ24) mv_X11_132 rfl rfl rfl (a_76 hX) dX11_text_103 ⟨Nat.le_of_ble_eq_true rfl, Nat.le_of_ble_eq_true rfl⟩ ⟨Nat.le_refl _, Nat.le_refl _⟩ rfl (Nat.le_of_ble_eq_true rfl) rfl (fun z27 σ28 hz27 => ?_)
    obtain ⟨rfl, hIσ28, hGσ28, -⟩ := hz27
    have hFσ28 : tw_F (fun c j => (c = 10 ∧ (j = 3 ∨ j = 4 ∨ j = 5 ∨ j = 6 ∨ j = 7 ∨ j = 8 ∨ j = 10 ∨ j = 11 ∨ j = 12 ∨ j = 13)) ∨ (12 ≤ c ∧ c < 14) ∨ (14 ≤ c ∧ c < 23) ∨ (1 ≤ c ∧ c < 10) ∨ (23 ≤ c ∧ c < 31) ∨ (c = 31 ∧ (j = 6)) ∨ (c = 39 ∧ (j = 6)) ∨ (c = 60 ∧ (j = 6 ∨ j = 7)) ∨ (c = 71 ∧ (j = 1)) ∨ (c = 76 ∧ (j = 1)) ∨ (c = 0 ∧ (j = 13))) σ σ28 := tw_F_tr hFσ24 hGσ28 (fun c j q => (show (c = 10 ∧ (j = 3 ∨ j = 4 ∨ j = 5 ∨ j = 6 ∨ j = 7 ∨ j = 8 ∨ j = 10 ∨ j = 11 ∨ j = 12 ∨ j = 13)) ∨ (12 ≤ c ∧ c < 14) ∨ (14 ≤ c ∧ c < 23) ∨ (1 ≤ c ∧ c < 10) ∨ (23 ≤ c ∧ c < 31) ∨ (c = 31 ∧ (j = 6)) ∨ (c = 39 ∧ (j = 6)) ∨ (c = 60 ∧ (j = 6 ∨ j = 7)) ∨ (c = 71 ∧ (j = 1)) ∨ (c = 76 ∧ (j = 1)) ∨ (c = 0 ∧ (j = 13)) from by replace q : (c = 76 ∧ (j = 1)) := q; exact (Or.inr (Or.inr (Or.inr (Or.inr (Or.inr (Or.inr (Or.inr (Or.inr (Or.inr (Or.inl q))))))))))))
    refine j_st (st' := []) rfl ?_
    refine j_aload_n (pc := 106) dX11_text_106 rfl rfl ?_
    refine j_getR (pc := 107) (r := 10) fl_X11_19 dX11_text_107 (a_0 hX) rfl ?_
    refine j_getI (pc := 110) fl_X11_133 dX11_text_110 (a_10 hX) rfl ?_
    refine j_topV (show σ28 10 13 = σ2 10 13 from (((((((((hGσ28 10 13 (show ¬ ((10 = 76 ∧ (13 = 1))) from by decide))).trans (hGσ24 10 13 (show ¬ ((10 = 71 ∧ (13 = 1))) from by decide))).trans (hGσ20 10 13 (show ¬ ((10 = 60 ∧ (13 = 6 ∨ 13 = 7))) from by decide))).trans (tw_ne1 eσ18 (by (first | decide | omega)))).trans (tw_ne1 eσ17 (by (first | decide | omega)))).trans (hGσ14 10 13 (show ¬ ((23 ≤ 10 ∧ 10 < 31)) from by decide))).trans (hGσ10 10 13 (show ¬ ((2 ≤ 10 ∧ 10 < 10)) from by decide))).trans (tw_ne1 eσ7 (by (first | decide | omega)))).trans (tw_ne1 eσ5 (by (first | decide | omega)))) ?_
    have f31 : (0 : Int) ≤ σ2 10 13 ∧ σ2 10 13 ≤ 400 := hIσ2 10 13
    have fin : (σ28 0 13 = 0 ∧ wW 1 σ28 = pwB (parse (fX σ)).1 ∧ (∀ j : Nat, j < 11 → σ28 3 j = (parse (fX σ)).1 (200 + j)) ∧ σ28 24 0 = 0 ∧ (∀ j : Nat, j < 11 → σ28 28 j = (parse (fX σ)).1 (200 + j)) ∧ σ28 23 4 = (parse (fX σ)).1 105 ∧ σ28 23 5 = (parse (fX σ)).1 106 ∧ σ28 60 6 = 0) ∨ (¬ σ28 0 13 = 0 ∧ ∀ c j : Nat, ((0 < c ∧ c < 10) ∨ (23 ≤ c ∧ c < 88)) → σ28 c j = σ c j) := by
      have fD : ∀ c j : Nat, (0 < c ∧ c < 31) → ¬ c = 10 → σ28 c j = σ14 c j := fun c j h h2 => ((((((hGσ28 c j (show ¬ ((c = 76 ∧ (j = 1))) from by omega))).trans (hGσ24 c j (show ¬ ((c = 71 ∧ (j = 1))) from by omega))).trans (hGσ20 c j (show ¬ ((c = 60 ∧ (j = 6 ∨ j = 7))) from by omega))).trans (tw_ne1 eσ18 (by (first | decide | omega)))).trans (tw_ne1 eσ17 (by (first | decide | omega))))
      have k3 : ∀ j : Nat, j < 11 → σ10 3 j = (parse (fX σ)).1 (200 + j) := fun j hj => by
        rw [w3 j (by omega), ← pw.2 (200 + j) (by omega), ← dB, drX_k hj]
      have k2 : ∀ j : Nat, j < 9 → σ10 2 j = (parse (fX σ)).1 (100 + j) := fun j hj => by
        rw [w2 j (by omega), ← pw.2 (100 + j) (by omega), ← dB, drX_r hj]
      refine Or.inl ⟨(((((((((hGσ28 0 13 (show ¬ ((0 = 76 ∧ (13 = 1))) from by decide))).trans (hGσ24 0 13 (show ¬ ((0 = 71 ∧ (13 = 1))) from by decide))).trans (hGσ20 0 13 (show ¬ ((0 = 60 ∧ (13 = 6 ∨ 13 = 7))) from by decide))).trans (tw_ne1 eσ18 (by (first | decide | omega)))).trans (tw_ne1 eσ17 (by (first | decide | omega)))).trans (hGσ14 0 13 (show ¬ ((23 ≤ 0 ∧ 0 < 31)) from by decide))).trans (hGσ10 0 13 (show ¬ ((2 ≤ 0 ∧ 0 < 10)) from by decide))).trans (tw_eq1 eσ7)).trans f11, ?_, fun j hj => ?_, ?_, fun j hj => ?_, ?_, ?_, ?_⟩
      · rw [← ww]; exact wW_F (fun c j a b => (fD c j (by omega) (by omega)).trans (fC c j (by omega)))
      · rw [fD 3 j (by omega) (by omega), fC 3 j (by omega)]; exact k3 j hj
      · rw [fD 24 0 (by omega) (by omega)]; exact hb1
      · rw [fD 28 j (by omega) (by omega), hb2 j hj]; exact k3 j hj
      · rw [fD 23 4 (by omega) (by omega), hb3]; exact k2 5 (by omega)
      · rw [fD 23 5 (by omega) (by omega), hb4]; exact k2 6 (by omega)
      · exact (((hGσ28 60 6 (show ¬ ((60 = 76 ∧ (6 = 1))) from by decide))).trans (hGσ24 60 6 (show ¬ ((60 = 71 ∧ (6 = 1))) from by decide))).trans (by omega)
    have y32 : σ28 10 10 = 0 := (((((((((hGσ28 10 10 (show ¬ ((10 = 76 ∧ (10 = 1))) from by decide))).trans (hGσ24 10 10 (show ¬ ((10 = 71 ∧ (10 = 1))) from by decide))).trans (hGσ20 10 10 (show ¬ ((10 = 60 ∧ (10 = 6 ∨ 10 = 7))) from by decide))).trans (tw_ne1 eσ18 (by (first | decide | omega)))).trans (tw_ne1 eσ17 (by (first | decide | omega)))).trans (hGσ14 10 10 (show ¬ ((23 ≤ 10 ∧ 10 < 31)) from by decide))).trans (hGσ10 10 10 (show ¬ ((2 ≤ 10 ∧ 10 < 10)) from by decide))).trans (tw_ne1 eσ7 (by (first | decide | omega)))).trans (tw_eq1 eσ5)
    have y33 : σ28 0 13 = σ2 10 11 := ((((((((hGσ28 0 13 (show ¬ ((0 = 76 ∧ (13 = 1))) from by decide))).trans (hGσ24 0 13 (show ¬ ((0 = 71 ∧ (13 = 1))) from by decide))).trans (hGσ20 0 13 (show ¬ ((0 = 60 ∧ (13 = 6 ∨ 13 = 7))) from by decide))).trans (tw_ne1 eσ18 (by (first | decide | omega)))).trans (tw_ne1 eσ17 (by (first | decide | omega)))).trans (hGσ14 0 13 (show ¬ ((23 ≤ 0 ∧ 0 < 31)) from by decide))).trans (hGσ10 0 13 (show ¬ ((2 ≤ 0 ∧ 0 < 10)) from by decide))).trans (tw_eq1 eσ7)
    have y34 : σ28 0 13 = σ2 10 11 := ((((((((hGσ28 0 13 (show ¬ ((0 = 76 ∧ (13 = 1))) from by decide))).trans (hGσ24 0 13 (show ¬ ((0 = 71 ∧ (13 = 1))) from by decide))).trans (hGσ20 0 13 (show ¬ ((0 = 60 ∧ (13 = 6 ∨ 13 = 7))) from by decide))).trans (tw_ne1 eσ18 (by (first | decide | omega)))).trans (tw_ne1 eσ17 (by (first | decide | omega)))).trans (hGσ14 0 13 (show ¬ ((23 ≤ 0 ∧ 0 < 31)) from by decide))).trans (hGσ10 0 13 (show ¬ ((2 ≤ 0 ∧ 0 < 10)) from by decide))).trans (tw_eq1 eσ7)
    have y35 : σ28 31 6 = 0 := (((((hGσ28 31 6 (show ¬ ((31 = 76 ∧ (6 = 1))) from by decide))).trans (hGσ24 31 6 (show ¬ ((31 = 71 ∧ (6 = 1))) from by decide))).trans (hGσ20 31 6 (show ¬ ((31 = 60 ∧ (6 = 6 ∨ 6 = 7))) from by decide))).trans (tw_ne1 eσ18 (by (first | decide | omega)))).trans (tw_eq1 eσ17)
    have y36 : σ28 39 6 = 0 := ((((hGσ28 39 6 (show ¬ ((39 = 76 ∧ (6 = 1))) from by decide))).trans (hGσ24 39 6 (show ¬ ((39 = 71 ∧ (6 = 1))) from by decide))).trans (hGσ20 39 6 (show ¬ ((39 = 60 ∧ (6 = 6 ∨ 6 = 7))) from by decide))).trans (tw_eq1 eσ18)
    have y37 : σ28 0 13 = σ2 10 11 := ((((((((hGσ28 0 13 (show ¬ ((0 = 76 ∧ (13 = 1))) from by decide))).trans (hGσ24 0 13 (show ¬ ((0 = 71 ∧ (13 = 1))) from by decide))).trans (hGσ20 0 13 (show ¬ ((0 = 60 ∧ (13 = 6 ∨ 13 = 7))) from by decide))).trans (tw_ne1 eσ18 (by (first | decide | omega)))).trans (tw_ne1 eσ17 (by (first | decide | omega)))).trans (hGσ14 0 13 (show ¬ ((23 ≤ 0 ∧ 0 < 31)) from by decide))).trans (hGσ10 0 13 (show ¬ ((2 ≤ 0 ∧ 0 < 10)) from by decide))).trans (tw_eq1 eσ7)
    have y38 : σ28 29 0 = σ14 29 0 := (((((hGσ28 29 0 (show ¬ ((29 = 76 ∧ (0 = 1))) from by decide))).trans (hGσ24 29 0 (show ¬ ((29 = 71 ∧ (0 = 1))) from by decide))).trans (hGσ20 29 0 (show ¬ ((29 = 60 ∧ (0 = 6 ∨ 0 = 7))) from by decide))).trans (tw_ne1 eσ18 (by (first | decide | omega)))).trans (tw_ne1 eσ17 (by (first | decide | omega)))
    have f39 : (0 : Int) ≤ σ14 29 0 ∧ σ14 29 0 ≤ 999 := hIσ14 29 0
    have y40 : σ28 0 13 = σ2 10 11 := ((((((((hGσ28 0 13 (show ¬ ((0 = 76 ∧ (13 = 1))) from by decide))).trans (hGσ24 0 13 (show ¬ ((0 = 71 ∧ (13 = 1))) from by decide))).trans (hGσ20 0 13 (show ¬ ((0 = 60 ∧ (13 = 6 ∨ 13 = 7))) from by decide))).trans (tw_ne1 eσ18 (by (first | decide | omega)))).trans (tw_ne1 eσ17 (by (first | decide | omega)))).trans (hGσ14 0 13 (show ¬ ((23 ≤ 0 ∧ 0 < 31)) from by decide))).trans (hGσ10 0 13 (show ¬ ((2 ≤ 0 ∧ 0 < 10)) from by decide))).trans (tw_eq1 eσ7)
    have y41 : σ28 30 0 = σ14 30 0 := (((((hGσ28 30 0 (show ¬ ((30 = 76 ∧ (0 = 1))) from by decide))).trans (hGσ24 30 0 (show ¬ ((30 = 71 ∧ (0 = 1))) from by decide))).trans (hGσ20 30 0 (show ¬ ((30 = 60 ∧ (0 = 6 ∨ 0 = 7))) from by decide))).trans (tw_ne1 eσ18 (by (first | decide | omega)))).trans (tw_ne1 eσ17 (by (first | decide | omega)))
    have f42 : (-2147483648 : Int) ≤ σ14 30 0 ∧ σ14 30 0 ≤ 2147483647 := hIσ14 30 0
    have y43 : σ28 0 13 = σ2 10 11 := ((((((((hGσ28 0 13 (show ¬ ((0 = 76 ∧ (13 = 1))) from by decide))).trans (hGσ24 0 13 (show ¬ ((0 = 71 ∧ (13 = 1))) from by decide))).trans (hGσ20 0 13 (show ¬ ((0 = 60 ∧ (13 = 6 ∨ 13 = 7))) from by decide))).trans (tw_ne1 eσ18 (by (first | decide | omega)))).trans (tw_ne1 eσ17 (by (first | decide | omega)))).trans (hGσ14 0 13 (show ¬ ((23 ≤ 0 ∧ 0 < 31)) from by decide))).trans (hGσ10 0 13 (show ¬ ((2 ≤ 0 ∧ 0 < 10)) from by decide))).trans (tw_eq1 eσ7)
    have y44 : σ28 29 1 = σ14 29 1 := (((((hGσ28 29 1 (show ¬ ((29 = 76 ∧ (1 = 1))) from by decide))).trans (hGσ24 29 1 (show ¬ ((29 = 71 ∧ (1 = 1))) from by decide))).trans (hGσ20 29 1 (show ¬ ((29 = 60 ∧ (1 = 6 ∨ 1 = 7))) from by decide))).trans (tw_ne1 eσ18 (by (first | decide | omega)))).trans (tw_ne1 eσ17 (by (first | decide | omega)))
    have f45 : (0 : Int) ≤ σ14 29 1 ∧ σ14 29 1 ≤ 999 := hIσ14 29 1
    have y46 : σ28 0 13 = σ2 10 11 := ((((((((hGσ28 0 13 (show ¬ ((0 = 76 ∧ (13 = 1))) from by decide))).trans (hGσ24 0 13 (show ¬ ((0 = 71 ∧ (13 = 1))) from by decide))).trans (hGσ20 0 13 (show ¬ ((0 = 60 ∧ (13 = 6 ∨ 13 = 7))) from by decide))).trans (tw_ne1 eσ18 (by (first | decide | omega)))).trans (tw_ne1 eσ17 (by (first | decide | omega)))).trans (hGσ14 0 13 (show ¬ ((23 ≤ 0 ∧ 0 < 31)) from by decide))).trans (hGσ10 0 13 (show ¬ ((2 ≤ 0 ∧ 0 < 10)) from by decide))).trans (tw_eq1 eσ7)
    have y47 : σ28 30 1 = σ14 30 1 := (((((hGσ28 30 1 (show ¬ ((30 = 76 ∧ (1 = 1))) from by decide))).trans (hGσ24 30 1 (show ¬ ((30 = 71 ∧ (1 = 1))) from by decide))).trans (hGσ20 30 1 (show ¬ ((30 = 60 ∧ (1 = 6 ∨ 1 = 7))) from by decide))).trans (tw_ne1 eσ18 (by (first | decide | omega)))).trans (tw_ne1 eσ17 (by (first | decide | omega)))
    have f48 : (-2147483648 : Int) ≤ σ14 30 1 ∧ σ14 30 1 ≤ 2147483647 := hIσ14 30 1
    have y49 : σ28 0 13 = σ2 10 11 := ((((((((hGσ28 0 13 (show ¬ ((0 = 76 ∧ (13 = 1))) from by decide))).trans (hGσ24 0 13 (show ¬ ((0 = 71 ∧ (13 = 1))) from by decide))).trans (hGσ20 0 13 (show ¬ ((0 = 60 ∧ (13 = 6 ∨ 13 = 7))) from by decide))).trans (tw_ne1 eσ18 (by (first | decide | omega)))).trans (tw_ne1 eσ17 (by (first | decide | omega)))).trans (hGσ14 0 13 (show ¬ ((23 ≤ 0 ∧ 0 < 31)) from by decide))).trans (hGσ10 0 13 (show ¬ ((2 ≤ 0 ∧ 0 < 10)) from by decide))).trans (tw_eq1 eσ7)
    have y50 : σ28 24 0 = σ14 24 0 := (((((hGσ28 24 0 (show ¬ ((24 = 76 ∧ (0 = 1))) from by decide))).trans (hGσ24 24 0 (show ¬ ((24 = 71 ∧ (0 = 1))) from by decide))).trans (hGσ20 24 0 (show ¬ ((24 = 60 ∧ (0 = 6 ∨ 0 = 7))) from by decide))).trans (tw_ne1 eσ18 (by (first | decide | omega)))).trans (tw_ne1 eσ17 (by (first | decide | omega)))
    have f51 : (0 : Int) ≤ σ14 24 0 ∧ σ14 24 0 ≤ 10 := hIσ14 24 0
    have y52 : σ28 23 4 = σ14 23 4 := (((((hGσ28 23 4 (show ¬ ((23 = 76 ∧ (4 = 1))) from by decide))).trans (hGσ24 23 4 (show ¬ ((23 = 71 ∧ (4 = 1))) from by decide))).trans (hGσ20 23 4 (show ¬ ((23 = 60 ∧ (4 = 6 ∨ 4 = 7))) from by decide))).trans (tw_ne1 eσ18 (by (first | decide | omega)))).trans (tw_ne1 eσ17 (by (first | decide | omega)))
    have f53 : (-2147483648 : Int) ≤ σ14 23 4 ∧ σ14 23 4 ≤ 2147483647 := hIσ14 23 4
    have y54 : σ28 23 5 = σ14 23 5 := (((((hGσ28 23 5 (show ¬ ((23 = 76 ∧ (5 = 1))) from by decide))).trans (hGσ24 23 5 (show ¬ ((23 = 71 ∧ (5 = 1))) from by decide))).trans (hGσ20 23 5 (show ¬ ((23 = 60 ∧ (5 = 6 ∨ 5 = 7))) from by decide))).trans (tw_ne1 eσ18 (by (first | decide | omega)))).trans (tw_ne1 eσ17 (by (first | decide | omega)))
    have f55 : (-2147483648 : Int) ≤ σ14 23 5 ∧ σ14 23 5 ≤ 2147483647 := hIσ14 23 5
    have y56 : σ28 60 6 = σ20 60 6 := ((hGσ28 60 6 (show ¬ ((60 = 76 ∧ (6 = 1))) from by decide))).trans (hGσ24 60 6 (show ¬ ((60 = 71 ∧ (6 = 1))) from by decide))
    have f57 : (0 : Int) ≤ σ20 60 6 ∧ σ20 60 6 ≤ 1 := hIσ20 60 6
    exact j_iret (pc := 113) ⟨rfl, rfl⟩ dX11_text_113 rfl ⟨_, rfl, ⟨by omega, by omega⟩, hIσ28, hFσ28, by omega, (by rw [← pm]; first | exact (txt_f (by omega)).symm | exact (txt_t (by omega)).symm | (rw [txt_f (by omega)]; omega) | (rw [txt_t (by omega)]; omega)), (by rw [← pm]; show _ = (aX _) 4; rw [aX_4]; omega), by omega, by omega, by omega, by omega, by omega, fin⟩
  · refine j_bipush (pc := 33) dX11_text_33 rfl ?_
    refine j_aload_n (pc := 35) dX11_text_35 rfl rfl ?_
    refine j_getR (pc := 36) (r := 10) fl_X11_19 dX11_text_36 (a_0 hX) rfl ?_
    refine j_getI (pc := 39) fl_X11_115 dX11_text_39 (a_10 hX) rfl ?_
    refine j_topV (show σ7 10 12 = σ2 10 12 from ((tw_ne1 eσ7 (by (first | decide | omega)))).trans (tw_ne1 eσ5 (by (first | decide | omega)))) ?_
    have f58 : (0 : Int) ≤ σ2 10 12 ∧ σ2 10 12 ≤ 400 := hIσ2 10 12
    refine j_isub (pc := 42) dX11_text_42 ?_
    have fin : (σ7 0 13 = 0 ∧ wW 1 σ7 = pwB (parse (fX σ)).1 ∧ (∀ j : Nat, j < 11 → σ7 3 j = (parse (fX σ)).1 (200 + j)) ∧ σ7 24 0 = 0 ∧ (∀ j : Nat, j < 11 → σ7 28 j = (parse (fX σ)).1 (200 + j)) ∧ σ7 23 4 = (parse (fX σ)).1 105 ∧ σ7 23 5 = (parse (fX σ)).1 106 ∧ σ7 60 6 = 0) ∨ (¬ σ7 0 13 = 0 ∧ ∀ c j : Nat, ((0 < c ∧ c < 10) ∨ (23 ≤ c ∧ c < 88)) → σ7 c j = σ c j) := Or.inr ⟨fun z => absurd (((tw_eq1 eσ7)).symm.trans z) (by omega), fun c j h => (tw_ne1 eσ7 (by (first | decide | omega))).trans ((tw_ne1 eσ5 (by (first | decide | omega))).trans (hGσ2 c j (show ¬ ((c = 10 ∧ (j = 3 ∨ j = 4 ∨ j = 5 ∨ j = 6 ∨ j = 7 ∨ j = 8 ∨ j = 11 ∨ j = 12 ∨ j = 13)) ∨ (12 ≤ c ∧ c < 14) ∨ (14 ≤ c ∧ c < 23)) from by omega)))⟩
    have y59 : σ7 10 10 = 0 := ((tw_ne1 eσ7 (by (first | decide | omega)))).trans (tw_eq1 eσ5)
    have y60 : σ7 0 13 = σ2 10 11 := (tw_eq1 eσ7)
    have y61 : σ7 0 13 = σ2 10 11 := (tw_eq1 eσ7)
    have y62 : σ7 31 6 = σ 31 6 := (((tw_ne1 eσ7 (by (first | decide | omega)))).trans (tw_ne1 eσ5 (by (first | decide | omega)))).trans (hGσ2 31 6 (show ¬ ((31 = 10 ∧ (6 = 3 ∨ 6 = 4 ∨ 6 = 5 ∨ 6 = 6 ∨ 6 = 7 ∨ 6 = 8 ∨ 6 = 11 ∨ 6 = 12 ∨ 6 = 13)) ∨ (12 ≤ 31 ∧ 31 < 14) ∨ (14 ≤ 31 ∧ 31 < 23)) from by decide))
    have f63 : (0 : Int) ≤ σ 31 6 ∧ σ 31 6 ≤ 1 := hI 31 6
    have y64 : σ7 39 6 = σ 39 6 := (((tw_ne1 eσ7 (by (first | decide | omega)))).trans (tw_ne1 eσ5 (by (first | decide | omega)))).trans (hGσ2 39 6 (show ¬ ((39 = 10 ∧ (6 = 3 ∨ 6 = 4 ∨ 6 = 5 ∨ 6 = 6 ∨ 6 = 7 ∨ 6 = 8 ∨ 6 = 11 ∨ 6 = 12 ∨ 6 = 13)) ∨ (12 ≤ 39 ∧ 39 < 14) ∨ (14 ≤ 39 ∧ 39 < 23)) from by decide))
    have f65 : (0 : Int) ≤ σ 39 6 ∧ σ 39 6 ≤ 1 := hI 39 6
    have y66 : σ7 0 13 = σ2 10 11 := (tw_eq1 eσ7)
    have y67 : σ7 29 0 = σ 29 0 := (((tw_ne1 eσ7 (by (first | decide | omega)))).trans (tw_ne1 eσ5 (by (first | decide | omega)))).trans (hGσ2 29 0 (show ¬ ((29 = 10 ∧ (0 = 3 ∨ 0 = 4 ∨ 0 = 5 ∨ 0 = 6 ∨ 0 = 7 ∨ 0 = 8 ∨ 0 = 11 ∨ 0 = 12 ∨ 0 = 13)) ∨ (12 ≤ 29 ∧ 29 < 14) ∨ (14 ≤ 29 ∧ 29 < 23)) from by decide))
    have f68 : (0 : Int) ≤ σ 29 0 ∧ σ 29 0 ≤ 999 := hI 29 0
    have y69 : σ7 0 13 = σ2 10 11 := (tw_eq1 eσ7)
    have y70 : σ7 30 0 = σ 30 0 := (((tw_ne1 eσ7 (by (first | decide | omega)))).trans (tw_ne1 eσ5 (by (first | decide | omega)))).trans (hGσ2 30 0 (show ¬ ((30 = 10 ∧ (0 = 3 ∨ 0 = 4 ∨ 0 = 5 ∨ 0 = 6 ∨ 0 = 7 ∨ 0 = 8 ∨ 0 = 11 ∨ 0 = 12 ∨ 0 = 13)) ∨ (12 ≤ 30 ∧ 30 < 14) ∨ (14 ≤ 30 ∧ 30 < 23)) from by decide))
    have f71 : (-2147483648 : Int) ≤ σ 30 0 ∧ σ 30 0 ≤ 2147483647 := hI 30 0
    have y72 : σ7 0 13 = σ2 10 11 := (tw_eq1 eσ7)
    have y73 : σ7 29 1 = σ 29 1 := (((tw_ne1 eσ7 (by (first | decide | omega)))).trans (tw_ne1 eσ5 (by (first | decide | omega)))).trans (hGσ2 29 1 (show ¬ ((29 = 10 ∧ (1 = 3 ∨ 1 = 4 ∨ 1 = 5 ∨ 1 = 6 ∨ 1 = 7 ∨ 1 = 8 ∨ 1 = 11 ∨ 1 = 12 ∨ 1 = 13)) ∨ (12 ≤ 29 ∧ 29 < 14) ∨ (14 ≤ 29 ∧ 29 < 23)) from by decide))
    have f74 : (0 : Int) ≤ σ 29 1 ∧ σ 29 1 ≤ 999 := hI 29 1
    have y75 : σ7 0 13 = σ2 10 11 := (tw_eq1 eσ7)
    have y76 : σ7 30 1 = σ 30 1 := (((tw_ne1 eσ7 (by (first | decide | omega)))).trans (tw_ne1 eσ5 (by (first | decide | omega)))).trans (hGσ2 30 1 (show ¬ ((30 = 10 ∧ (1 = 3 ∨ 1 = 4 ∨ 1 = 5 ∨ 1 = 6 ∨ 1 = 7 ∨ 1 = 8 ∨ 1 = 11 ∨ 1 = 12 ∨ 1 = 13)) ∨ (12 ≤ 30 ∧ 30 < 14) ∨ (14 ≤ 30 ∧ 30 < 23)) from by decide))
    have f77 : (-2147483648 : Int) ≤ σ 30 1 ∧ σ 30 1 ≤ 2147483647 := hI 30 1
    have y78 : σ7 0 13 = σ2 10 11 := (tw_eq1 eσ7)
    have y79 : σ7 24 0 = σ 24 0 := (((tw_ne1 eσ7 (by (first | decide | omega)))).trans (tw_ne1 eσ5 (by (first | decide | omega)))).trans (hGσ2 24 0 (show ¬ ((24 = 10 ∧ (0 = 3 ∨ 0 = 4 ∨ 0 = 5 ∨ 0 = 6 ∨ 0 = 7 ∨ 0 = 8 ∨ 0 = 11 ∨ 0 = 12 ∨ 0 = 13)) ∨ (12 ≤ 24 ∧ 24 < 14) ∨ (14 ≤ 24 ∧ 24 < 23)) from by decide))
    have f80 : (0 : Int) ≤ σ 24 0 ∧ σ 24 0 ≤ 10 := hI 24 0
    have y81 : σ7 23 4 = σ 23 4 := (((tw_ne1 eσ7 (by (first | decide | omega)))).trans (tw_ne1 eσ5 (by (first | decide | omega)))).trans (hGσ2 23 4 (show ¬ ((23 = 10 ∧ (4 = 3 ∨ 4 = 4 ∨ 4 = 5 ∨ 4 = 6 ∨ 4 = 7 ∨ 4 = 8 ∨ 4 = 11 ∨ 4 = 12 ∨ 4 = 13)) ∨ (12 ≤ 23 ∧ 23 < 14) ∨ (14 ≤ 23 ∧ 23 < 23)) from by decide))
    have f82 : (-2147483648 : Int) ≤ σ 23 4 ∧ σ 23 4 ≤ 2147483647 := hI 23 4
    have y83 : σ7 23 5 = σ 23 5 := (((tw_ne1 eσ7 (by (first | decide | omega)))).trans (tw_ne1 eσ5 (by (first | decide | omega)))).trans (hGσ2 23 5 (show ¬ ((23 = 10 ∧ (5 = 3 ∨ 5 = 4 ∨ 5 = 5 ∨ 5 = 6 ∨ 5 = 7 ∨ 5 = 8 ∨ 5 = 11 ∨ 5 = 12 ∨ 5 = 13)) ∨ (12 ≤ 23 ∧ 23 < 14) ∨ (14 ≤ 23 ∧ 23 < 23)) from by decide))
    have f84 : (-2147483648 : Int) ≤ σ 23 5 ∧ σ 23 5 ≤ 2147483647 := hI 23 5
    have y85 : σ7 60 6 = σ 60 6 := (((tw_ne1 eσ7 (by (first | decide | omega)))).trans (tw_ne1 eσ5 (by (first | decide | omega)))).trans (hGσ2 60 6 (show ¬ ((60 = 10 ∧ (6 = 3 ∨ 6 = 4 ∨ 6 = 5 ∨ 6 = 6 ∨ 6 = 7 ∨ 6 = 8 ∨ 6 = 11 ∨ 6 = 12 ∨ 6 = 13)) ∨ (12 ≤ 60 ∧ 60 < 14) ∨ (14 ≤ 60 ∧ 60 < 23)) from by decide))
    have f86 : (0 : Int) ≤ σ 60 6 ∧ σ 60 6 ≤ 1 := hI 60 6
    exact j_iret (pc := 43) ⟨rfl, rfl⟩ dX11_text_43 rfl ⟨_, rfl, ⟨by omega, by omega⟩, hIσ7, hFσ7, by omega, (by rw [← pm]; first | exact (txt_f (by omega)).symm | exact (txt_t (by omega)).symm | (rw [txt_f (by omega)]; omega) | (rw [txt_t (by omega)]; omega)), (by rw [← pm]; show _ = (aX _) 4; rw [aX_4]; omega), by omega, by omega, by omega, by omega, by omega, fin⟩
