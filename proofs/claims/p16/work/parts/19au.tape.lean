/-! 19au.tape -/
theorem dX9_readAll_0 : decode cX9_readAll 0 = .ok (.aload_n 0, 1) := by decide +kernel
theorem dX9_readAll_1 : decode cX9_readAll 1 = .ok (.invokevirtual 42, 3) := by decide +kernel
theorem dX9_readAll_4 : decode cX9_readAll 4 = .ok (.aload_n 0, 1) := by decide +kernel
theorem dX9_readAll_5 : decode cX9_readAll 5 = .ok (.invokevirtual 45, 3) := by decide +kernel
theorem dX9_readAll_8 : decode cX9_readAll 8 = .ok (.iconst 0, 1) := by decide +kernel
theorem dX9_readAll_9 : decode cX9_readAll 9 = .ok (.istore_n 1, 1) := by decide +kernel
theorem dX9_readAll_10 : decode cX9_readAll 10 = .ok (.iload_n 1, 1) := by decide +kernel
theorem dX9_readAll_11 : decode cX9_readAll 11 = .ok (.sipush 400, 3) := by decide +kernel
theorem dX9_readAll_14 : decode cX9_readAll 14 = .ok (.if_icmp .ge 37, 3) := by decide +kernel
theorem dX9_readAll_17 : decode cX9_readAll 17 = .ok (.aload_n 0, 1) := by decide +kernel
theorem dX9_readAll_18 : decode cX9_readAll 18 = .ok (.getfield 33, 3) := by decide +kernel
theorem dX9_readAll_21 : decode cX9_readAll 21 = .ok (.ifCond .ne 30, 3) := by decide +kernel
theorem dX9_readAll_24 : decode cX9_readAll 24 = .ok (.aload_n 0, 1) := by decide +kernel
theorem dX9_readAll_25 : decode cX9_readAll 25 = .ok (.getfield 48, 3) := by decide +kernel
theorem dX9_readAll_28 : decode cX9_readAll 28 = .ok (.ifCond .eq 23, 3) := by decide +kernel
theorem dX9_readAll_31 : decode cX9_readAll 31 = .ok (.aload_n 0, 1) := by decide +kernel
theorem dX9_readAll_32 : decode cX9_readAll 32 = .ok (.invokevirtual 51, 3) := by decide +kernel
theorem dX9_readAll_35 : decode cX9_readAll 35 = .ok (.aload_n 0, 1) := by decide +kernel
theorem dX9_readAll_36 : decode cX9_readAll 36 = .ok (.dup, 1) := by decide +kernel
theorem dX9_readAll_37 : decode cX9_readAll 37 = .ok (.getfield 39, 3) := by decide +kernel
theorem dX9_readAll_40 : decode cX9_readAll 40 = .ok (.iconst 1, 1) := by decide +kernel
theorem dX9_readAll_41 : decode cX9_readAll 41 = .ok (.iadd, 1) := by decide +kernel
theorem dX9_readAll_42 : decode cX9_readAll 42 = .ok (.putfield 39, 3) := by decide +kernel
theorem dX9_readAll_45 : decode cX9_readAll 45 = .ok (.iinc 1 1, 3) := by decide +kernel
theorem dX9_readAll_48 : decode cX9_readAll 48 = .ok (.goto (-38), 3) := by decide +kernel
theorem dX9_readAll_51 : decode cX9_readAll 51 = .ok (.aload_n 0, 1) := by decide +kernel
theorem dX9_readAll_52 : decode cX9_readAll 52 = .ok (.getfield 33, 3) := by decide +kernel
theorem dX9_readAll_55 : decode cX9_readAll 55 = .ok (.ifCond .ne 26, 3) := by decide +kernel
theorem dX9_readAll_58 : decode cX9_readAll 58 = .ok (.aload_n 0, 1) := by decide +kernel
theorem dX9_readAll_59 : decode cX9_readAll 59 = .ok (.getfield 54, 3) := by decide +kernel
theorem dX9_readAll_62 : decode cX9_readAll 62 = .ok (.aload_n 0, 1) := by decide +kernel
theorem dX9_readAll_63 : decode cX9_readAll 63 = .ok (.getfield 25, 3) := by decide +kernel
theorem dX9_readAll_66 : decode cX9_readAll 66 = .ok (.invokevirtual 57, 3) := by decide +kernel
theorem dX9_readAll_69 : decode cX9_readAll 69 = .ok (.if_icmp .le 12, 3) := by decide +kernel
theorem dX9_readAll_72 : decode cX9_readAll 72 = .ok (.aload_n 0, 1) := by decide +kernel
theorem dX9_readAll_73 : decode cX9_readAll 73 = .ok (.iconst 5, 1) := by decide +kernel
theorem dX9_readAll_74 : decode cX9_readAll 74 = .ok (.aload_n 0, 1) := by decide +kernel
theorem dX9_readAll_75 : decode cX9_readAll 75 = .ok (.getfield 29, 3) := by decide +kernel
theorem dX9_readAll_78 : decode cX9_readAll 78 = .ok (.invokevirtual 61, 3) := by decide +kernel
theorem dX9_readAll_81 : decode cX9_readAll 81 = .ok (.return_, 1) := by decide +kernel
abbrev q_X9_readAll  (σ : tw_M) : Option tw_V → tw_M → Prop := fun z τ => z = none ∧ tw_I τ ∧ tw_F (fun c j => (c = 10 ∧ (j = 3 ∨ j = 4 ∨ j = 5 ∨ j = 6 ∨ j = 7 ∨ j = 8 ∨ j = 11 ∨ j = 12 ∨ j = 13)) ∨ (12 ≤ c ∧ c < 14) ∨ (14 ≤ c ∧ c < 23)) σ τ ∧ ((aX τ, τ 10 13) = parse (fX σ))
set_option maxHeartbeats 4000000 in
set_option maxRecDepth 100000 in
theorem l_X9_readAll {G : tw_G} (hX : tw_isX G) (σ : tw_M) (hI : tw_I σ) : ∀ N_ : Nat, (∀ (i : Int) (hi : 0 ≤ i ∧ i ≤ 400) (τ : tw_M) (hIτ : tw_I τ) (hFτ : tw_F (fun c j => (c = 10 ∧ (j = 3 ∨ j = 4 ∨ j = 5 ∨ j = 6 ∨ j = 7 ∨ j = 8 ∨ j = 11 ∨ j = 12 ∨ j = 13)) ∨ (12 ≤ c ∧ c < 14) ∨ (14 ≤ c ∧ c < 23)) σ τ) (i0 : τ 10 13 ≤ i) (i1 : itK lstop (lstep (fX σ)) (500 - i).toNat (aX τ, τ 10 13) = lns (fX σ)) (i2 : ¬ τ 10 11 = 0 ∨ τ 10 6 = 0 ∨ i + 1 ≤ τ 10 5) (i3 : τ 10 5 ≤ σ 10 10) (i4 : ¬ τ 10 11 = 0 ∨ ¬ τ 10 6 = 0 ∨ τ 10 7 = σ 10 10) (hm : (400 - i).toNat < N_), tw_J G (tw_mt RX9 cX9_readAll 2 none 8) (tw_E G (q_X9_readAll σ)) 10 [(0, vR 10), (1, vI i)] [] τ) := by
  intro N_
  induction N_ with
  | zero => exact fun i hi τ hIτ hFτ i0 i1 i2 i3 i4 hm => absurd hm (Nat.not_lt_zero _)
  | succ N_ ih =>
    intro i hi τ hIτ hFτ i0 i1 i2 i3 i4 hm
    have fx : fX τ = fX σ := fX_F (hFτ 10 10 (show ¬ ((10 = 10 ∧ (10 = 3 ∨ 10 = 4 ∨ 10 = 5 ∨ 10 = 6 ∨ 10 = 7 ∨ 10 = 8 ∨ 10 = 11 ∨ 10 = 12 ∨ 10 = 13)) ∨ (12 ≤ 10 ∧ 10 < 14) ∨ (14 ≤ 10 ∧ 10 < 23)) from by decide)) (fun j => hFτ 11 j (show ¬ ((11 = 10 ∧ (j = 3 ∨ j = 4 ∨ j = 5 ∨ j = 6 ∨ j = 7 ∨ j = 8 ∨ j = 11 ∨ j = 12 ∨ j = 13)) ∨ (12 ≤ 11 ∧ 11 < 14) ∨ (14 ≤ 11 ∧ 11 < 23)) from fun h => h.elim (fun h => absurd h.1 (by decide)) (fun h => h.elim (fun h => absurd h (by decide)) (fun h => absurd h (by decide)))))
    have f10 : (0 : Int) ≤ σ 10 10 ∧ σ 10 10 ≤ 400 := hI 10 10
    have e10 : τ 10 10 = σ 10 10 := hFτ 10 10 (show ¬ ((10 = 10 ∧ (10 = 3 ∨ 10 = 4 ∨ 10 = 5 ∨ 10 = 6 ∨ 10 = 7 ∨ 10 = 8 ∨ 10 = 11 ∨ 10 = 12 ∨ 10 = 13)) ∨ (12 ≤ 10 ∧ 10 < 14) ∨ (14 ≤ 10 ∧ 10 < 23)) from by decide); have f05 : (0 : Int) ≤ σ 10 5 ∧ σ 10 5 ≤ 400 := hI 10 5; have f15 : (0 : Int) ≤ τ 10 5 ∧ τ 10 5 ≤ 400 := hIτ 10 5
    refine j_iload_n (pc := 10) dX9_readAll_10 rfl rfl ?_
    refine j_sipush (pc := 11) dX9_readAll_11 rfl ?_
    refine j_icmpR_ge (pc := 14) (tgt := 51) ⟨by omega, by omega⟩ ⟨by omega, by omega⟩ dX9_readAll_14 rfl (fun h1 => ?_) (fun h1 => ?_)
    · refine j_aload_n (pc := 51) dX9_readAll_51 rfl rfl ?_
      refine j_getI (pc := 52) fl_X9_33 dX9_readAll_52 (a_10 hX) rfl ?_
      have f2 : (0 : Int) ≤ τ 10 11 ∧ τ 10 11 ≤ 5 := hIτ 10 11
      refine j_ifR_ne (pc := 55) (tgt := 81) ⟨by omega, by omega⟩ dX9_readAll_55 rfl (fun h3 => ?_) (fun h3 => ?_)
      · exact j_vret (pc := 81) ⟨rfl, rfl⟩ dX9_readAll_81 rfl ⟨rfl, hIτ, hFτ, (by first | exact parse_t i1 (by omega) | (rw [show τ 10 13 = τ 10 13 from rfl]; exact parse_f i1 (by omega) (by omega) (by omega) ⟨by omega, by omega⟩))⟩
      · refine j_aload_n (pc := 58) dX9_readAll_58 rfl rfl ?_
        refine j_getI (pc := 59) fl_X9_54 dX9_readAll_59 (a_10 hX) rfl ?_
        have f4 : (0 : Int) ≤ τ 10 4 ∧ τ 10 4 ≤ 40 := hIτ 10 4
        refine j_aload_n (pc := 62) dX9_readAll_62 rfl rfl ?_
        refine j_getR (pc := 63) (r := 14) fl_X9_25 dX9_readAll_63 (a_10 hX) rfl ?_
        refine j_callV (pc := 66) (As := []) (st := [vI (τ 10 4)]) (c_X10_top 14 (s_Wall_14 hX) τ hIτ) mv_X9_57 rfl rfl rfl (a_14 hX) dX9_readAll_66 ⟨Nat.le_of_ble_eq_true rfl, Nat.le_of_ble_eq_true rfl⟩ ⟨Nat.le_refl _, Nat.le_refl _⟩ rfl (Nat.le_of_ble_eq_true rfl) rfl (fun z5 σ6 hz5 => ?_)
        obtain ⟨r8, rfl, hr8, rfl, q7_0⟩ := hz5
        replace q7_0 : r8 = τ 15 0 := q7_0
        refine j_st (st' := [vI r8, vI (τ 10 4)]) rfl ?_
        refine j_icmpR_le (pc := 69) (tgt := 81) ⟨by omega, by omega⟩ ⟨by omega, by omega⟩ dX9_readAll_69 rfl (fun h9 => ?_) (fun h9 => ?_)
        · exact j_vret (pc := 81) ⟨rfl, rfl⟩ dX9_readAll_81 rfl ⟨rfl, hIτ, hFτ, (by first | exact parse_t i1 (by omega) | (rw [show τ 10 13 = τ 10 13 from rfl]; exact parse_f i1 (by omega) (by omega) (by omega) ⟨by omega, by omega⟩))⟩
        · refine j_aload_n (pc := 72) dX9_readAll_72 rfl rfl ?_
          refine j_iconst (pc := 73) dX9_readAll_73 ?_
          refine j_aload_n (pc := 74) dX9_readAll_74 rfl rfl ?_
          refine j_getI (pc := 75) fl_X9_29 dX9_readAll_75 (a_10 hX) rfl ?_
          have f10 : (0 : Int) ≤ τ 10 10 ∧ τ 10 10 ≤ 400 := hIτ 10 10
          refine j_callV (pc := 78) (As := [vI 5, vI (τ 10 10)]) (st := []) (c_X9_fail hX 5 (by (first | decide | exact ⟨by omega, by omega⟩)) (τ 10 10) ⟨by omega, by omega⟩ τ hIτ) mv_X9_61 rfl rfl rfl (a_10 hX) dX9_readAll_78 ⟨Nat.le_of_ble_eq_true rfl, Nat.le_of_ble_eq_true rfl⟩ ⟨Nat.le_refl _, Nat.le_refl _⟩ rfl (Nat.le_of_ble_eq_true rfl) rfl (fun z11 σ12 hz11 => ?_)
          obtain ⟨rfl, hIσ12, hGσ12, q13_0⟩ := hz11
          replace q13_0 : (τ 10 11 = 0 ∧ σ12 10 11 = (5 : Int) ∧ σ12 10 12 = (τ 10 10)) ∨ (¬ τ 10 11 = 0 ∧ σ12 10 11 = τ 10 11 ∧ σ12 10 12 = τ 10 12) := q13_0
          have hFσ12 : tw_F (fun c j => (c = 10 ∧ (j = 3 ∨ j = 4 ∨ j = 5 ∨ j = 6 ∨ j = 7 ∨ j = 8 ∨ j = 11 ∨ j = 12 ∨ j = 13)) ∨ (12 ≤ c ∧ c < 14) ∨ (14 ≤ c ∧ c < 23)) σ σ12 := tw_F_tr hFτ hGσ12 (fun c j q => (show (c = 10 ∧ (j = 3 ∨ j = 4 ∨ j = 5 ∨ j = 6 ∨ j = 7 ∨ j = 8 ∨ j = 11 ∨ j = 12 ∨ j = 13)) ∨ (12 ≤ c ∧ c < 14) ∨ (14 ≤ c ∧ c < 23) from by replace q : (c = 10 ∧ (j = 11 ∨ j = 12)) := q; exact (Or.inl ⟨q.1, (q.2.elim (fun z => (Or.inr (Or.inr (Or.inr (Or.inr (Or.inr (Or.inr (Or.inl z)))))))) (fun z => (Or.inr (Or.inr (Or.inr (Or.inr (Or.inr (Or.inr (Or.inr (Or.inl z))))))))))⟩)))
          refine j_st (st' := []) rfl ?_
          have y15 : σ12 10 13 = τ 10 13 := (hGσ12 10 13 (show ¬ ((10 = 10 ∧ (13 = 11 ∨ 13 = 12))) from by decide))
          have f16 : (0 : Int) ≤ τ 10 13 ∧ τ 10 13 ≤ 400 := hIτ 10 13
          exact j_vret (pc := 81) ⟨rfl, rfl⟩ dX9_readAll_81 rfl ⟨rfl, hIσ12, hFσ12, (by first | exact parse_t i1 (by omega) | (rw [show σ12 10 13 = τ 10 13 from (hGσ12 10 13 (show ¬ ((10 = 10 ∧ (13 = 11 ∨ 13 = 12))) from by decide))]; exact parse_f i1 (by omega) (by omega) (by omega) ⟨by omega, by omega⟩))⟩
    · refine j_aload_n (pc := 17) dX9_readAll_17 rfl rfl ?_
      refine j_getI (pc := 18) fl_X9_33 dX9_readAll_18 (a_10 hX) rfl ?_
      have f17 : (0 : Int) ≤ τ 10 11 ∧ τ 10 11 ≤ 5 := hIτ 10 11
      refine j_ifR_ne (pc := 21) (tgt := 51) ⟨by omega, by omega⟩ dX9_readAll_21 rfl (fun h18 => ?_) (fun h18 => ?_)
      · refine j_aload_n (pc := 51) dX9_readAll_51 rfl rfl ?_
        refine j_getI (pc := 52) fl_X9_33 dX9_readAll_52 (a_10 hX) rfl ?_
        refine j_ifR_ne (pc := 55) (tgt := 81) ⟨by omega, by omega⟩ dX9_readAll_55 rfl (fun h19 => ?_) (fun h19 => by exfalso; omega)
        exact j_vret (pc := 81) ⟨rfl, rfl⟩ dX9_readAll_81 rfl ⟨rfl, hIτ, hFτ, (by first | exact parse_t i1 (by omega) | (rw [show τ 10 13 = τ 10 13 from rfl]; exact parse_f i1 (by omega) (by omega) (by omega) ⟨by omega, by omega⟩))⟩
      · refine j_aload_n (pc := 24) dX9_readAll_24 rfl rfl ?_
        refine j_getI (pc := 25) fl_X9_48 dX9_readAll_25 (a_10 hX) rfl ?_
        have f20 : (0 : Int) ≤ τ 10 6 ∧ τ 10 6 ≤ 3 := hIτ 10 6
        refine j_ifR_eq (pc := 28) (tgt := 51) ⟨by omega, by omega⟩ dX9_readAll_28 rfl (fun h21 => ?_) (fun h21 => ?_)
        · refine j_aload_n (pc := 51) dX9_readAll_51 rfl rfl ?_
          refine j_getI (pc := 52) fl_X9_33 dX9_readAll_52 (a_10 hX) rfl ?_
          refine j_ifR_ne (pc := 55) (tgt := 81) ⟨by omega, by omega⟩ dX9_readAll_55 rfl (fun h22 => by exfalso; omega) (fun h22 => ?_)
          refine j_aload_n (pc := 58) dX9_readAll_58 rfl rfl ?_
          refine j_getI (pc := 59) fl_X9_54 dX9_readAll_59 (a_10 hX) rfl ?_
          have f23 : (0 : Int) ≤ τ 10 4 ∧ τ 10 4 ≤ 40 := hIτ 10 4
          refine j_aload_n (pc := 62) dX9_readAll_62 rfl rfl ?_
          refine j_getR (pc := 63) (r := 14) fl_X9_25 dX9_readAll_63 (a_10 hX) rfl ?_
          refine j_callV (pc := 66) (As := []) (st := [vI (τ 10 4)]) (c_X10_top 14 (s_Wall_14 hX) τ hIτ) mv_X9_57 rfl rfl rfl (a_14 hX) dX9_readAll_66 ⟨Nat.le_of_ble_eq_true rfl, Nat.le_of_ble_eq_true rfl⟩ ⟨Nat.le_refl _, Nat.le_refl _⟩ rfl (Nat.le_of_ble_eq_true rfl) rfl (fun z24 σ25 hz24 => ?_)
          obtain ⟨r27, rfl, hr27, rfl, q26_0⟩ := hz24
          replace q26_0 : r27 = τ 15 0 := q26_0
          refine j_st (st' := [vI r27, vI (τ 10 4)]) rfl ?_
          refine j_icmpR_le (pc := 69) (tgt := 81) ⟨by omega, by omega⟩ ⟨by omega, by omega⟩ dX9_readAll_69 rfl (fun h28 => ?_) (fun h28 => ?_)
          · exact j_vret (pc := 81) ⟨rfl, rfl⟩ dX9_readAll_81 rfl ⟨rfl, hIτ, hFτ, (by first | exact parse_t i1 (by omega) | (rw [show τ 10 13 = τ 10 13 from rfl]; exact parse_f i1 (by omega) (by omega) (by omega) ⟨by omega, by omega⟩))⟩
          · refine j_aload_n (pc := 72) dX9_readAll_72 rfl rfl ?_
            refine j_iconst (pc := 73) dX9_readAll_73 ?_
            refine j_aload_n (pc := 74) dX9_readAll_74 rfl rfl ?_
            refine j_getI (pc := 75) fl_X9_29 dX9_readAll_75 (a_10 hX) rfl ?_
            have f29 : (0 : Int) ≤ τ 10 10 ∧ τ 10 10 ≤ 400 := hIτ 10 10
            refine j_callV (pc := 78) (As := [vI 5, vI (τ 10 10)]) (st := []) (c_X9_fail hX 5 (by (first | decide | exact ⟨by omega, by omega⟩)) (τ 10 10) ⟨by omega, by omega⟩ τ hIτ) mv_X9_61 rfl rfl rfl (a_10 hX) dX9_readAll_78 ⟨Nat.le_of_ble_eq_true rfl, Nat.le_of_ble_eq_true rfl⟩ ⟨Nat.le_refl _, Nat.le_refl _⟩ rfl (Nat.le_of_ble_eq_true rfl) rfl (fun z30 σ31 hz30 => ?_)
            obtain ⟨rfl, hIσ31, hGσ31, q32_0⟩ := hz30
            replace q32_0 : (τ 10 11 = 0 ∧ σ31 10 11 = (5 : Int) ∧ σ31 10 12 = (τ 10 10)) ∨ (¬ τ 10 11 = 0 ∧ σ31 10 11 = τ 10 11 ∧ σ31 10 12 = τ 10 12) := q32_0
            have hFσ31 : tw_F (fun c j => (c = 10 ∧ (j = 3 ∨ j = 4 ∨ j = 5 ∨ j = 6 ∨ j = 7 ∨ j = 8 ∨ j = 11 ∨ j = 12 ∨ j = 13)) ∨ (12 ≤ c ∧ c < 14) ∨ (14 ≤ c ∧ c < 23)) σ σ31 := tw_F_tr hFτ hGσ31 (fun c j q => (show (c = 10 ∧ (j = 3 ∨ j = 4 ∨ j = 5 ∨ j = 6 ∨ j = 7 ∨ j = 8 ∨ j = 11 ∨ j = 12 ∨ j = 13)) ∨ (12 ≤ c ∧ c < 14) ∨ (14 ≤ c ∧ c < 23) from by replace q : (c = 10 ∧ (j = 11 ∨ j = 12)) := q; exact (Or.inl ⟨q.1, (q.2.elim (fun z => (Or.inr (Or.inr (Or.inr (Or.inr (Or.inr (Or.inr (Or.inl z)))))))) (fun z => (Or.inr (Or.inr (Or.inr (Or.inr (Or.inr (Or.inr (Or.inr (Or.inl z))))))))))⟩)))
            refine j_st (st' := []) rfl ?_
            have y34 : σ31 10 13 = τ 10 13 := (hGσ31 10 13 (show ¬ ((10 = 10 ∧ (13 = 11 ∨ 13 = 12))) from by decide))
            have f35 : (0 : Int) ≤ τ 10 13 ∧ τ 10 13 ≤ 400 := hIτ 10 13
            exact j_vret (pc := 81) ⟨rfl, rfl⟩ dX9_readAll_81 rfl ⟨rfl, hIσ31, hFσ31, (by first | exact parse_t i1 (by omega) | (rw [show σ31 10 13 = τ 10 13 from (hGσ31 10 13 (show ¬ ((10 = 10 ∧ (13 = 11 ∨ 13 = 12))) from by decide))]; exact parse_f i1 (by omega) (by omega) (by omega) ⟨by omega, by omega⟩))⟩
        · refine j_aload_n (pc := 31) dX9_readAll_31 rfl rfl ?_
          refine j_callV (pc := 32) (As := []) (st := []) (c_X9_line hX τ hIτ (by omega)) mv_X9_51 rfl rfl rfl (a_10 hX) dX9_readAll_32 ⟨Nat.le_of_ble_eq_true rfl, Nat.le_of_ble_eq_true rfl⟩ ⟨Nat.le_refl _, Nat.le_refl _⟩ rfl (Nat.le_of_ble_eq_true rfl) rfl (fun z36 σ37 hz36 => ?_)
          obtain ⟨rfl, hIσ37, hGσ37, q38_0, q38_1, q38_2, q38_3⟩ := hz36
          replace q38_0 : aX σ37 = lineX (fX τ) (aX τ) := q38_0
          replace q38_1 : ¬ τ 10 5 ≤ τ 10 10 ∨ σ37 10 5 ≤ τ 10 10 := q38_1
          replace q38_2 : ¬ τ 10 5 ≤ τ 10 10 ∨ ¬ σ37 10 11 = 0 ∨ ¬ σ37 10 6 = 0 ∨ σ37 10 7 = τ 10 10 := q38_2
          replace q38_3 : ¬ σ37 10 11 = 0 ∨ (τ 10 11 = 0 ∧ τ 10 5 ≤ σ37 10 5 ∧ (σ37 10 6 = 0 ∨ τ 10 5 < σ37 10 5)) := q38_3
          have hFσ37 : tw_F (fun c j => (c = 10 ∧ (j = 3 ∨ j = 4 ∨ j = 5 ∨ j = 6 ∨ j = 7 ∨ j = 8 ∨ j = 11 ∨ j = 12 ∨ j = 13)) ∨ (12 ≤ c ∧ c < 14) ∨ (14 ≤ c ∧ c < 23)) σ σ37 := tw_F_tr hFτ hGσ37 (fun c j q => (show (c = 10 ∧ (j = 3 ∨ j = 4 ∨ j = 5 ∨ j = 6 ∨ j = 7 ∨ j = 8 ∨ j = 11 ∨ j = 12 ∨ j = 13)) ∨ (12 ≤ c ∧ c < 14) ∨ (14 ≤ c ∧ c < 23) from by replace q : (c = 10 ∧ (j = 3 ∨ j = 4 ∨ j = 5 ∨ j = 6 ∨ j = 7 ∨ j = 8 ∨ j = 11 ∨ j = 12)) ∨ (12 ≤ c ∧ c < 14) ∨ (14 ≤ c ∧ c < 23) := q; exact (q.elim (fun q => (Or.inl ⟨q.1, (q.2.elim (fun z => (Or.inl z)) (fun z => (z.elim (fun z => (Or.inr (Or.inl z))) (fun z => (z.elim (fun z => (Or.inr (Or.inr (Or.inl z)))) (fun z => (z.elim (fun z => (Or.inr (Or.inr (Or.inr (Or.inl z))))) (fun z => (z.elim (fun z => (Or.inr (Or.inr (Or.inr (Or.inr (Or.inl z)))))) (fun z => (z.elim (fun z => (Or.inr (Or.inr (Or.inr (Or.inr (Or.inr (Or.inl z))))))) (fun z => (z.elim (fun z => (Or.inr (Or.inr (Or.inr (Or.inr (Or.inr (Or.inr (Or.inl z)))))))) (fun z => (Or.inr (Or.inr (Or.inr (Or.inr (Or.inr (Or.inr (Or.inr (Or.inl z))))))))))))))))))))))⟩)) (fun q => (q.elim (fun q => (Or.inr (Or.inl q))) (fun q => (Or.inr (Or.inr q))))))))
          refine j_st (st' := []) rfl ?_
          have cl := q38_0; rw [fx] at cl
          refine j_aload_n (pc := 35) dX9_readAll_35 rfl rfl ?_
          refine j_dup (pc := 36) dX9_readAll_36 rfl ?_
          refine j_getI (pc := 37) fl_X9_39 dX9_readAll_37 (a_10 hX) rfl ?_
          refine j_topV (show σ37 10 13 = τ 10 13 from (hGσ37 10 13 (show ¬ ((10 = 10 ∧ (13 = 3 ∨ 13 = 4 ∨ 13 = 5 ∨ 13 = 6 ∨ 13 = 7 ∨ 13 = 8 ∨ 13 = 11 ∨ 13 = 12)) ∨ (12 ≤ 10 ∧ 10 < 14) ∨ (14 ≤ 10 ∧ 10 < 23)) from by decide))) ?_
          have f40 : (0 : Int) ≤ τ 10 13 ∧ τ 10 13 ≤ 400 := hIτ 10 13
          refine j_iconst (pc := 40) dX9_readAll_40 ?_
          refine j_iadd (pc := 41) dX9_readAll_41 ?_
          refine j_putI (pc := 42) fl_X9_39 fp_X9_13 dX9_readAll_42 (a_10 hX) rfl (j_nm (fun σ41 (eσ41 : σ41 = tw_up σ37 10 13 ((τ 10 13) + 1)) => ?_))
          have hIσ41 : tw_I σ41 := tw_I_up hIσ37 eσ41 (show (0 : Int) ≤ (τ 10 13) + 1 ∧ (τ 10 13) + 1 ≤ 400 from ⟨by omega, by omega⟩)
          have hFσ41 : tw_F (fun c j => (c = 10 ∧ (j = 3 ∨ j = 4 ∨ j = 5 ∨ j = 6 ∨ j = 7 ∨ j = 8 ∨ j = 11 ∨ j = 12 ∨ j = 13)) ∨ (12 ≤ c ∧ c < 14) ∨ (14 ≤ c ∧ c < 23)) σ σ41 := tw_F_up hFσ37 eσ41 (show (10 = 10 ∧ (13 = 3 ∨ 13 = 4 ∨ 13 = 5 ∨ 13 = 6 ∨ 13 = 7 ∨ 13 = 8 ∨ 13 = 11 ∨ 13 = 12 ∨ 13 = 13)) ∨ (12 ≤ 10 ∧ 10 < 14) ∨ (14 ≤ 10 ∧ 10 < 23) from (Or.inl ⟨rfl, (Or.inr (Or.inr (Or.inr (Or.inr (Or.inr (Or.inr (Or.inr (Or.inr rfl))))))))⟩))
          have y42 : σ41 10 13 = (τ 10 13) + 1 := (tw_eq1 eσ41)
          have lx := lns_s (τ := σ41) (m := σ41 10 13) i1 ⟨by omega, by omega⟩ (by omega) (by omega) ((aX_13 eσ41).trans cl) (by omega)
          refine j_iinc (pc := 45) (i := 1) (n := 1) (ls' := [(0, vR 10), (1, vI (i + 1))]) [1, 0] dX9_readAll_45 rfl (Nat.le_of_ble_eq_true rfl) rfl rfl ?_
          refine j_goto (pc := 48) (tgt := 10) dX9_readAll_48 rfl ?_
          refine j_ls (ls' := [(0, vR 10), (1, vI (i + 1))]) [0, 1] rfl ?_
          have y43 : σ41 10 13 = (τ 10 13) + 1 := (tw_eq1 eσ41)
          have y44 : σ41 10 13 = (τ 10 13) + 1 := (tw_eq1 eσ41)
          have y45 : σ41 10 11 = σ37 10 11 := (tw_ne1 eσ41 (by (first | decide | omega)))
          have f46 : (0 : Int) ≤ σ37 10 11 ∧ σ37 10 11 ≤ 5 := hIσ37 10 11
          have y47 : σ41 10 6 = σ37 10 6 := (tw_ne1 eσ41 (by (first | decide | omega)))
          have f48 : (0 : Int) ≤ σ37 10 6 ∧ σ37 10 6 ≤ 3 := hIσ37 10 6
          have y49 : σ41 10 5 = σ37 10 5 := (tw_ne1 eσ41 (by (first | decide | omega)))
          have f50 : (0 : Int) ≤ σ37 10 5 ∧ σ37 10 5 ≤ 400 := hIσ37 10 5
          have y51 : σ41 10 5 = σ37 10 5 := (tw_ne1 eσ41 (by (first | decide | omega)))
          have y52 : σ41 10 11 = σ37 10 11 := (tw_ne1 eσ41 (by (first | decide | omega)))
          have y53 : σ41 10 6 = σ37 10 6 := (tw_ne1 eσ41 (by (first | decide | omega)))
          have y54 : σ41 10 7 = σ37 10 7 := (tw_ne1 eσ41 (by (first | decide | omega)))
          have f55 : (0 : Int) ≤ σ37 10 7 ∧ σ37 10 7 ≤ 400 := hIσ37 10 7
          exact ih (i + 1) ⟨by omega, by omega⟩ σ41 hIσ41 hFσ41 (show σ41 10 13 ≤ (i + 1) from by omega) (show itK lstop (lstep (fX σ)) (500 - (i + 1)).toNat (aX σ41, σ41 10 13) = lns (fX σ) from (by first | exact lx | exact lns_0 cb (by omega))) (show ¬ σ41 10 11 = 0 ∨ σ41 10 6 = 0 ∨ (i + 1) + 1 ≤ σ41 10 5 from by omega) (show σ41 10 5 ≤ σ 10 10 from by omega) (show ¬ σ41 10 11 = 0 ∨ ¬ σ41 10 6 = 0 ∨ σ41 10 7 = σ 10 10 from by omega) (show (400 - (i + 1)).toNat < N_ from by omega)
set_option maxHeartbeats 4000000 in
set_option maxRecDepth 100000 in
theorem c_X9_readAll {G : tw_G} (hX : tw_isX G) (σ : tw_M) (hI : tw_I σ) : tw_C G yX9_readAll cX9_readAll 2 none 8 [vR 10] σ (q_X9_readAll σ) := by
  refine tw_met [(0, vR 10)] (by decide +kernel) rfl (Nat.le_of_ble_eq_true rfl) ?_
  refine j_aload_n (pc := 0) dX9_readAll_0 rfl rfl ?_
  refine j_callV (pc := 1) (As := []) (st := []) (c_X9_begin hX σ hI) mv_X9_42 rfl rfl rfl (a_10 hX) dX9_readAll_1 ⟨Nat.le_of_ble_eq_true rfl, Nat.le_of_ble_eq_true rfl⟩ ⟨Nat.le_refl _, Nat.le_refl _⟩ rfl (Nat.le_of_ble_eq_true rfl) rfl (fun z56 σ57 hz56 => ?_)
  obtain ⟨rfl, hIσ57, hGσ57, q58_0, q58_1, q58_2, q58_3, q58_4, q58_5, q58_6⟩ := hz56
  replace q58_0 : σ57 10 3 = 0 := q58_0
  replace q58_1 : σ57 10 4 = 0 := q58_1
  replace q58_2 : σ57 10 5 = 0 := q58_2
  replace q58_3 : σ57 10 11 = 0 := q58_3
  replace q58_4 : σ57 10 12 = 0 := q58_4
  replace q58_5 : σ57 10 13 = 0 := q58_5
  replace q58_6 : drX σ57 = D0 := q58_6
  have hFσ57 : tw_F (fun c j => (c = 10 ∧ (j = 3 ∨ j = 4 ∨ j = 5 ∨ j = 6 ∨ j = 7 ∨ j = 8 ∨ j = 11 ∨ j = 12 ∨ j = 13)) ∨ (12 ≤ c ∧ c < 14) ∨ (14 ≤ c ∧ c < 23)) σ σ57 := tw_F_tr (tw_F_rf) hGσ57 (fun c j q => (show (c = 10 ∧ (j = 3 ∨ j = 4 ∨ j = 5 ∨ j = 6 ∨ j = 7 ∨ j = 8 ∨ j = 11 ∨ j = 12 ∨ j = 13)) ∨ (12 ≤ c ∧ c < 14) ∨ (14 ≤ c ∧ c < 23) from by replace q : (c = 10 ∧ (j = 3 ∨ j = 4 ∨ j = 5 ∨ j = 11 ∨ j = 12 ∨ j = 13)) ∨ (12 ≤ c ∧ c < 14) ∨ (14 ≤ c ∧ c < 23) := q; exact (q.elim (fun q => (Or.inl ⟨q.1, (q.2.elim (fun z => (Or.inl z)) (fun z => (z.elim (fun z => (Or.inr (Or.inl z))) (fun z => (z.elim (fun z => (Or.inr (Or.inr (Or.inl z)))) (fun z => (z.elim (fun z => (Or.inr (Or.inr (Or.inr (Or.inr (Or.inr (Or.inr (Or.inl z)))))))) (fun z => (z.elim (fun z => (Or.inr (Or.inr (Or.inr (Or.inr (Or.inr (Or.inr (Or.inr (Or.inl z))))))))) (fun z => (Or.inr (Or.inr (Or.inr (Or.inr (Or.inr (Or.inr (Or.inr (Or.inr z))))))))))))))))))⟩)) (fun q => (q.elim (fun q => (Or.inr (Or.inl q))) (fun q => (Or.inr (Or.inr q))))))))
  refine j_st (st' := []) rfl ?_
  refine j_aload_n (pc := 4) dX9_readAll_4 rfl rfl ?_
  have fz : fX σ57 = fX σ := by first | rfl | exact fX_F (hFσ57 10 10 (show ¬ ((10 = 10 ∧ (10 = 3 ∨ 10 = 4 ∨ 10 = 5 ∨ 10 = 6 ∨ 10 = 7 ∨ 10 = 8 ∨ 10 = 11 ∨ 10 = 12 ∨ 10 = 13)) ∨ (12 ≤ 10 ∧ 10 < 14) ∨ (14 ≤ 10 ∧ 10 < 23)) from by decide)) (fun j => hFσ57 11 j (show ¬ ((11 = 10 ∧ (j = 3 ∨ j = 4 ∨ j = 5 ∨ j = 6 ∨ j = 7 ∨ j = 8 ∨ j = 11 ∨ j = 12 ∨ j = 13)) ∨ (12 ≤ 11 ∧ 11 < 14) ∨ (14 ≤ 11 ∧ 11 < 23)) from fun h => h.elim (fun h => absurd h.1 (by decide)) (fun h => h.elim (fun h => absurd h (by decide)) (fun h => absurd h (by decide)))))
  refine j_callV (pc := 5) (As := []) (st := []) (c_X9_advance hX σ57 hIσ57) mv_X9_45 rfl rfl rfl (a_10 hX) dX9_readAll_5 ⟨Nat.le_of_ble_eq_true rfl, Nat.le_of_ble_eq_true rfl⟩ ⟨Nat.le_refl _, Nat.le_refl _⟩ rfl (Nat.le_of_ble_eq_true rfl) rfl (fun z60 σ61 hz60 => ?_)
  obtain ⟨rfl, hIσ61, hGσ61, q62_0, q62_1, q62_2, q62_3⟩ := hz60
  replace q62_0 : aX σ61 = tok (fX σ57) (aX σ57) := q62_0
  replace q62_1 : ¬ σ57 10 5 ≤ σ57 10 10 ∨ σ61 10 5 ≤ σ57 10 10 := q62_1
  have y64 : σ57 10 10 = σ 10 10 := (hGσ57 10 10 (show ¬ ((10 = 10 ∧ (10 = 3 ∨ 10 = 4 ∨ 10 = 5 ∨ 10 = 11 ∨ 10 = 12 ∨ 10 = 13)) ∨ (12 ≤ 10 ∧ 10 < 14) ∨ (14 ≤ 10 ∧ 10 < 23)) from by decide))
  have f65 : (0 : Int) ≤ σ 10 10 ∧ σ 10 10 ≤ 400 := hI 10 10
  replace q62_2 : ¬ σ57 10 5 ≤ σ57 10 10 ∨ ¬ σ61 10 11 = 0 ∨ ¬ σ61 10 6 = 0 ∨ σ61 10 7 = σ57 10 10 := q62_2
  have y66 : σ57 10 10 = σ 10 10 := (hGσ57 10 10 (show ¬ ((10 = 10 ∧ (10 = 3 ∨ 10 = 4 ∨ 10 = 5 ∨ 10 = 11 ∨ 10 = 12 ∨ 10 = 13)) ∨ (12 ≤ 10 ∧ 10 < 14) ∨ (14 ≤ 10 ∧ 10 < 23)) from by decide))
  replace q62_3 : ¬ σ61 10 11 = 0 ∨ (σ57 10 11 = 0 ∧ σ57 10 5 ≤ σ61 10 5 ∧ (σ61 10 6 = 0 ∨ σ57 10 5 < σ61 10 5)) := q62_3
  have hFσ61 : tw_F (fun c j => (c = 10 ∧ (j = 3 ∨ j = 4 ∨ j = 5 ∨ j = 6 ∨ j = 7 ∨ j = 8 ∨ j = 11 ∨ j = 12 ∨ j = 13)) ∨ (12 ≤ c ∧ c < 14) ∨ (14 ≤ c ∧ c < 23)) σ σ61 := tw_F_tr hFσ57 hGσ61 (fun c j q => (show (c = 10 ∧ (j = 3 ∨ j = 4 ∨ j = 5 ∨ j = 6 ∨ j = 7 ∨ j = 8 ∨ j = 11 ∨ j = 12 ∨ j = 13)) ∨ (12 ≤ c ∧ c < 14) ∨ (14 ≤ c ∧ c < 23) from by replace q : (c = 10 ∧ (j = 5 ∨ j = 6 ∨ j = 7 ∨ j = 8 ∨ j = 11 ∨ j = 12)) := q; exact (Or.inl ⟨q.1, (q.2.elim (fun z => (Or.inr (Or.inr (Or.inl z)))) (fun z => (z.elim (fun z => (Or.inr (Or.inr (Or.inr (Or.inl z))))) (fun z => (z.elim (fun z => (Or.inr (Or.inr (Or.inr (Or.inr (Or.inl z)))))) (fun z => (z.elim (fun z => (Or.inr (Or.inr (Or.inr (Or.inr (Or.inr (Or.inl z))))))) (fun z => (z.elim (fun z => (Or.inr (Or.inr (Or.inr (Or.inr (Or.inr (Or.inr (Or.inl z)))))))) (fun z => (Or.inr (Or.inr (Or.inr (Or.inr (Or.inr (Or.inr (Or.inr (Or.inl z))))))))))))))))))⟩)))
  refine j_st (st' := []) rfl ?_
  have cb := q62_0; rw [fz, aX_ok (σ := σ57) (by omega), q58_6, show _ = (0 : Int) from q58_2] at cb
  refine j_iconst (pc := 8) dX9_readAll_8 ?_
  refine j_istore_n (pc := 9) (i := 1) (ls' := [(0, vR 10), (1, vI 0)]) [1, 0] dX9_readAll_9 rfl (Nat.le_of_ble_eq_true rfl) rfl rfl ?_
  refine j_ls (ls' := [(0, vR 10), (1, vI 0)]) [0, 1] rfl ?_
  have y67 : σ61 10 13 = σ57 10 13 := (hGσ61 10 13 (show ¬ ((10 = 10 ∧ (13 = 5 ∨ 13 = 6 ∨ 13 = 7 ∨ 13 = 8 ∨ 13 = 11 ∨ 13 = 12))) from by decide))
  have f68 : (0 : Int) ≤ σ57 10 13 ∧ σ57 10 13 ≤ 400 := hIσ57 10 13
  have y69 : σ61 10 13 = σ57 10 13 := (hGσ61 10 13 (show ¬ ((10 = 10 ∧ (13 = 5 ∨ 13 = 6 ∨ 13 = 7 ∨ 13 = 8 ∨ 13 = 11 ∨ 13 = 12))) from by decide))
  exact (l_X9_readAll hX σ hI (((400 - (0 : Int)).toNat) + 1)) 0 (by (first | decide | exact ⟨by omega, by omega⟩)) σ61 hIσ61 hFσ61 (show σ61 10 13 ≤ (0 : Int) from by omega) (show itK lstop (lstep (fX σ)) (500 - (0 : Int)).toNat (aX σ61, σ61 10 13) = lns (fX σ) from (by first | exact lx | exact lns_0 cb (by omega))) (show ¬ σ61 10 11 = 0 ∨ σ61 10 6 = 0 ∨ (0 : Int) + 1 ≤ σ61 10 5 from by omega) (show σ61 10 5 ≤ σ 10 10 from by omega) (show ¬ σ61 10 11 = 0 ∨ ¬ σ61 10 6 = 0 ∨ σ61 10 7 = σ 10 10 from by omega) (Nat.lt_succ_self _)
