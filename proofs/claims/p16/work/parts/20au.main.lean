/-! 20au.main -/
theorem dX11_needless_0 : decode cX11_needless 0 = .ok (.aload_n 0, 1) := by decide +kernel
theorem dX11_needless_1 : decode cX11_needless 1 = .ok (.getfield 26, 3) := by decide +kernel
theorem dX11_needless_4 : decode cX11_needless 4 = .ok (.getfield 168, 3) := by decide +kernel
theorem dX11_needless_7 : decode cX11_needless 7 = .ok (.astore_n 1, 1) := by decide +kernel
theorem dX11_needless_8 : decode cX11_needless 8 = .ok (.aload_n 0, 1) := by decide +kernel
theorem dX11_needless_9 : decode cX11_needless 9 = .ok (.getfield 51, 3) := by decide +kernel
theorem dX11_needless_12 : decode cX11_needless 12 = .ok (.aload_n 1, 1) := by decide +kernel
theorem dX11_needless_13 : decode cX11_needless 13 = .ok (.aload_n 1, 1) := by decide +kernel
theorem dX11_needless_14 : decode cX11_needless 14 = .ok (.invokevirtual 255, 3) := by decide +kernel
theorem dX11_needless_17 : decode cX11_needless 17 = .ok (.invokevirtual 258, 3) := by decide +kernel
theorem dX11_needless_20 : decode cX11_needless 20 = .ok (.istore_n 2, 1) := by decide +kernel
theorem dX11_needless_21 : decode cX11_needless 21 = .ok (.iconst 0, 1) := by decide +kernel
theorem dX11_needless_22 : decode cX11_needless 22 = .ok (.istore_n 3, 1) := by decide +kernel
theorem dX11_needless_23 : decode cX11_needless 23 = .ok (.iconst 0, 1) := by decide +kernel
theorem dX11_needless_24 : decode cX11_needless 24 = .ok (.istore 4, 2) := by decide +kernel
theorem dX11_needless_26 : decode cX11_needless 26 = .ok (.iload 4, 2) := by decide +kernel
theorem dX11_needless_28 : decode cX11_needless 28 = .ok (.aload_n 1, 1) := by decide +kernel
theorem dX11_needless_29 : decode cX11_needless 29 = .ok (.getfield 187, 3) := by decide +kernel
theorem dX11_needless_32 : decode cX11_needless 32 = .ok (.if_icmp .ge 39, 3) := by decide +kernel
theorem dX11_needless_35 : decode cX11_needless 35 = .ok (.aload_n 0, 1) := by decide +kernel
theorem dX11_needless_36 : decode cX11_needless 36 = .ok (.getfield 51, 3) := by decide +kernel
theorem dX11_needless_39 : decode cX11_needless 39 = .ok (.aload_n 1, 1) := by decide +kernel
theorem dX11_needless_40 : decode cX11_needless 40 = .ok (.aload_n 1, 1) := by decide +kernel
theorem dX11_needless_41 : decode cX11_needless 41 = .ok (.invokevirtual 255, 3) := by decide +kernel
theorem dX11_needless_44 : decode cX11_needless 44 = .ok (.iconst 1, 1) := by decide +kernel
theorem dX11_needless_45 : decode cX11_needless 45 = .ok (.iload 4, 2) := by decide +kernel
theorem dX11_needless_47 : decode cX11_needless 47 = .ok (.ishl, 1) := by decide +kernel
theorem dX11_needless_48 : decode cX11_needless 48 = .ok (.iconst (-1), 1) := by decide +kernel
theorem dX11_needless_49 : decode cX11_needless 49 = .ok (.ixor, 1) := by decide +kernel
theorem dX11_needless_50 : decode cX11_needless 50 = .ok (.iand, 1) := by decide +kernel
theorem dX11_needless_51 : decode cX11_needless 51 = .ok (.invokevirtual 258, 3) := by decide +kernel
theorem dX11_needless_54 : decode cX11_needless 54 = .ok (.iload_n 2, 1) := by decide +kernel
theorem dX11_needless_55 : decode cX11_needless 55 = .ok (.if_icmp .gt 10, 3) := by decide +kernel
theorem dX11_needless_58 : decode cX11_needless 58 = .ok (.iload_n 3, 1) := by decide +kernel
theorem dX11_needless_59 : decode cX11_needless 59 = .ok (.iconst 1, 1) := by decide +kernel
theorem dX11_needless_60 : decode cX11_needless 60 = .ok (.iload 4, 2) := by decide +kernel
theorem dX11_needless_62 : decode cX11_needless 62 = .ok (.ishl, 1) := by decide +kernel
theorem dX11_needless_63 : decode cX11_needless 63 = .ok (.ior, 1) := by decide +kernel
theorem dX11_needless_64 : decode cX11_needless 64 = .ok (.istore_n 3, 1) := by decide +kernel
theorem dX11_needless_65 : decode cX11_needless 65 = .ok (.iinc 4 1, 3) := by decide +kernel
theorem dX11_needless_68 : decode cX11_needless 68 = .ok (.goto (-42), 3) := by decide +kernel
theorem dX11_needless_71 : decode cX11_needless 71 = .ok (.iload_n 3, 1) := by decide +kernel
theorem dX11_needless_72 : decode cX11_needless 72 = .ok (.ireturn, 1) := by decide +kernel
abbrev q_X11_needless  (σ : tw_M) : Option tw_V → tw_M → Prop := fun z τ => ∃ r : Int, z = some (vI r) ∧ (-2147483648 ≤ r ∧ r ≤ 2147483647) ∧ tw_I τ ∧ tw_F (fun c j => (56 ≤ c ∧ c < 58)) σ τ ∧ True
set_option maxHeartbeats 4000000 in
set_option maxRecDepth 100000 in
theorem l_X11_needless {G : tw_G} (hX : tw_isX G) (σ : tw_M) (hI : tw_I σ) : ∀ N_ : Nat, (∀ (a : Int) (ha : -2147483648 ≤ a ∧ a ≤ 2147483647) (b : Int) (hb : -2147483648 ≤ b ∧ b ≤ 2147483647) (k : Int) (hk : 0 ≤ k ∧ k ≤ 10) (τ : tw_M) (hIτ : tw_I τ) (hFτ : tw_F (fun c j => (56 ≤ c ∧ c < 58)) σ τ)  (hm : (10 - k).toNat < N_), tw_J G (tw_mt RX11 cX11_needless 5 (some .int) 4) (tw_E G (q_X11_needless σ)) 26 [(0, vR 0), (1, vR 24), (2, vI a), (3, vI b), (4, vI k)] [] τ) := by
  intro N_
  induction N_ with
  | zero => exact fun a ha b hb k hk τ hIτ hFτ hm => absurd hm (Nat.not_lt_zero _)
  | succ N_ ih =>
    intro a ha b hb k hk τ hIτ hFτ hm
    refine j_iload (pc := 26) dX11_needless_26 rfl ?_
    refine j_aload_n (pc := 28) dX11_needless_28 rfl rfl ?_
    refine j_getI (pc := 29) fl_X11_187 dX11_needless_29 (a_24 hX) rfl ?_
    have f1 : (0 : Int) ≤ τ 24 0 ∧ τ 24 0 ≤ 10 := hIτ 24 0
    refine j_icmpR_ge (pc := 32) (tgt := 71) ⟨by omega, by omega⟩ ⟨by omega, by omega⟩ dX11_needless_32 rfl (fun h2 => ?_) (fun h2 => ?_)
    · refine j_iload_n (pc := 71) dX11_needless_71 rfl rfl ?_
      exact j_iret (pc := 72) ⟨rfl, rfl⟩ dX11_needless_72 rfl ⟨_, rfl, ⟨by omega, by omega⟩, hIτ, hFτ, trivial⟩
    · refine j_aload_n (pc := 35) dX11_needless_35 rfl rfl ?_
      refine j_getR (pc := 36) (r := 56) fl_X11_51 dX11_needless_36 (a_0 hX) rfl ?_
      refine j_aload_n (pc := 39) dX11_needless_39 rfl rfl ?_
      refine j_aload_n (pc := 40) dX11_needless_40 rfl rfl ?_
      refine j_callV (pc := 41) (As := []) (st := [vR 24, vR 56]) (c_X7_all 24 (s_Row_24 hX) τ hIτ) mv_X11_255 rfl rfl rfl (a_24 hX) dX11_needless_41 ⟨Nat.le_of_ble_eq_true rfl, Nat.le_of_ble_eq_true rfl⟩ ⟨Nat.le_refl _, Nat.le_refl _⟩ rfl (Nat.le_of_ble_eq_true rfl) rfl (fun z3 σ4 hz3 => ?_)
      obtain ⟨r6, rfl, hr6, rfl, q5_0⟩ := hz3
      replace q5_0 : r6 = pt (τ 24 0) - 1 := q5_0
      refine j_st (st' := [vI r6, vR 24, vR 56]) rfl ?_
      refine j_iconst (pc := 44) dX11_needless_44 ?_
      refine j_iload (pc := 45) dX11_needless_45 rfl ?_
      refine j_ishl (pc := 47) dX11_needless_47 (fun z7 ez7 => ?_)
      have hz7 : (-2147483648 : Int) ≤ z7 ∧ z7 ≤ 2147483647 := by rw [ez7]; exact shl_in _ _
      refine j_iconst (pc := 48) dX11_needless_48 ?_
      refine j_ixor (pc := 49) dX11_needless_49 (fun z8 ez8 => ?_)
      have hz8 : (-2147483648 : Int) ≤ z8 ∧ z8 ≤ 2147483647 := by rw [ez8]; exact xor_in _ _
      refine j_iand (pc := 50) dX11_needless_50 (fun z9 ez9 => ?_)
      have hz9 : (-2147483648 : Int) ≤ z9 ∧ z9 ≤ 2147483647 := by rw [ez9]; exact and_in _ _
      refine j_callV (pc := 51) (As := [vR 24, vI z9]) (st := []) (c_X4_riskOf hX 24 (s_Row_24 hX) z9 ⟨by omega, by omega⟩ τ hIτ (by omega)) mv_X11_258 rfl rfl rfl (a_56 hX) dX11_needless_51 ⟨Nat.le_of_ble_eq_true rfl, Nat.le_of_ble_eq_true rfl⟩ ⟨Nat.le_refl _, Nat.le_refl _⟩ rfl (Nat.le_of_ble_eq_true rfl) rfl (fun z10 σ11 hz10 => ?_)
      obtain ⟨r13, rfl, hr13, hIσ11, hGσ11, q12_0, q12_1⟩ := hz10
      replace q12_0 : ∀ gg qq : Nat → Int, RG 24 gg qq τ → r13 = rsk (wW 1 τ) gg z9 (τ 2 0).toNat := q12_0
      replace q12_1 : -16000 ≤ r13 ∧ r13 ≤ 16000 := q12_1
      have hFσ11 : tw_F (fun c j => (56 ≤ c ∧ c < 58)) σ σ11 := tw_F_tr hFτ hGσ11 (fun c j q => (show (56 ≤ c ∧ c < 58) from by replace q : c = 57 := q; exact (by rw [show c = 57 from q]; decide)))
      refine j_st (st' := [vI r13]) rfl ?_
      refine j_iload_n (pc := 54) dX11_needless_54 rfl rfl ?_
      refine j_icmpR_gt (pc := 55) (tgt := 65) ⟨by omega, by omega⟩ ⟨by omega, by omega⟩ dX11_needless_55 rfl (fun h14 => ?_) (fun h14 => ?_)
      · refine j_iinc (pc := 65) (i := 4) (n := 1) (ls' := [(0, vR 0), (1, vR 24), (2, vI a), (3, vI b), (4, vI (k + 1))]) [1, 2, 3, 4, 0] dX11_needless_65 rfl (Nat.le_of_ble_eq_true rfl) rfl rfl ?_
        refine j_goto (pc := 68) (tgt := 26) dX11_needless_68 rfl ?_
        refine j_ls (ls' := [(0, vR 0), (1, vR 24), (2, vI a), (3, vI b), (4, vI (k + 1))]) [0, 1, 2, 3, 4] rfl ?_
        exact ih a ⟨by omega, by omega⟩ b ⟨by omega, by omega⟩ (k + 1) ⟨by omega, by omega⟩ σ11 hIσ11 hFσ11 (show (10 - (k + 1)).toNat < N_ from by omega)
      · refine j_iload_n (pc := 58) dX11_needless_58 rfl rfl ?_
        refine j_iconst (pc := 59) dX11_needless_59 ?_
        refine j_iload (pc := 60) dX11_needless_60 rfl ?_
        refine j_ishl (pc := 62) dX11_needless_62 (fun z15 ez15 => ?_)
        have hz15 : (-2147483648 : Int) ≤ z15 ∧ z15 ≤ 2147483647 := by rw [ez15]; exact shl_in _ _
        refine j_ior (pc := 63) dX11_needless_63 (fun z16 ez16 => ?_)
        have hz16 : (-2147483648 : Int) ≤ z16 ∧ z16 ≤ 2147483647 := by rw [ez16]; exact or_in _ _
        refine j_istore_n (pc := 64) (i := 3) (ls' := [(0, vR 0), (1, vR 24), (2, vI a), (3, vI z16), (4, vI k)]) [1, 2, 3, 0, 4] dX11_needless_64 rfl (Nat.le_of_ble_eq_true rfl) rfl rfl ?_
        refine j_iinc (pc := 65) (i := 4) (n := 1) (ls' := [(0, vR 0), (1, vR 24), (2, vI a), (3, vI z16), (4, vI (k + 1))]) [1, 2, 3, 4, 0] dX11_needless_65 rfl (Nat.le_of_ble_eq_true rfl) rfl rfl ?_
        refine j_goto (pc := 68) (tgt := 26) dX11_needless_68 rfl ?_
        refine j_ls (ls' := [(0, vR 0), (1, vR 24), (2, vI a), (3, vI z16), (4, vI (k + 1))]) [0, 1, 2, 3, 4] rfl ?_
        exact ih a ⟨by omega, by omega⟩ z16 ⟨by omega, by omega⟩ (k + 1) ⟨by omega, by omega⟩ σ11 hIσ11 hFσ11 (show (10 - (k + 1)).toNat < N_ from by omega)
set_option maxHeartbeats 4000000 in
set_option maxRecDepth 100000 in
theorem c_X11_needless {G : tw_G} (hX : tw_isX G) (σ : tw_M) (hI : tw_I σ) : tw_C G yX11_needless cX11_needless 5 (some .int) 4 [vR 0] σ (q_X11_needless σ) := by
  refine tw_met [(0, vR 0)] (by decide +kernel) rfl (Nat.le_of_ble_eq_true rfl) ?_
  refine j_aload_n (pc := 0) dX11_needless_0 rfl rfl ?_
  refine j_getR (pc := 1) (r := 23) fl_X11_26 dX11_needless_1 (a_0 hX) rfl ?_
  refine j_getR (pc := 4) (r := 24) fl_X11_168 dX11_needless_4 (a_23 hX) rfl ?_
  refine j_astore_n (pc := 7) (i := 1) (ls' := [(0, vR 0), (1, vR 24)]) [1, 0] dX11_needless_7 rfl (Nat.le_of_ble_eq_true rfl) rfl rfl ?_
  refine j_aload_n (pc := 8) dX11_needless_8 rfl rfl ?_
  refine j_getR (pc := 9) (r := 56) fl_X11_51 dX11_needless_9 (a_0 hX) rfl ?_
  refine j_aload_n (pc := 12) dX11_needless_12 rfl rfl ?_
  refine j_aload_n (pc := 13) dX11_needless_13 rfl rfl ?_
  refine j_callV (pc := 14) (As := []) (st := [vR 24, vR 56]) (c_X7_all 24 (s_Row_24 hX) σ hI) mv_X11_255 rfl rfl rfl (a_24 hX) dX11_needless_14 ⟨Nat.le_of_ble_eq_true rfl, Nat.le_of_ble_eq_true rfl⟩ ⟨Nat.le_refl _, Nat.le_refl _⟩ rfl (Nat.le_of_ble_eq_true rfl) rfl (fun z17 σ18 hz17 => ?_)
  obtain ⟨r20, rfl, hr20, rfl, q19_0⟩ := hz17
  replace q19_0 : r20 = pt (σ 24 0) - 1 := q19_0
  refine j_st (st' := [vI r20, vR 24, vR 56]) rfl ?_
  refine j_callV (pc := 17) (As := [vR 24, vI r20]) (st := []) (c_X4_riskOf hX 24 (s_Row_24 hX) r20 ⟨by omega, by omega⟩ σ hI (by omega)) mv_X11_258 rfl rfl rfl (a_56 hX) dX11_needless_17 ⟨Nat.le_of_ble_eq_true rfl, Nat.le_of_ble_eq_true rfl⟩ ⟨Nat.le_refl _, Nat.le_refl _⟩ rfl (Nat.le_of_ble_eq_true rfl) rfl (fun z21 σ22 hz21 => ?_)
  obtain ⟨r24, rfl, hr24, hIσ22, hGσ22, q23_0, q23_1⟩ := hz21
  replace q23_0 : ∀ gg qq : Nat → Int, RG 24 gg qq σ → r24 = rsk (wW 1 σ) gg r20 (σ 2 0).toNat := q23_0
  replace q23_1 : -16000 ≤ r24 ∧ r24 ≤ 16000 := q23_1
  have hFσ22 : tw_F (fun c j => (56 ≤ c ∧ c < 58)) σ σ22 := tw_F_tr (tw_F_rf) hGσ22 (fun c j q => (show (56 ≤ c ∧ c < 58) from by replace q : c = 57 := q; exact (by rw [show c = 57 from q]; decide)))
  refine j_st (st' := [vI r24]) rfl ?_
  refine j_istore_n (pc := 20) (i := 2) (ls' := [(0, vR 0), (1, vR 24), (2, vI r24)]) [1, 2, 0] dX11_needless_20 rfl (Nat.le_of_ble_eq_true rfl) rfl rfl ?_
  refine j_iconst (pc := 21) dX11_needless_21 ?_
  refine j_istore_n (pc := 22) (i := 3) (ls' := [(0, vR 0), (1, vR 24), (2, vI r24), (3, vI 0)]) [1, 2, 3, 0] dX11_needless_22 rfl (Nat.le_of_ble_eq_true rfl) rfl rfl ?_
  refine j_iconst (pc := 23) dX11_needless_23 ?_
  refine j_istore (pc := 24) (i := 4) (ls' := [(0, vR 0), (1, vR 24), (2, vI r24), (3, vI 0), (4, vI 0)]) [1, 2, 3, 4, 0] dX11_needless_24 (Nat.le_of_ble_eq_true rfl) rfl rfl ?_
  refine j_ls (ls' := [(0, vR 0), (1, vR 24), (2, vI r24), (3, vI 0), (4, vI 0)]) [0, 1, 2, 3, 4] rfl ?_
  exact (l_X11_needless hX σ hI (((10 - (0 : Int)).toNat) + 1)) r24 ⟨by omega, by omega⟩ 0 (by (first | decide | exact ⟨by omega, by omega⟩)) 0 (by (first | decide | exact ⟨by omega, by omega⟩)) σ22 hIσ22 hFσ22 (Nat.lt_succ_self _)
