/-! 18.text -/
theorem dJ0_coder_7d493_0 : decode cJ0_coder_7d493 0 = .ok (.getstatic 38, 3) := by decide +kernel
theorem dJ0_coder_7d493_3 : decode cJ0_coder_7d493 3 = .ok (.ifCond .eq 10, 3) := by decide +kernel
theorem dJ0_coder_7d493_6 : decode cJ0_coder_7d493 6 = .ok (.aload_n 0, 1) := by decide +kernel
theorem dJ0_coder_7d493_7 : decode cJ0_coder_7d493 7 = .ok (.getfield 15, 3) := by decide +kernel
theorem dJ0_coder_7d493_10 : decode cJ0_coder_7d493 10 = .ok (.goto 4, 3) := by decide +kernel
theorem dJ0_coder_7d493_13 : decode cJ0_coder_7d493 13 = .ok (.iconst 1, 1) := by decide +kernel
theorem dJ0_coder_7d493_14 : decode cJ0_coder_7d493 14 = .ok (.ireturn, 1) := by decide +kernel
theorem dJ0_length_8abf5_0 : decode cJ0_length_8abf5 0 = .ok (.aload_n 0, 1) := by decide +kernel
theorem dJ0_length_8abf5_1 : decode cJ0_length_8abf5 1 = .ok (.getfield 9, 3) := by decide +kernel
theorem dJ0_length_8abf5_4 : decode cJ0_length_8abf5 4 = .ok (.arraylength, 1) := by decide +kernel
theorem dJ0_length_8abf5_5 : decode cJ0_length_8abf5 5 = .ok (.aload_n 0, 1) := by decide +kernel
theorem dJ0_length_8abf5_6 : decode cJ0_length_8abf5 6 = .ok (.invokevirtual 335, 3) := by decide +kernel
theorem dJ0_length_8abf5_9 : decode cJ0_length_8abf5 9 = .ok (.ishr, 1) := by decide +kernel
theorem dJ0_length_8abf5_10 : decode cJ0_length_8abf5 10 = .ok (.ireturn, 1) := by decide +kernel
theorem dJ0_isLatin1_aae02_0 : decode cJ0_isLatin1_aae02 0 = .ok (.getstatic 38, 3) := by decide +kernel
theorem dJ0_isLatin1_aae02_3 : decode cJ0_isLatin1_aae02 3 = .ok (.ifCond .eq 14, 3) := by decide +kernel
theorem dJ0_isLatin1_aae02_6 : decode cJ0_isLatin1_aae02 6 = .ok (.aload_n 0, 1) := by decide +kernel
theorem dJ0_isLatin1_aae02_7 : decode cJ0_isLatin1_aae02 7 = .ok (.getfield 15, 3) := by decide +kernel
theorem dJ0_isLatin1_aae02_10 : decode cJ0_isLatin1_aae02 10 = .ok (.ifCond .ne 7, 3) := by decide +kernel
theorem dJ0_isLatin1_aae02_13 : decode cJ0_isLatin1_aae02 13 = .ok (.iconst 1, 1) := by decide +kernel
theorem dJ0_isLatin1_aae02_14 : decode cJ0_isLatin1_aae02 14 = .ok (.goto 4, 3) := by decide +kernel
theorem dJ0_isLatin1_aae02_17 : decode cJ0_isLatin1_aae02 17 = .ok (.iconst 0, 1) := by decide +kernel
theorem dJ0_isLatin1_aae02_18 : decode cJ0_isLatin1_aae02 18 = .ok (.ireturn, 1) := by decide +kernel
theorem dJ3_checkIndex_8e157_0 : decode cJ3_checkIndex_8e157 0 = .ok (.iload_n 0, 1) := by decide +kernel
theorem dJ3_checkIndex_8e157_1 : decode cJ3_checkIndex_8e157 1 = .ok (.ifCond .lt 8, 3) := by decide +kernel
theorem dJ3_checkIndex_8e157_4 : decode cJ3_checkIndex_8e157 4 = .ok (.iload_n 0, 1) := by decide +kernel
theorem dJ3_checkIndex_8e157_5 : decode cJ3_checkIndex_8e157 5 = .ok (.iload_n 1, 1) := by decide +kernel
theorem dJ3_checkIndex_8e157_6 : decode cJ3_checkIndex_8e157 6 = .ok (.if_icmp .lt 10, 3) := by decide +kernel
theorem dJ3_checkIndex_8e157_9 : decode cJ3_checkIndex_8e157 9 = .ok (.aload_n 2, 1) := by decide +kernel
theorem dJ3_checkIndex_8e157_10 : decode cJ3_checkIndex_8e157 10 = .ok (.iload_n 0, 1) := by decide +kernel
theorem dJ3_checkIndex_8e157_11 : decode cJ3_checkIndex_8e157 11 = .ok (.iload_n 1, 1) := by decide +kernel
theorem dJ3_checkIndex_8e157_12 : decode cJ3_checkIndex_8e157 12 = .ok (.invokestatic 95, 3) := by decide +kernel
theorem dJ3_checkIndex_8e157_15 : decode cJ3_checkIndex_8e157 15 = .ok (.athrow, 1) := by decide +kernel
theorem dJ3_checkIndex_8e157_16 : decode cJ3_checkIndex_8e157 16 = .ok (.iload_n 0, 1) := by decide +kernel
theorem dJ3_checkIndex_8e157_17 : decode cJ3_checkIndex_8e157 17 = .ok (.ireturn, 1) := by decide +kernel
theorem dJ0_checkIndex_df160_0 : decode cJ0_checkIndex_df160 0 = .ok (.iload_n 0, 1) := by decide +kernel
theorem dJ0_checkIndex_df160_1 : decode cJ0_checkIndex_df160 1 = .ok (.iload_n 1, 1) := by decide +kernel
theorem dJ0_checkIndex_df160_2 : decode cJ0_checkIndex_df160 2 = .ok (.getstatic 1053, 3) := by decide +kernel
theorem dJ0_checkIndex_df160_5 : decode cJ0_checkIndex_df160 5 = .ok (.invokestatic 1059, 3) := by decide +kernel
theorem dJ0_checkIndex_df160_8 : decode cJ0_checkIndex_df160 8 = .ok (.pop, 1) := by decide +kernel
theorem dJ0_checkIndex_df160_9 : decode cJ0_checkIndex_df160 9 = .ok (.return_, 1) := by decide +kernel
theorem dJ1_charAt_3b067_0 : decode cJ1_charAt_3b067 0 = .ok (.iload_n 1, 1) := by decide +kernel
theorem dJ1_charAt_3b067_1 : decode cJ1_charAt_3b067 1 = .ok (.aload_n 0, 1) := by decide +kernel
theorem dJ1_charAt_3b067_2 : decode cJ1_charAt_3b067 2 = .ok (.arraylength, 1) := by decide +kernel
theorem dJ1_charAt_3b067_3 : decode cJ1_charAt_3b067 3 = .ok (.invokestatic 9, 3) := by decide +kernel
theorem dJ1_charAt_3b067_6 : decode cJ1_charAt_3b067 6 = .ok (.aload_n 0, 1) := by decide +kernel
theorem dJ1_charAt_3b067_7 : decode cJ1_charAt_3b067 7 = .ok (.iload_n 1, 1) := by decide +kernel
theorem dJ1_charAt_3b067_8 : decode cJ1_charAt_3b067 8 = .ok (.baload, 1) := by decide +kernel
theorem dJ1_charAt_3b067_9 : decode cJ1_charAt_3b067 9 = .ok (.sipush 255, 3) := by decide +kernel
theorem dJ1_charAt_3b067_12 : decode cJ1_charAt_3b067 12 = .ok (.iand, 1) := by decide +kernel
theorem dJ1_charAt_3b067_13 : decode cJ1_charAt_3b067 13 = .ok (.i2c, 1) := by decide +kernel
theorem dJ1_charAt_3b067_14 : decode cJ1_charAt_3b067 14 = .ok (.ireturn, 1) := by decide +kernel
theorem dJ0_charAt_5068e_0 : decode cJ0_charAt_5068e 0 = .ok (.aload_n 0, 1) := by decide +kernel
theorem dJ0_charAt_5068e_1 : decode cJ0_charAt_5068e 1 = .ok (.invokevirtual 492, 3) := by decide +kernel
theorem dJ0_charAt_5068e_4 : decode cJ0_charAt_5068e 4 = .ok (.ifCond .eq 12, 3) := by decide +kernel
theorem dJ0_charAt_5068e_7 : decode cJ0_charAt_5068e 7 = .ok (.aload_n 0, 1) := by decide +kernel
theorem dJ0_charAt_5068e_8 : decode cJ0_charAt_5068e 8 = .ok (.getfield 9, 3) := by decide +kernel
theorem dJ0_charAt_5068e_11 : decode cJ0_charAt_5068e 11 = .ok (.iload_n 1, 1) := by decide +kernel
theorem dJ0_charAt_5068e_12 : decode cJ0_charAt_5068e 12 = .ok (.invokestatic 495, 3) := by decide +kernel
theorem dJ0_charAt_5068e_15 : decode cJ0_charAt_5068e 15 = .ok (.ireturn, 1) := by decide +kernel
theorem dJ0_charAt_5068e_16 : decode cJ0_charAt_5068e 16 = .ok (.aload_n 0, 1) := by decide +kernel
theorem dJ0_charAt_5068e_17 : decode cJ0_charAt_5068e 17 = .ok (.getfield 9, 3) := by decide +kernel
theorem dJ0_charAt_5068e_20 : decode cJ0_charAt_5068e 20 = .ok (.iload_n 1, 1) := by decide +kernel
theorem dJ0_charAt_5068e_21 : decode cJ0_charAt_5068e 21 = .ok (.invokestatic 498, 3) := by decide +kernel
theorem dJ0_charAt_5068e_24 : decode cJ0_charAt_5068e 24 = .ok (.ireturn, 1) := by decide +kernel
abbrev q_J3_checkIndex_8e157 (a : Int) (b : Int) (σ : tw_M) : Option tw_V → tw_M → Prop := fun z τ => ∃ r : Int, z = some (vI r) ∧ (-2147483648 ≤ r ∧ r ≤ 2147483647) ∧ σ = τ ∧ True
set_option maxHeartbeats 4000000 in
set_option maxRecDepth 100000 in
theorem c_J3r {G : tw_G} (a : Int) (ha : 0 ≤ a ∧ a ≤ 2147483647) (b : Int) (hb : 0 ≤ b ∧ b ≤ 2147483647) (t : Nat) (σ : tw_M) (hI : tw_I σ) (hq0 : 0 ≤ a ∧ a < b) : tw_C G yJ3_checkIndex_8e157 cJ3_checkIndex_8e157 3 (some .int) 0 [vI a, vI b, vV ((.ref t))] σ (q_J3_checkIndex_8e157 a b σ) := by
  refine tw_met [(0, vI a), (1, vI b), (2, vV ((.ref t)))] (by decide +kernel) rfl (Nat.le_of_ble_eq_true rfl) ?_
  refine j_iload_n (pc := 0) dJ3_checkIndex_8e157_0 rfl rfl ?_
  refine j_ifR_lt (pc := 1) (tgt := 9) ⟨by omega, by omega⟩ dJ3_checkIndex_8e157_1 rfl (fun h1 => by exfalso; omega) (fun h1 => ?_)
  refine j_iload_n (pc := 4) dJ3_checkIndex_8e157_4 rfl rfl ?_
  refine j_iload_n (pc := 5) dJ3_checkIndex_8e157_5 rfl rfl ?_
  refine j_icmpR_lt (pc := 6) (tgt := 16) ⟨by omega, by omega⟩ ⟨by omega, by omega⟩ dJ3_checkIndex_8e157_6 rfl (fun h2 => ?_) (fun h2 => by exfalso; omega)
  refine j_iload_n (pc := 16) dJ3_checkIndex_8e157_16 rfl rfl ?_
  exact j_iret (pc := 17) ⟨rfl, rfl⟩ dJ3_checkIndex_8e157_17 rfl ⟨_, rfl, ⟨by omega, by omega⟩, rfl, trivial⟩
abbrev q_J0_coder_7d493 (i : Nat) (σ : tw_M) : Option tw_V → tw_M → Prop := fun z τ => ∃ r : Int, z = some (vI r) ∧ (0 ≤ r ∧ r ≤ 0) ∧ σ = τ ∧ True
set_option maxHeartbeats 4000000 in
set_option maxRecDepth 100000 in
theorem c_J0_coder_7d493 {G : tw_G} (i : Nat) (hi : i < tw_lit.length) (σ : tw_M) (hI : tw_I σ) : tw_C G yJ0_coder_7d493 cJ0_coder_7d493 1 (some .byte) 0 [vR (200 + i)] σ (q_J0_coder_7d493 i σ) := by
  refine tw_met [(0, vR (200 + i))] (by decide +kernel) rfl (Nat.le_of_ble_eq_true rfl) ?_
  refine j_getsCompact (pc := 0) (tw_inc tm_3 (i := 96) rfl rfl) dJ0_coder_7d493_0 ?_
  refine j_ifR_eq (pc := 3) (tgt := 13) ⟨by omega, by omega⟩ dJ0_coder_7d493_3 rfl (fun h1 => by exfalso; omega) (fun h1 => ?_)
  refine j_aload_n (pc := 6) dJ0_coder_7d493_6 rfl rfl ?_
  refine j_strCoder (pc := 7) (i := i) hi (tw_inc tm_8 (i := 68) rfl rfl) dJ0_coder_7d493_7 ?_
  refine j_goto (pc := 10) (tgt := 14) dJ0_coder_7d493_10 rfl ?_
  exact j_zret (pc := 14) ⟨rfl, rfl⟩ dJ0_coder_7d493_14 rfl (nar_byte (by omega) (by omega)) ⟨_, rfl, ⟨by omega, by omega⟩, rfl, trivial⟩
abbrev q_J0_length_8abf5 (i : Nat) (σ : tw_M) : Option tw_V → tw_M → Prop := fun z τ => ∃ r : Int, z = some (vI r) ∧ (0 ≤ r ∧ r ≤ 8) ∧ σ = τ ∧ (r = (tw_llen i : Int))
set_option maxHeartbeats 4000000 in
set_option maxRecDepth 100000 in
theorem c_J0_length_8abf5 {G : tw_G} (i : Nat) (hi : i < tw_lit.length) (σ : tw_M) (hI : tw_I σ) : tw_C G yJ0_length_8abf5 cJ0_length_8abf5 1 (some .int) 1 [vR (200 + i)] σ (q_J0_length_8abf5 i σ) := by
  refine tw_met [(0, vR (200 + i))] (by decide +kernel) rfl (Nat.le_of_ble_eq_true rfl) ?_
  refine j_aload_n (pc := 0) dJ0_length_8abf5_0 rfl rfl ?_
  refine j_strValue (pc := 1) (i := i) hi (tw_inc tm_8 (i := 67) rfl rfl) dJ0_length_8abf5_1 ?_
  refine j_strLen (pc := 4) (i := i) hi dJ0_length_8abf5_4 ?_
  have f1 := tw_llen_in hi
  refine j_aload_n (pc := 5) dJ0_length_8abf5_5 rfl rfl ?_
  refine j_callT (pc := 6) (i := i) (As := []) (st := [vI ((tw_llen i : Int))]) (c_J0_coder_7d493 i hi σ hI) hi mv_J0_335 rfl rfl dJ0_length_8abf5_6 ⟨Nat.le_of_ble_eq_true rfl, Nat.le_of_ble_eq_true rfl⟩ ⟨Nat.le_refl _, Nat.le_refl _⟩ rfl (Nat.le_of_ble_eq_true rfl) rfl (fun z2 σ3 hz2 => ?_)
  obtain ⟨r5, rfl, hr5, rfl, -⟩ := hz2
  refine j_st (st' := [vI r5, vI ((tw_llen i : Int))]) rfl ?_
  refine j_ishr (pc := 9) dJ0_length_8abf5_9 (fun z6 ez6 => ?_)
  have hz6 : (-2147483648 : Int) ≤ z6 ∧ z6 ≤ 2147483647 := by rw [ez6]; exact shr_in _ _
  have xz6 : z6 = ((tw_llen i : Int)) := by rw [ez6]; exact shr0 (by omega) (by omega)
  have gz6 : (0 : Int) ≤ z6 ∧ z6 ≤ 8 := by omega
  exact j_iret (pc := 10) ⟨rfl, rfl⟩ dJ0_length_8abf5_10 rfl ⟨_, rfl, ⟨by omega, by omega⟩, rfl, by omega⟩
abbrev q_J0_isLatin1_aae02 (i : Nat) (σ : tw_M) : Option tw_V → tw_M → Prop := fun z τ => ∃ r : Int, z = some (vI r) ∧ (1 ≤ r ∧ r ≤ 1) ∧ σ = τ ∧ True
set_option maxHeartbeats 4000000 in
set_option maxRecDepth 100000 in
theorem c_J0_isLatin1_aae02 {G : tw_G} (i : Nat) (hi : i < tw_lit.length) (σ : tw_M) (hI : tw_I σ) : tw_C G yJ0_isLatin1_aae02 cJ0_isLatin1_aae02 1 (some .boolean) 0 [vR (200 + i)] σ (q_J0_isLatin1_aae02 i σ) := by
  refine tw_met [(0, vR (200 + i))] (by decide +kernel) rfl (Nat.le_of_ble_eq_true rfl) ?_
  refine j_getsCompact (pc := 0) (tw_inc tm_3 (i := 96) rfl rfl) dJ0_isLatin1_aae02_0 ?_
  refine j_ifR_eq (pc := 3) (tgt := 17) ⟨by omega, by omega⟩ dJ0_isLatin1_aae02_3 rfl (fun h1 => by exfalso; omega) (fun h1 => ?_)
  refine j_aload_n (pc := 6) dJ0_isLatin1_aae02_6 rfl rfl ?_
  refine j_strCoder (pc := 7) (i := i) hi (tw_inc tm_8 (i := 68) rfl rfl) dJ0_isLatin1_aae02_7 ?_
  refine j_ifR_ne (pc := 10) (tgt := 17) ⟨by omega, by omega⟩ dJ0_isLatin1_aae02_10 rfl (fun h2 => by exfalso; omega) (fun h2 => ?_)
  refine j_iconst (pc := 13) dJ0_isLatin1_aae02_13 ?_
  refine j_goto (pc := 14) (tgt := 18) dJ0_isLatin1_aae02_14 rfl ?_
  exact j_zret (pc := 18) ⟨rfl, rfl⟩ dJ0_isLatin1_aae02_18 rfl (nar_bool (by omega) (by omega)) ⟨_, rfl, ⟨by omega, by omega⟩, rfl, trivial⟩
set_option maxHeartbeats 4000000 in
set_option maxRecDepth 100000 in
theorem c_J3n {G : tw_G} (a : Int) (ha : 0 ≤ a ∧ a ≤ 2147483647) (b : Int) (hb : 0 ≤ b ∧ b ≤ 2147483647) (σ : tw_M) (hI : tw_I σ) (hq0 : 0 ≤ a ∧ a < b) : tw_C G yJ3_checkIndex_8e157 cJ3_checkIndex_8e157 3 (some .int) 0 [vI a, vI b, vV (.null)] σ (q_J3_checkIndex_8e157 a b σ) := by
  refine tw_met [(0, vI a), (1, vI b), (2, vV (.null))] (by decide +kernel) rfl (Nat.le_of_ble_eq_true rfl) ?_
  refine j_iload_n (pc := 0) dJ3_checkIndex_8e157_0 rfl rfl ?_
  refine j_ifR_lt (pc := 1) (tgt := 9) ⟨by omega, by omega⟩ dJ3_checkIndex_8e157_1 rfl (fun h1 => by exfalso; omega) (fun h1 => ?_)
  refine j_iload_n (pc := 4) dJ3_checkIndex_8e157_4 rfl rfl ?_
  refine j_iload_n (pc := 5) dJ3_checkIndex_8e157_5 rfl rfl ?_
  refine j_icmpR_lt (pc := 6) (tgt := 16) ⟨by omega, by omega⟩ ⟨by omega, by omega⟩ dJ3_checkIndex_8e157_6 rfl (fun h2 => ?_) (fun h2 => by exfalso; omega)
  refine j_iload_n (pc := 16) dJ3_checkIndex_8e157_16 rfl rfl ?_
  exact j_iret (pc := 17) ⟨rfl, rfl⟩ dJ3_checkIndex_8e157_17 rfl ⟨_, rfl, ⟨by omega, by omega⟩, rfl, trivial⟩
abbrev q_J0_checkIndex_df160 (a : Int) (b : Int) (σ : tw_M) : Option tw_V → tw_M → Prop := fun z τ => z = none ∧ σ = τ ∧ True
set_option maxHeartbeats 4000000 in
set_option maxRecDepth 100000 in
theorem c_J0_checkIndex_df160 {G : tw_G} (a : Int) (ha : 0 ≤ a ∧ a ≤ 2147483647) (b : Int) (hb : 0 ≤ b ∧ b ≤ 2147483647) (σ : tw_M) (hI : tw_I σ) (hq0 : 0 ≤ a ∧ a < b) : tw_C G yJ0_checkIndex_df160 cJ0_checkIndex_df160 2 none 1 [vI a, vI b] σ (q_J0_checkIndex_df160 a b σ) := by
  refine tw_met [(0, vI a), (1, vI b)] (by decide +kernel) rfl (Nat.le_of_ble_eq_true rfl) ?_
  refine j_iload_n (pc := 0) dJ0_checkIndex_df160_0 rfl rfl ?_
  refine j_iload_n (pc := 1) dJ0_checkIndex_df160_1 rfl rfl ?_
  refine j_getsForm (pc := 2) (tw_inc tm_3 (i := 112) rfl rfl) dJ0_checkIndex_df160_2 ?_ (fun t1 => ?_)
  · refine j_callS (pc := 5) (As := [vI a, vI b, vV (.null)]) (st := []) (c_J3n a ⟨by omega, by omega⟩ b ⟨by omega, by omega⟩ σ hI (by omega)) ms_J0_1059 rfl dJ0_checkIndex_df160_5 ⟨Nat.le_of_ble_eq_true rfl, Nat.le_of_ble_eq_true rfl⟩ ⟨Nat.le_refl _, Nat.le_refl _⟩ rfl (Nat.le_of_ble_eq_true rfl) rfl (fun z2 σ3 hz2 => ?_)
    obtain ⟨r5, rfl, hr5, rfl, -⟩ := hz2
    refine j_st (st' := [vI r5]) rfl ?_
    refine j_pop (pc := 8) dJ0_checkIndex_df160_8 rfl ?_
    exact j_vret (pc := 9) ⟨rfl, rfl⟩ dJ0_checkIndex_df160_9 rfl ⟨rfl, rfl, trivial⟩
  · refine j_callS (pc := 5) (As := [vI a, vI b, vV ((.ref t1))]) (st := []) (c_J3r a ⟨by omega, by omega⟩ b ⟨by omega, by omega⟩ t1 σ hI (by omega)) ms_J0_1059 rfl dJ0_checkIndex_df160_5 ⟨Nat.le_of_ble_eq_true rfl, Nat.le_of_ble_eq_true rfl⟩ ⟨Nat.le_refl _, Nat.le_refl _⟩ rfl (Nat.le_of_ble_eq_true rfl) rfl (fun z6 σ7 hz6 => ?_)
    obtain ⟨r9, rfl, hr9, rfl, -⟩ := hz6
    refine j_st (st' := [vI r9]) rfl ?_
    refine j_pop (pc := 8) dJ0_checkIndex_df160_8 rfl ?_
    exact j_vret (pc := 9) ⟨rfl, rfl⟩ dJ0_checkIndex_df160_9 rfl ⟨rfl, rfl, trivial⟩
abbrev q_J1_charAt_3b067 (i : Nat) (j : Int) (σ : tw_M) : Option tw_V → tw_M → Prop := fun z τ => ∃ r : Int, z = some (vI r) ∧ (0 ≤ r ∧ r ≤ 127) ∧ σ = τ ∧ (r = tw_lch i j.toNat)
set_option maxHeartbeats 4000000 in
set_option maxRecDepth 100000 in
theorem c_J1_charAt_3b067 {G : tw_G} (i : Nat) (hi : i < tw_lit.length) (j : Int) (hj : 0 ≤ j ∧ j ≤ 2147483647) (σ : tw_M) (hI : tw_I σ) (hq0 : j < (tw_llen i : Int)) : tw_C G yJ1_charAt_3b067 cJ1_charAt_3b067 2 (some .char) 2 [vR (220 + i), vI j] σ (q_J1_charAt_3b067 i j σ) := by
  refine tw_met [(0, vR (220 + i)), (1, vI j)] (by decide +kernel) rfl (Nat.le_of_ble_eq_true rfl) ?_
  refine j_iload_n (pc := 0) dJ1_charAt_3b067_0 rfl rfl ?_
  refine j_aload_n (pc := 1) dJ1_charAt_3b067_1 rfl rfl ?_
  refine j_strLen (pc := 2) (i := i) hi dJ1_charAt_3b067_2 ?_
  have f1 := tw_llen_in hi
  refine j_callS (pc := 3) (As := [vI j, vI ((tw_llen i : Int))]) (st := []) (c_J0_checkIndex_df160 j ⟨by omega, by omega⟩ ((tw_llen i : Int)) ⟨by omega, by omega⟩ σ hI (by omega)) ms_J1_9 rfl dJ1_charAt_3b067_3 ⟨Nat.le_of_ble_eq_true rfl, Nat.le_of_ble_eq_true rfl⟩ ⟨Nat.le_refl _, Nat.le_refl _⟩ rfl (Nat.le_of_ble_eq_true rfl) rfl (fun z2 σ3 hz2 => ?_)
  obtain ⟨rfl, rfl, -⟩ := hz2
  refine j_st (st' := []) rfl ?_
  refine j_aload_n (pc := 6) dJ1_charAt_3b067_6 rfl rfl ?_
  refine j_iload_n (pc := 7) dJ1_charAt_3b067_7 rfl rfl ?_
  refine j_strAt (pc := 8) (i := i) hi dJ1_charAt_3b067_8 (by omega) (by omega) (by omega) ?_
  have f6 : (0 : Int) ≤ tw_lch i j.toNat ∧ tw_lch i j.toNat ≤ 127 := tw_lch_in _ _
  refine j_sipush (pc := 9) dJ1_charAt_3b067_9 rfl ?_
  refine j_iand (pc := 12) dJ1_charAt_3b067_12 (fun z7 ez7 => ?_)
  have hz7 : (-2147483648 : Int) ≤ z7 ∧ z7 ≤ 2147483647 := by rw [ez7]; exact and_in _ _
  have xz7 : z7 = (tw_lch i j.toNat) := by rw [ez7]; exact and255_eq (by omega) (by omega)
  have gz7 : (0 : Int) ≤ z7 ∧ z7 ≤ 127 := by omega
  refine j_i2c (pc := 13) dJ1_charAt_3b067_13 (fun z8 ez8 => ?_)
  have hz8 : (0 : Int) ≤ z8 ∧ z8 ≤ 65535 := by rw [ez8]; exact i2c_in _
  have xz8 : z8 = z7 := by rw [ez8]; exact i2c_eq (by omega) (by omega)
  exact j_zret (pc := 14) ⟨rfl, rfl⟩ dJ1_charAt_3b067_14 rfl (nar_char (by omega) (by omega)) ⟨_, rfl, ⟨by omega, by omega⟩, rfl, by omega⟩
abbrev q_J0_charAt_5068e (i : Nat) (j : Int) (σ : tw_M) : Option tw_V → tw_M → Prop := fun z τ => ∃ r : Int, z = some (vI r) ∧ (0 ≤ r ∧ r ≤ 127) ∧ σ = τ ∧ (r = tw_lch i j.toNat)
set_option maxHeartbeats 4000000 in
set_option maxRecDepth 100000 in
theorem c_J0_charAt_5068e {G : tw_G} (i : Nat) (hi : i < tw_lit.length) (j : Int) (hj : 0 ≤ j ∧ j ≤ 2147483647) (σ : tw_M) (hI : tw_I σ) (hq0 : j < (tw_llen i : Int)) : tw_C G yJ0_charAt_5068e cJ0_charAt_5068e 2 (some .char) 3 [vR (200 + i), vI j] σ (q_J0_charAt_5068e i j σ) := by
  refine tw_met [(0, vR (200 + i)), (1, vI j)] (by decide +kernel) rfl (Nat.le_of_ble_eq_true rfl) ?_
  refine j_aload_n (pc := 0) dJ0_charAt_5068e_0 rfl rfl ?_
  refine j_callT (pc := 1) (i := i) (As := []) (st := []) (c_J0_isLatin1_aae02 i hi σ hI) hi mv_J0_492 rfl rfl dJ0_charAt_5068e_1 ⟨Nat.le_of_ble_eq_true rfl, Nat.le_of_ble_eq_true rfl⟩ ⟨Nat.le_refl _, Nat.le_refl _⟩ rfl (Nat.le_of_ble_eq_true rfl) rfl (fun z1 σ2 hz1 => ?_)
  obtain ⟨r4, rfl, hr4, rfl, -⟩ := hz1
  refine j_st (st' := [vI r4]) rfl ?_
  refine j_ifR_eq (pc := 4) (tgt := 16) ⟨by omega, by omega⟩ dJ0_charAt_5068e_4 rfl (fun h5 => by exfalso; omega) (fun h5 => ?_)
  refine j_aload_n (pc := 7) dJ0_charAt_5068e_7 rfl rfl ?_
  refine j_strValue (pc := 8) (i := i) hi (tw_inc tm_8 (i := 67) rfl rfl) dJ0_charAt_5068e_8 ?_
  refine j_iload_n (pc := 11) dJ0_charAt_5068e_11 rfl rfl ?_
  refine j_callS (pc := 12) (As := [vR (220 + i), vI j]) (st := []) (c_J1_charAt_3b067 i hi j ⟨by omega, by omega⟩ σ hI (by omega)) ms_J0_495 rfl dJ0_charAt_5068e_12 ⟨Nat.le_of_ble_eq_true rfl, Nat.le_of_ble_eq_true rfl⟩ ⟨Nat.le_refl _, Nat.le_refl _⟩ rfl (Nat.le_of_ble_eq_true rfl) rfl (fun z6 σ7 hz6 => ?_)
  obtain ⟨r9, rfl, hr9, rfl, q8_0⟩ := hz6
  replace q8_0 : r9 = tw_lch i j.toNat := q8_0
  refine j_st (st' := [vI r9]) rfl ?_
  exact j_zret (pc := 15) ⟨rfl, rfl⟩ dJ0_charAt_5068e_15 rfl (nar_char (by omega) (by omega)) ⟨_, rfl, ⟨by omega, by omega⟩, rfl, by omega⟩
