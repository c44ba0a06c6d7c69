set_option maxHeartbeats 4000000 in
set_option maxRecDepth 100000 in
theorem w_case_20 {G : tw_G} (hX : tw_isX G) (hM : tw_isM G) {E : List Frame → Array Value → State → State → Prop} (hN : (gN G : Int) ≤ 2560) (i : Int) (hi : 0 ≤ i ∧ i + 5 ≤ (gN G : Int)) (τ : tw_M) (hIτ : tw_I τ) (hL : tw_LI τ) (K : ∀ τ' : tw_M, tw_I τ' → tw_LI τ' → tw_J G tw_ML E 1352 [(0, vR 300), (1, vR 0), (2, vR 88), (3, vI i)] [] τ') : tw_J G tw_ML E 756 [(0, vR 300), (1, vR 0), (2, vR 88), (3, vI i)] [] τ := by
  obtain ⟨mτ, zτ, sτ, bτ, fτ, kτ0, kτ1, tτ, stτ⟩ := hL
  have g9 : (0 : Int) ≤ τ 10 10 ∧ τ 10 10 ≤ 400 := hIτ 10 10
  obtain ⟨v1, ev1⟩ : ∃ v : Int, v = (gxs G (i + 1).toNat).toInt := ⟨_, rfl⟩
  have hv1 : (-2147483648 : Int) ≤ v1 ∧ v1 ≤ 2147483647 := by rw [ev1]; exact i32_in _
  obtain ⟨v2, ev2⟩ : ∃ v : Int, v = (gxs G (i + 2).toNat).toInt := ⟨_, rfl⟩
  have hv2 : (-2147483648 : Int) ≤ v2 ∧ v2 ≤ 2147483647 := by rw [ev2]; exact i32_in _
  obtain ⟨v3, ev3⟩ : ∃ v : Int, v = (gxs G (i + 3).toNat).toInt := ⟨_, rfl⟩
  have hv3 : (-2147483648 : Int) ≤ v3 ∧ v3 ≤ 2147483647 := by rw [ev3]; exact i32_in _
  obtain ⟨v4, ev4⟩ : ∃ v : Int, v = (gxs G (i + 4).toNat).toInt := ⟨_, rfl⟩
  have hv4 : (-2147483648 : Int) ≤ v4 ∧ v4 ≤ 2147483647 := by rw [ev4]; exact i32_in _
  refine j_aload_n (pc := 756) dL_law_756 rfl rfl ?_
  refine j_aload_n (pc := 757) dL_law_757 rfl rfl ?_
  refine j_iload_n (pc := 758) dL_law_758 rfl rfl ?_
  refine j_iconst (pc := 759) dL_law_759 ?_
  refine j_iadd (pc := 760) dL_law_760 ?_
  refine j_scrAt (pc := 761) dL_law_761 (by omega) (by omega) (by omega) ?_
  refine j_topV (show _ = v1 from ev1.symm) ?_
  refine j_callV (pc := 762) (As := [vI v1]) (st := []) (c_X11_drag hX v1 ⟨by omega, by omega⟩ τ hIτ) mv_L_103 rfl rfl rfl (a_0 hX) dL_law_762 ⟨Nat.le_of_ble_eq_true rfl, Nat.le_of_ble_eq_true rfl⟩ ⟨Nat.le_of_ble_eq_true rfl, Nat.le_of_ble_eq_true rfl⟩ rfl (Nat.le_of_ble_eq_true rfl) rfl (fun z1 σ2 hz1 => ?_)
  obtain ⟨r4, rfl, hr4, rfl, q3_0⟩ := hz1
  replace q3_0 : ∀ gg qq : Nat → Int, RG 24 gg qq τ → DGA (wW 1 τ) gg qq (τ 24 0) v1 r4 := q3_0
  refine j_st (st' := [vI r4]) rfl ?_
  refine j_aload_n (pc := 765) dL_law_765 rfl rfl ?_
  refine j_aload_n (pc := 766) dL_law_766 rfl rfl ?_
  refine j_iload_n (pc := 767) dL_law_767 rfl rfl ?_
  refine j_iconst (pc := 768) dL_law_768 ?_
  refine j_iadd (pc := 769) dL_law_769 ?_
  refine j_scrAt (pc := 770) dL_law_770 (by omega) (by omega) (by omega) ?_
  refine j_topV (show _ = v1 from ev1.symm) ?_
  refine j_callV (pc := 771) (As := [vI v1]) (st := [vI r4]) (c_X12_drag hM v1 ⟨by omega, by omega⟩ τ hIτ mτ.1) mv_L_106 rfl rfl rfl (a_88 hM) dL_law_771 ⟨Nat.le_of_ble_eq_true rfl, Nat.le_of_ble_eq_true rfl⟩ ⟨Nat.le_of_ble_eq_true rfl, Nat.le_of_ble_eq_true rfl⟩ rfl (Nat.le_of_ble_eq_true rfl) rfl (fun z5 σ6 hz5 => ?_)
  obtain ⟨r8, rfl, hr8, rfl, q7_0⟩ := hz5
  replace q7_0 : DGA (wM τ) (gM 0 τ) (qM 0 τ) (cnt (gM 0 τ) (τ 91 0).toNat) v1 r8 := q7_0
  refine j_st (st' := [vI r8, vI r4]) rfl ?_
  have rr9 := ST_drag stτ (show (1 : Int) ≤ τ 91 0 ∧ τ 91 0 ≤ 40 from hIτ 91 0) q3_0 q7_0
  clear q3_0 q7_0
  refine j_icmpR_eq (pc := 774) (tgt := 1352) ⟨by omega, by omega⟩ ⟨by omega, by omega⟩ dL_law_774 rfl (fun h9 => ?_) (fun h9 => ?_)
  · exact K τ hIτ ⟨mτ, by omega, sτ, bτ, by omega, by omega, by omega, tτ, stτ⟩
  · refine j_iconst (pc := 777) dL_law_777 ?_
    exfalso; omega
set_option maxHeartbeats 4000000 in
set_option maxRecDepth 100000 in
theorem w_case_21 {G : tw_G} (hX : tw_isX G) (hM : tw_isM G) {E : List Frame → Array Value → State → State → Prop} (hN : (gN G : Int) ≤ 2560) (i : Int) (hi : 0 ≤ i ∧ i + 5 ≤ (gN G : Int)) (τ : tw_M) (hIτ : tw_I τ) (hL : tw_LI τ) (K : ∀ τ' : tw_M, tw_I τ' → tw_LI τ' → tw_J G tw_ML E 1352 [(0, vR 300), (1, vR 0), (2, vR 88), (3, vI i)] [] τ') : tw_J G tw_ML E 779 [(0, vR 300), (1, vR 0), (2, vR 88), (3, vI i)] [] τ := by
  obtain ⟨mτ, zτ, sτ, bτ, fτ, kτ0, kτ1, tτ, stτ⟩ := hL
  have g9 : (0 : Int) ≤ τ 10 10 ∧ τ 10 10 ≤ 400 := hIτ 10 10
  obtain ⟨v1, ev1⟩ : ∃ v : Int, v = (gxs G (i + 1).toNat).toInt := ⟨_, rfl⟩
  have hv1 : (-2147483648 : Int) ≤ v1 ∧ v1 ≤ 2147483647 := by rw [ev1]; exact i32_in _
  obtain ⟨v2, ev2⟩ : ∃ v : Int, v = (gxs G (i + 2).toNat).toInt := ⟨_, rfl⟩
  have hv2 : (-2147483648 : Int) ≤ v2 ∧ v2 ≤ 2147483647 := by rw [ev2]; exact i32_in _
  obtain ⟨v3, ev3⟩ : ∃ v : Int, v = (gxs G (i + 3).toNat).toInt := ⟨_, rfl⟩
  have hv3 : (-2147483648 : Int) ≤ v3 ∧ v3 ≤ 2147483647 := by rw [ev3]; exact i32_in _
  obtain ⟨v4, ev4⟩ : ∃ v : Int, v = (gxs G (i + 4).toNat).toInt := ⟨_, rfl⟩
  have hv4 : (-2147483648 : Int) ≤ v4 ∧ v4 ≤ 2147483647 := by rw [ev4]; exact i32_in _
  refine j_aload_n (pc := 779) dL_law_779 rfl rfl ?_
  refine j_aload_n (pc := 780) dL_law_780 rfl rfl ?_
  refine j_iload_n (pc := 781) dL_law_781 rfl rfl ?_
  refine j_iconst (pc := 782) dL_law_782 ?_
  refine j_iadd (pc := 783) dL_law_783 ?_
  refine j_scrAt (pc := 784) dL_law_784 (by omega) (by omega) (by omega) ?_
  refine j_topV (show _ = v1 from ev1.symm) ?_
  refine j_aload_n (pc := 785) dL_law_785 rfl rfl ?_
  refine j_iload_n (pc := 786) dL_law_786 rfl rfl ?_
  refine j_iconst (pc := 787) dL_law_787 ?_
  refine j_iadd (pc := 788) dL_law_788 ?_
  refine j_scrAt (pc := 789) dL_law_789 (by omega) (by omega) (by omega) ?_
  refine j_topV (show _ = v2 from ev2.symm) ?_
  refine j_callV (pc := 790) (As := [vI v1, vI v2]) (st := []) (c_X11_slings hX v1 ⟨by omega, by omega⟩ v2 ⟨by omega, by omega⟩ τ hIτ) mv_L_107 rfl rfl rfl (a_0 hX) dL_law_790 ⟨Nat.le_of_ble_eq_true rfl, Nat.le_of_ble_eq_true rfl⟩ ⟨Nat.le_of_ble_eq_true rfl, Nat.le_of_ble_eq_true rfl⟩ rfl (Nat.le_of_ble_eq_true rfl) rfl (fun z1 σ2 hz1 => ?_)
  obtain ⟨r4, rfl, hr4, rfl, -⟩ := hz1
  refine j_st (st' := [vI r4]) rfl ?_
  refine j_pop (pc := 793) dL_law_793 rfl ?_
  refine j_aload_n (pc := 794) dL_law_794 rfl rfl ?_
  refine j_aload_n (pc := 795) dL_law_795 rfl rfl ?_
  refine j_iload_n (pc := 796) dL_law_796 rfl rfl ?_
  refine j_iconst (pc := 797) dL_law_797 ?_
  refine j_iadd (pc := 798) dL_law_798 ?_
  refine j_scrAt (pc := 799) dL_law_799 (by omega) (by omega) (by omega) ?_
  refine j_topV (show _ = v1 from ev1.symm) ?_
  refine j_aload_n (pc := 800) dL_law_800 rfl rfl ?_
  refine j_iload_n (pc := 801) dL_law_801 rfl rfl ?_
  refine j_iconst (pc := 802) dL_law_802 ?_
  refine j_iadd (pc := 803) dL_law_803 ?_
  refine j_scrAt (pc := 804) dL_law_804 (by omega) (by omega) (by omega) ?_
  refine j_topV (show _ = v2 from ev2.symm) ?_
  refine j_callV (pc := 805) (As := [vI v1, vI v2]) (st := []) (c_X12_slings hM v1 ⟨by omega, by omega⟩ v2 ⟨by omega, by omega⟩ τ hIτ mτ.1) mv_L_110 rfl rfl rfl (a_88 hM) dL_law_805 ⟨Nat.le_of_ble_eq_true rfl, Nat.le_of_ble_eq_true rfl⟩ ⟨Nat.le_of_ble_eq_true rfl, Nat.le_of_ble_eq_true rfl⟩ rfl (Nat.le_of_ble_eq_true rfl) rfl (fun z5 σ6 hz5 => ?_)
  obtain ⟨r8, rfl, hr8, rfl, -⟩ := hz5
  refine j_st (st' := [vI r8]) rfl ?_
  refine j_pop (pc := 808) dL_law_808 rfl ?_
  refine j_goto (pc := 809) (tgt := 1352) dL_law_809 rfl ?_
  exact K τ hIτ ⟨mτ, by omega, sτ, bτ, by omega, by omega, by omega, tτ, stτ⟩
set_option maxHeartbeats 4000000 in
set_option maxRecDepth 100000 in
theorem w_case_22 {G : tw_G} (hX : tw_isX G) (hM : tw_isM G) {E : List Frame → Array Value → State → State → Prop} (hN : (gN G : Int) ≤ 2560) (i : Int) (hi : 0 ≤ i ∧ i + 5 ≤ (gN G : Int)) (τ : tw_M) (hIτ : tw_I τ) (hL : tw_LI τ) (K : ∀ τ' : tw_M, tw_I τ' → tw_LI τ' → tw_J G tw_ML E 1352 [(0, vR 300), (1, vR 0), (2, vR 88), (3, vI i)] [] τ') : tw_J G tw_ML E 812 [(0, vR 300), (1, vR 0), (2, vR 88), (3, vI i)] [] τ := by
  obtain ⟨mτ, zτ, sτ, bτ, fτ, kτ0, kτ1, tτ, stτ⟩ := hL
  have g9 : (0 : Int) ≤ τ 10 10 ∧ τ 10 10 ≤ 400 := hIτ 10 10
  obtain ⟨v1, ev1⟩ : ∃ v : Int, v = (gxs G (i + 1).toNat).toInt := ⟨_, rfl⟩
  have hv1 : (-2147483648 : Int) ≤ v1 ∧ v1 ≤ 2147483647 := by rw [ev1]; exact i32_in _
  obtain ⟨v2, ev2⟩ : ∃ v : Int, v = (gxs G (i + 2).toNat).toInt := ⟨_, rfl⟩
  have hv2 : (-2147483648 : Int) ≤ v2 ∧ v2 ≤ 2147483647 := by rw [ev2]; exact i32_in _
  obtain ⟨v3, ev3⟩ : ∃ v : Int, v = (gxs G (i + 3).toNat).toInt := ⟨_, rfl⟩
  have hv3 : (-2147483648 : Int) ≤ v3 ∧ v3 ≤ 2147483647 := by rw [ev3]; exact i32_in _
  obtain ⟨v4, ev4⟩ : ∃ v : Int, v = (gxs G (i + 4).toNat).toInt := ⟨_, rfl⟩
  have hv4 : (-2147483648 : Int) ≤ v4 ∧ v4 ≤ 2147483647 := by rw [ev4]; exact i32_in _
  refine j_aload_n (pc := 812) dL_law_812 rfl rfl ?_
  refine j_aload_n (pc := 813) dL_law_813 rfl rfl ?_
  refine j_iload_n (pc := 814) dL_law_814 rfl rfl ?_
  refine j_iconst (pc := 815) dL_law_815 ?_
  refine j_iadd (pc := 816) dL_law_816 ?_
  refine j_scrAt (pc := 817) dL_law_817 (by omega) (by omega) (by omega) ?_
  refine j_topV (show _ = v1 from ev1.symm) ?_
  refine j_callV (pc := 818) (As := [vI v1]) (st := []) (c_X11_pitches hX v1 ⟨by omega, by omega⟩ τ hIτ) mv_L_111 rfl rfl rfl (a_0 hX) dL_law_818 ⟨Nat.le_of_ble_eq_true rfl, Nat.le_of_ble_eq_true rfl⟩ ⟨Nat.le_of_ble_eq_true rfl, Nat.le_of_ble_eq_true rfl⟩ rfl (Nat.le_of_ble_eq_true rfl) rfl (fun z1 σ2 hz1 => ?_)
  obtain ⟨r4, rfl, hr4, hIσ2, hGσ2, -⟩ := hz1
  refine j_st (st' := [vI r4]) rfl ?_
  have y5 : σ2 10 10 = τ 10 10 := (hGσ2 10 10 (show ¬ ((10 = 71 ∧ (10 = 1 ∨ 10 = 6)) ∨ 10 = 72 ∨ 10 = 74) from by omega))
  have f6 : (0 : Int) ≤ τ 10 10 ∧ τ 10 10 ≤ 400 := hIτ 10 10
  have bσ2 : BY σ2 := BY_kept bτ (fun j => hGσ2 11 j (show ¬ ((11 = 71 ∧ (j = 1 ∨ j = 6)) ∨ 11 = 72 ∨ 11 = 74) from by omega)) (fun j => hGσ2 98 j (show ¬ ((98 = 71 ∧ (j = 1 ∨ j = 6)) ∨ 98 = 72 ∨ 98 = 74) from by omega)) (by omega)
  have mσ2 : mI σ2 := mI_kept mτ (fun j hj => hGσ2 89 j (show ¬ ((89 = 71 ∧ (j = 1 ∨ j = 6)) ∨ 89 = 72 ∨ 89 = 74) from by omega)) (fun j => hGσ2 90 j (show ¬ ((90 = 71 ∧ (j = 1 ∨ j = 6)) ∨ 90 = 72 ∨ 90 = 74) from by omega)) (hGσ2 91 0 (show ¬ ((91 = 71 ∧ (0 = 1 ∨ 0 = 6)) ∨ 91 = 72 ∨ 91 = 74) from by omega)) hIτ
  have sσ2 : SR σ2 := SR_kept sτ (fun c j h => hGσ2 c j (show ¬ ((c = 71 ∧ (j = 1 ∨ j = 6)) ∨ c = 72 ∨ c = 74) from by omega)) (fun j => hGσ2 104 j (show ¬ ((104 = 71 ∧ (j = 1 ∨ j = 6)) ∨ 104 = 72 ∨ 104 = 74) from by omega)) (fun j => hGσ2 105 j (show ¬ ((105 = 71 ∧ (j = 1 ∨ j = 6)) ∨ 105 = 72 ∨ 105 = 74) from by omega))
  have tσ2 : TT σ2 := TT_kept tτ (fun c j h => hGσ2 c j (show ¬ ((c = 71 ∧ (j = 1 ∨ j = 6)) ∨ c = 72 ∨ c = 74) from by omega)) (fun j h => hGσ2 89 j (show ¬ ((89 = 71 ∧ (j = 1 ∨ j = 6)) ∨ 89 = 72 ∨ 89 = 74) from by omega))
  have stσ2 : ST σ2 := ST_F stτ (fun c j h => hGσ2 c j (show ¬ ((c = 71 ∧ (j = 1 ∨ j = 6)) ∨ c = 72 ∨ c = 74) from by unfold STR at h; omega))
  refine j_pop (pc := 821) dL_law_821 rfl ?_
  refine j_aload_n (pc := 822) dL_law_822 rfl rfl ?_
  refine j_aload_n (pc := 823) dL_law_823 rfl rfl ?_
  refine j_iload_n (pc := 824) dL_law_824 rfl rfl ?_
  refine j_iconst (pc := 825) dL_law_825 ?_
  refine j_iadd (pc := 826) dL_law_826 ?_
  refine j_scrAt (pc := 827) dL_law_827 (by omega) (by omega) (by omega) ?_
  refine j_topV (show _ = v1 from ev1.symm) ?_
  refine j_callV (pc := 828) (As := [vI v1]) (st := []) (c_X12_pitches hM v1 ⟨by omega, by omega⟩ σ2 hIσ2) mv_L_114 rfl rfl rfl (a_88 hM) dL_law_828 ⟨Nat.le_of_ble_eq_true rfl, Nat.le_of_ble_eq_true rfl⟩ ⟨Nat.le_of_ble_eq_true rfl, Nat.le_of_ble_eq_true rfl⟩ rfl (Nat.le_of_ble_eq_true rfl) rfl (fun z7 σ8 hz7 => ?_)
  obtain ⟨r10, rfl, hr10, hIσ8, hGσ8, -⟩ := hz7
  refine j_st (st' := [vI r10]) rfl ?_
  have y11 : σ8 10 10 = τ 10 10 := ((hGσ8 10 10 (show ¬ ((10 = 88 ∧ (10 = 30)) ∨ (99 ≤ 10 ∧ 10 < 101)) from by omega))).trans (hGσ2 10 10 (show ¬ ((10 = 71 ∧ (10 = 1 ∨ 10 = 6)) ∨ 10 = 72 ∨ 10 = 74) from by omega))
  have bσ8 : BY σ8 := BY_kept bσ2 (fun j => hGσ8 11 j (show ¬ ((11 = 88 ∧ (j = 30)) ∨ (99 ≤ 11 ∧ 11 < 101)) from by omega)) (fun j => hGσ8 98 j (show ¬ ((98 = 88 ∧ (j = 30)) ∨ (99 ≤ 98 ∧ 98 < 101)) from by omega)) (by omega)
  have mσ8 : mI σ8 := mI_kept mσ2 (fun j hj => hGσ8 89 j (show ¬ ((89 = 88 ∧ (j = 30)) ∨ (99 ≤ 89 ∧ 89 < 101)) from by omega)) (fun j => hGσ8 90 j (show ¬ ((90 = 88 ∧ (j = 30)) ∨ (99 ≤ 90 ∧ 90 < 101)) from by omega)) (hGσ8 91 0 (show ¬ ((91 = 88 ∧ (0 = 30)) ∨ (99 ≤ 91 ∧ 91 < 101)) from by omega)) hIσ2
  have sσ8 : SR σ8 := SR_kept sσ2 (fun c j h => hGσ8 c j (show ¬ ((c = 88 ∧ (j = 30)) ∨ (99 ≤ c ∧ c < 101)) from by omega)) (fun j => hGσ8 104 j (show ¬ ((104 = 88 ∧ (j = 30)) ∨ (99 ≤ 104 ∧ 104 < 101)) from by omega)) (fun j => hGσ8 105 j (show ¬ ((105 = 88 ∧ (j = 30)) ∨ (99 ≤ 105 ∧ 105 < 101)) from by omega))
  have tσ8 : TT σ8 := TT_kept tσ2 (fun c j h => hGσ8 c j (show ¬ ((c = 88 ∧ (j = 30)) ∨ (99 ≤ c ∧ c < 101)) from by omega)) (fun j h => hGσ8 89 j (show ¬ ((89 = 88 ∧ (j = 30)) ∨ (99 ≤ 89 ∧ 89 < 101)) from by omega))
  have stσ8 : ST σ8 := ST_F stσ2 (fun c j h => hGσ8 c j (show ¬ ((c = 88 ∧ (j = 30)) ∨ (99 ≤ c ∧ c < 101)) from by unfold STR at h; omega))
  refine j_pop (pc := 831) dL_law_831 rfl ?_
  refine j_goto (pc := 832) (tgt := 1352) dL_law_832 rfl ?_
  have y12 : σ8 10 10 = τ 10 10 := ((hGσ8 10 10 (show ¬ ((10 = 88 ∧ (10 = 30)) ∨ (99 ≤ 10 ∧ 10 < 101)) from by omega))).trans (hGσ2 10 10 (show ¬ ((10 = 71 ∧ (10 = 1 ∨ 10 = 6)) ∨ 10 = 72 ∨ 10 = 74) from by omega))
  have y13 : σ8 88 12 = τ 88 12 := ((hGσ8 88 12 (show ¬ ((88 = 88 ∧ (12 = 30)) ∨ (99 ≤ 88 ∧ 88 < 101)) from by omega))).trans (hGσ2 88 12 (show ¬ ((88 = 71 ∧ (12 = 1 ∨ 12 = 6)) ∨ 88 = 72 ∨ 88 = 74) from by omega))
  have f14 : (0 : Int) ≤ τ 88 12 ∧ τ 88 12 ≤ 400 := hIτ 88 12
  have y15 : σ8 0 13 = τ 0 13 := ((hGσ8 0 13 (show ¬ ((0 = 88 ∧ (13 = 30)) ∨ (99 ≤ 0 ∧ 0 < 101)) from by omega))).trans (hGσ2 0 13 (show ¬ ((0 = 71 ∧ (13 = 1 ∨ 13 = 6)) ∨ 0 = 72 ∨ 0 = 74) from by omega))
  have f16 : (-2147483648 : Int) ≤ τ 0 13 ∧ τ 0 13 ≤ 2147483647 := hIτ 0 13
  have y17 : σ8 88 17 = τ 88 17 := ((hGσ8 88 17 (show ¬ ((88 = 88 ∧ (17 = 30)) ∨ (99 ≤ 88 ∧ 88 < 101)) from by omega))).trans (hGσ2 88 17 (show ¬ ((88 = 71 ∧ (17 = 1 ∨ 17 = 6)) ∨ 88 = 72 ∨ 88 = 74) from by omega))
  have f18 : (0 : Int) ≤ τ 88 17 ∧ τ 88 17 ≤ 5 := hIτ 88 17
  have y19 : σ8 31 6 = τ 31 6 := ((hGσ8 31 6 (show ¬ ((31 = 88 ∧ (6 = 30)) ∨ (99 ≤ 31 ∧ 31 < 101)) from by omega))).trans (hGσ2 31 6 (show ¬ ((31 = 71 ∧ (6 = 1 ∨ 6 = 6)) ∨ 31 = 72 ∨ 31 = 74) from by omega))
  have f20 : (0 : Int) ≤ τ 31 6 ∧ τ 31 6 ≤ 1 := hIτ 31 6
  have y21 : σ8 39 6 = τ 39 6 := ((hGσ8 39 6 (show ¬ ((39 = 88 ∧ (6 = 30)) ∨ (99 ≤ 39 ∧ 39 < 101)) from by omega))).trans (hGσ2 39 6 (show ¬ ((39 = 71 ∧ (6 = 1 ∨ 6 = 6)) ∨ 39 = 72 ∨ 39 = 74) from by omega))
  have f22 : (0 : Int) ≤ τ 39 6 ∧ τ 39 6 ≤ 1 := hIτ 39 6
  have y23 : σ8 90 0 = τ 90 0 := ((hGσ8 90 0 (show ¬ ((90 = 88 ∧ (0 = 30)) ∨ (99 ≤ 90 ∧ 90 < 101)) from by omega))).trans (hGσ2 90 0 (show ¬ ((90 = 71 ∧ (0 = 1 ∨ 0 = 6)) ∨ 90 = 72 ∨ 90 = 74) from by omega))
  have f24 : (0 : Int) ≤ τ 90 0 ∧ τ 90 0 ≤ 1 := hIτ 90 0
  have y25 : σ8 90 1 = τ 90 1 := ((hGσ8 90 1 (show ¬ ((90 = 88 ∧ (1 = 30)) ∨ (99 ≤ 90 ∧ 90 < 101)) from by omega))).trans (hGσ2 90 1 (show ¬ ((90 = 71 ∧ (1 = 1 ∨ 1 = 6)) ∨ 90 = 72 ∨ 90 = 74) from by omega))
  have f26 : (0 : Int) ≤ τ 90 1 ∧ τ 90 1 ≤ 1 := hIτ 90 1
  exact K σ8 hIσ8 ⟨mσ8, by omega, sσ8, bσ8, by omega, by omega, by omega, tσ8, stσ8⟩
set_option maxHeartbeats 4000000 in
set_option maxRecDepth 100000 in
theorem w_case_23 {G : tw_G} (hX : tw_isX G) (hM : tw_isM G) {E : List Frame → Array Value → State → State → Prop} (hN : (gN G : Int) ≤ 2560) (i : Int) (hi : 0 ≤ i ∧ i + 5 ≤ (gN G : Int)) (τ : tw_M) (hIτ : tw_I τ) (hL : tw_LI τ) (K : ∀ τ' : tw_M, tw_I τ' → tw_LI τ' → tw_J G tw_ML E 1352 [(0, vR 300), (1, vR 0), (2, vR 88), (3, vI i)] [] τ') : tw_J G tw_ML E 835 [(0, vR 300), (1, vR 0), (2, vR 88), (3, vI i)] [] τ := by
  obtain ⟨mτ, zτ, sτ, bτ, fτ, kτ0, kτ1, tτ, stτ⟩ := hL
  have g9 : (0 : Int) ≤ τ 10 10 ∧ τ 10 10 ≤ 400 := hIτ 10 10
  obtain ⟨v1, ev1⟩ : ∃ v : Int, v = (gxs G (i + 1).toNat).toInt := ⟨_, rfl⟩
  have hv1 : (-2147483648 : Int) ≤ v1 ∧ v1 ≤ 2147483647 := by rw [ev1]; exact i32_in _
  obtain ⟨v2, ev2⟩ : ∃ v : Int, v = (gxs G (i + 2).toNat).toInt := ⟨_, rfl⟩
  have hv2 : (-2147483648 : Int) ≤ v2 ∧ v2 ≤ 2147483647 := by rw [ev2]; exact i32_in _
  obtain ⟨v3, ev3⟩ : ∃ v : Int, v = (gxs G (i + 3).toNat).toInt := ⟨_, rfl⟩
  have hv3 : (-2147483648 : Int) ≤ v3 ∧ v3 ≤ 2147483647 := by rw [ev3]; exact i32_in _
  obtain ⟨v4, ev4⟩ : ∃ v : Int, v = (gxs G (i + 4).toNat).toInt := ⟨_, rfl⟩
  have hv4 : (-2147483648 : Int) ≤ v4 ∧ v4 ≤ 2147483647 := by rw [ev4]; exact i32_in _
  refine j_aload_n (pc := 835) dL_law_835 rfl rfl ?_
  refine j_aload_n (pc := 836) dL_law_836 rfl rfl ?_
  refine j_iload_n (pc := 837) dL_law_837 rfl rfl ?_
  refine j_iconst (pc := 838) dL_law_838 ?_
  refine j_iadd (pc := 839) dL_law_839 ?_
  refine j_scrAt (pc := 840) dL_law_840 (by omega) (by omega) (by omega) ?_
  refine j_topV (show _ = v1 from ev1.symm) ?_
  refine j_aload_n (pc := 841) dL_law_841 rfl rfl ?_
  refine j_iload_n (pc := 842) dL_law_842 rfl rfl ?_
  refine j_iconst (pc := 843) dL_law_843 ?_
  refine j_iadd (pc := 844) dL_law_844 ?_
  refine j_scrAt (pc := 845) dL_law_845 (by omega) (by omega) (by omega) ?_
  refine j_topV (show _ = v2 from ev2.symm) ?_
  refine j_aload_n (pc := 846) dL_law_846 rfl rfl ?_
  refine j_iload_n (pc := 847) dL_law_847 rfl rfl ?_
  refine j_iconst (pc := 848) dL_law_848 ?_
  refine j_iadd (pc := 849) dL_law_849 ?_
  refine j_scrAt (pc := 850) dL_law_850 (by omega) (by omega) (by omega) ?_
  refine j_topV (show _ = v3 from ev3.symm) ?_
  refine j_ifR_eq (pc := 851) (tgt := 858) ⟨by omega, by omega⟩ dL_law_851 rfl (fun h1 => ?_) (fun h1 => ?_)
  · refine j_iconst (pc := 858) dL_law_858 ?_
    refine j_aload_n (pc := 859) dL_law_859 rfl rfl ?_
    refine j_iload_n (pc := 860) dL_law_860 rfl rfl ?_
    refine j_iconst (pc := 861) dL_law_861 ?_
    refine j_iadd (pc := 862) dL_law_862 ?_
    refine j_scrAt (pc := 863) dL_law_863 (by omega) (by omega) (by omega) ?_
    refine j_topV (show _ = v4 from ev4.symm) ?_
    refine j_callV (pc := 864) (As := [vI v1, vI v2, vI 0, vI v4]) (st := []) (c_X11_leads hX v1 ⟨by omega, by omega⟩ v2 ⟨by omega, by omega⟩ 0 ⟨by omega, by omega⟩ v4 ⟨by omega, by omega⟩ τ hIτ) mv_L_115 rfl rfl rfl (a_0 hX) dL_law_864 ⟨Nat.le_of_ble_eq_true rfl, Nat.le_of_ble_eq_true rfl⟩ ⟨Nat.le_of_ble_eq_true rfl, Nat.le_of_ble_eq_true rfl⟩ rfl (Nat.le_of_ble_eq_true rfl) rfl (fun z2 σ3 hz2 => ?_)
    obtain ⟨r5, rfl, hr5, hIσ3, hGσ3, -⟩ := hz2
    refine j_st (st' := [vI r5]) rfl ?_
    have y6 : σ3 10 10 = τ 10 10 := (hGσ3 10 10 (show ¬ ((10 = 71 ∧ (10 = 1 ∨ 10 = 6 ∨ 10 = 7)) ∨ 10 = 72 ∨ (74 ≤ 10 ∧ 10 < 76)) from by omega))
    have f7 : (0 : Int) ≤ τ 10 10 ∧ τ 10 10 ≤ 400 := hIτ 10 10
    have bσ3 : BY σ3 := BY_kept bτ (fun j => hGσ3 11 j (show ¬ ((11 = 71 ∧ (j = 1 ∨ j = 6 ∨ j = 7)) ∨ 11 = 72 ∨ (74 ≤ 11 ∧ 11 < 76)) from by omega)) (fun j => hGσ3 98 j (show ¬ ((98 = 71 ∧ (j = 1 ∨ j = 6 ∨ j = 7)) ∨ 98 = 72 ∨ (74 ≤ 98 ∧ 98 < 76)) from by omega)) (by omega)
    have mσ3 : mI σ3 := mI_kept mτ (fun j hj => hGσ3 89 j (show ¬ ((89 = 71 ∧ (j = 1 ∨ j = 6 ∨ j = 7)) ∨ 89 = 72 ∨ (74 ≤ 89 ∧ 89 < 76)) from by omega)) (fun j => hGσ3 90 j (show ¬ ((90 = 71 ∧ (j = 1 ∨ j = 6 ∨ j = 7)) ∨ 90 = 72 ∨ (74 ≤ 90 ∧ 90 < 76)) from by omega)) (hGσ3 91 0 (show ¬ ((91 = 71 ∧ (0 = 1 ∨ 0 = 6 ∨ 0 = 7)) ∨ 91 = 72 ∨ (74 ≤ 91 ∧ 91 < 76)) from by omega)) hIτ
    have sσ3 : SR σ3 := SR_kept sτ (fun c j h => hGσ3 c j (show ¬ ((c = 71 ∧ (j = 1 ∨ j = 6 ∨ j = 7)) ∨ c = 72 ∨ (74 ≤ c ∧ c < 76)) from by omega)) (fun j => hGσ3 104 j (show ¬ ((104 = 71 ∧ (j = 1 ∨ j = 6 ∨ j = 7)) ∨ 104 = 72 ∨ (74 ≤ 104 ∧ 104 < 76)) from by omega)) (fun j => hGσ3 105 j (show ¬ ((105 = 71 ∧ (j = 1 ∨ j = 6 ∨ j = 7)) ∨ 105 = 72 ∨ (74 ≤ 105 ∧ 105 < 76)) from by omega))
    have tσ3 : TT σ3 := TT_kept tτ (fun c j h => hGσ3 c j (show ¬ ((c = 71 ∧ (j = 1 ∨ j = 6 ∨ j = 7)) ∨ c = 72 ∨ (74 ≤ c ∧ c < 76)) from by omega)) (fun j h => hGσ3 89 j (show ¬ ((89 = 71 ∧ (j = 1 ∨ j = 6 ∨ j = 7)) ∨ 89 = 72 ∨ (74 ≤ 89 ∧ 89 < 76)) from by omega))
    have stσ3 : ST σ3 := ST_F stτ (fun c j h => hGσ3 c j (show ¬ ((c = 71 ∧ (j = 1 ∨ j = 6 ∨ j = 7)) ∨ c = 72 ∨ (74 ≤ c ∧ c < 76)) from by unfold STR at h; omega))
    refine j_pop (pc := 867) dL_law_867 rfl ?_
    refine j_aload_n (pc := 868) dL_law_868 rfl rfl ?_
    refine j_aload_n (pc := 869) dL_law_869 rfl rfl ?_
    refine j_iload_n (pc := 870) dL_law_870 rfl rfl ?_
    refine j_iconst (pc := 871) dL_law_871 ?_
    refine j_iadd (pc := 872) dL_law_872 ?_
    refine j_scrAt (pc := 873) dL_law_873 (by omega) (by omega) (by omega) ?_
    refine j_topV (show _ = v1 from ev1.symm) ?_
    refine j_aload_n (pc := 874) dL_law_874 rfl rfl ?_
    refine j_iload_n (pc := 875) dL_law_875 rfl rfl ?_
    refine j_iconst (pc := 876) dL_law_876 ?_
    refine j_iadd (pc := 877) dL_law_877 ?_
    refine j_scrAt (pc := 878) dL_law_878 (by omega) (by omega) (by omega) ?_
    refine j_topV (show _ = v2 from ev2.symm) ?_
    refine j_aload_n (pc := 879) dL_law_879 rfl rfl ?_
    refine j_iload_n (pc := 880) dL_law_880 rfl rfl ?_
    refine j_iconst (pc := 881) dL_law_881 ?_
    refine j_iadd (pc := 882) dL_law_882 ?_
    refine j_scrAt (pc := 883) dL_law_883 (by omega) (by omega) (by omega) ?_
    refine j_topV (show _ = v3 from ev3.symm) ?_
    refine j_ifR_eq (pc := 884) (tgt := 891) ⟨by omega, by omega⟩ dL_law_884 rfl (fun h8 => ?_) (fun h8 => by exfalso; omega)
    refine j_iconst (pc := 891) dL_law_891 ?_
    refine j_aload_n (pc := 892) dL_law_892 rfl rfl ?_
    refine j_iload_n (pc := 893) dL_law_893 rfl rfl ?_
    refine j_iconst (pc := 894) dL_law_894 ?_
    refine j_iadd (pc := 895) dL_law_895 ?_
    refine j_scrAt (pc := 896) dL_law_896 (by omega) (by omega) (by omega) ?_
    refine j_topV (show _ = v4 from ev4.symm) ?_
    refine j_callV (pc := 897) (As := [vI v1, vI v2, vI 0, vI v4]) (st := []) (c_X12_leads hM v1 ⟨by omega, by omega⟩ v2 ⟨by omega, by omega⟩ 0 ⟨by omega, by omega⟩ v4 ⟨by omega, by omega⟩ σ3 hIσ3) mv_L_119 rfl rfl rfl (a_88 hM) dL_law_897 ⟨Nat.le_of_ble_eq_true rfl, Nat.le_of_ble_eq_true rfl⟩ ⟨Nat.le_of_ble_eq_true rfl, Nat.le_of_ble_eq_true rfl⟩ rfl (Nat.le_of_ble_eq_true rfl) rfl (fun z9 σ10 hz9 => ?_)
    obtain ⟨r12, rfl, hr12, hIσ10, hGσ10, -⟩ := hz9
    refine j_st (st' := [vI r12]) rfl ?_
    have y13 : σ10 10 10 = τ 10 10 := ((hGσ10 10 10 (show ¬ ((10 = 88 ∧ (10 = 30)) ∨ (99 ≤ 10 ∧ 10 < 101)) from by omega))).trans (hGσ3 10 10 (show ¬ ((10 = 71 ∧ (10 = 1 ∨ 10 = 6 ∨ 10 = 7)) ∨ 10 = 72 ∨ (74 ≤ 10 ∧ 10 < 76)) from by omega))
    have bσ10 : BY σ10 := BY_kept bσ3 (fun j => hGσ10 11 j (show ¬ ((11 = 88 ∧ (j = 30)) ∨ (99 ≤ 11 ∧ 11 < 101)) from by omega)) (fun j => hGσ10 98 j (show ¬ ((98 = 88 ∧ (j = 30)) ∨ (99 ≤ 98 ∧ 98 < 101)) from by omega)) (by omega)
    have mσ10 : mI σ10 := mI_kept mσ3 (fun j hj => hGσ10 89 j (show ¬ ((89 = 88 ∧ (j = 30)) ∨ (99 ≤ 89 ∧ 89 < 101)) from by omega)) (fun j => hGσ10 90 j (show ¬ ((90 = 88 ∧ (j = 30)) ∨ (99 ≤ 90 ∧ 90 < 101)) from by omega)) (hGσ10 91 0 (show ¬ ((91 = 88 ∧ (0 = 30)) ∨ (99 ≤ 91 ∧ 91 < 101)) from by omega)) hIσ3
    have sσ10 : SR σ10 := SR_kept sσ3 (fun c j h => hGσ10 c j (show ¬ ((c = 88 ∧ (j = 30)) ∨ (99 ≤ c ∧ c < 101)) from by omega)) (fun j => hGσ10 104 j (show ¬ ((104 = 88 ∧ (j = 30)) ∨ (99 ≤ 104 ∧ 104 < 101)) from by omega)) (fun j => hGσ10 105 j (show ¬ ((105 = 88 ∧ (j = 30)) ∨ (99 ≤ 105 ∧ 105 < 101)) from by omega))
    have tσ10 : TT σ10 := TT_kept tσ3 (fun c j h => hGσ10 c j (show ¬ ((c = 88 ∧ (j = 30)) ∨ (99 ≤ c ∧ c < 101)) from by omega)) (fun j h => hGσ10 89 j (show ¬ ((89 = 88 ∧ (j = 30)) ∨ (99 ≤ 89 ∧ 89 < 101)) from by omega))
    have stσ10 : ST σ10 := ST_F stσ3 (fun c j h => hGσ10 c j (show ¬ ((c = 88 ∧ (j = 30)) ∨ (99 ≤ c ∧ c < 101)) from by unfold STR at h; omega))
    refine j_pop (pc := 900) dL_law_900 rfl ?_
    refine j_goto (pc := 901) (tgt := 1352) dL_law_901 rfl ?_
    have y14 : σ10 10 10 = τ 10 10 := ((hGσ10 10 10 (show ¬ ((10 = 88 ∧ (10 = 30)) ∨ (99 ≤ 10 ∧ 10 < 101)) from by omega))).trans (hGσ3 10 10 (show ¬ ((10 = 71 ∧ (10 = 1 ∨ 10 = 6 ∨ 10 = 7)) ∨ 10 = 72 ∨ (74 ≤ 10 ∧ 10 < 76)) from by omega))
    have y15 : σ10 88 12 = τ 88 12 := ((hGσ10 88 12 (show ¬ ((88 = 88 ∧ (12 = 30)) ∨ (99 ≤ 88 ∧ 88 < 101)) from by omega))).trans (hGσ3 88 12 (show ¬ ((88 = 71 ∧ (12 = 1 ∨ 12 = 6 ∨ 12 = 7)) ∨ 88 = 72 ∨ (74 ≤ 88 ∧ 88 < 76)) from by omega))
    have f16 : (0 : Int) ≤ τ 88 12 ∧ τ 88 12 ≤ 400 := hIτ 88 12
    have y17 : σ10 0 13 = τ 0 13 := ((hGσ10 0 13 (show ¬ ((0 = 88 ∧ (13 = 30)) ∨ (99 ≤ 0 ∧ 0 < 101)) from by omega))).trans (hGσ3 0 13 (show ¬ ((0 = 71 ∧ (13 = 1 ∨ 13 = 6 ∨ 13 = 7)) ∨ 0 = 72 ∨ (74 ≤ 0 ∧ 0 < 76)) from by omega))
    have f18 : (-2147483648 : Int) ≤ τ 0 13 ∧ τ 0 13 ≤ 2147483647 := hIτ 0 13
    have y19 : σ10 88 17 = τ 88 17 := ((hGσ10 88 17 (show ¬ ((88 = 88 ∧ (17 = 30)) ∨ (99 ≤ 88 ∧ 88 < 101)) from by omega))).trans (hGσ3 88 17 (show ¬ ((88 = 71 ∧ (17 = 1 ∨ 17 = 6 ∨ 17 = 7)) ∨ 88 = 72 ∨ (74 ≤ 88 ∧ 88 < 76)) from by omega))
    have f20 : (0 : Int) ≤ τ 88 17 ∧ τ 88 17 ≤ 5 := hIτ 88 17
    have y21 : σ10 31 6 = τ 31 6 := ((hGσ10 31 6 (show ¬ ((31 = 88 ∧ (6 = 30)) ∨ (99 ≤ 31 ∧ 31 < 101)) from by omega))).trans (hGσ3 31 6 (show ¬ ((31 = 71 ∧ (6 = 1 ∨ 6 = 6 ∨ 6 = 7)) ∨ 31 = 72 ∨ (74 ≤ 31 ∧ 31 < 76)) from by omega))
    have f22 : (0 : Int) ≤ τ 31 6 ∧ τ 31 6 ≤ 1 := hIτ 31 6
    have y23 : σ10 39 6 = τ 39 6 := ((hGσ10 39 6 (show ¬ ((39 = 88 ∧ (6 = 30)) ∨ (99 ≤ 39 ∧ 39 < 101)) from by omega))).trans (hGσ3 39 6 (show ¬ ((39 = 71 ∧ (6 = 1 ∨ 6 = 6 ∨ 6 = 7)) ∨ 39 = 72 ∨ (74 ≤ 39 ∧ 39 < 76)) from by omega))
    have f24 : (0 : Int) ≤ τ 39 6 ∧ τ 39 6 ≤ 1 := hIτ 39 6
    have y25 : σ10 90 0 = τ 90 0 := ((hGσ10 90 0 (show ¬ ((90 = 88 ∧ (0 = 30)) ∨ (99 ≤ 90 ∧ 90 < 101)) from by omega))).trans (hGσ3 90 0 (show ¬ ((90 = 71 ∧ (0 = 1 ∨ 0 = 6 ∨ 0 = 7)) ∨ 90 = 72 ∨ (74 ≤ 90 ∧ 90 < 76)) from by omega))
    have f26 : (0 : Int) ≤ τ 90 0 ∧ τ 90 0 ≤ 1 := hIτ 90 0
    have y27 : σ10 90 1 = τ 90 1 := ((hGσ10 90 1 (show ¬ ((90 = 88 ∧ (1 = 30)) ∨ (99 ≤ 90 ∧ 90 < 101)) from by omega))).trans (hGσ3 90 1 (show ¬ ((90 = 71 ∧ (1 = 1 ∨ 1 = 6 ∨ 1 = 7)) ∨ 90 = 72 ∨ (74 ≤ 90 ∧ 90 < 76)) from by omega))
    have f28 : (0 : Int) ≤ τ 90 1 ∧ τ 90 1 ≤ 1 := hIτ 90 1
    exact K σ10 hIσ10 ⟨mσ10, by omega, sσ10, bσ10, by omega, by omega, by omega, tσ10, stσ10⟩
  · refine j_iconst (pc := 854) dL_law_854 ?_
    refine j_goto (pc := 855) (tgt := 859) dL_law_855 rfl ?_
    refine j_aload_n (pc := 859) dL_law_859 rfl rfl ?_
    refine j_iload_n (pc := 860) dL_law_860 rfl rfl ?_
    refine j_iconst (pc := 861) dL_law_861 ?_
    refine j_iadd (pc := 862) dL_law_862 ?_
    refine j_scrAt (pc := 863) dL_law_863 (by omega) (by omega) (by omega) ?_
    refine j_topV (show _ = v4 from ev4.symm) ?_
    refine j_callV (pc := 864) (As := [vI v1, vI v2, vI 1, vI v4]) (st := []) (c_X11_leads hX v1 ⟨by omega, by omega⟩ v2 ⟨by omega, by omega⟩ 1 ⟨by omega, by omega⟩ v4 ⟨by omega, by omega⟩ τ hIτ) mv_L_115 rfl rfl rfl (a_0 hX) dL_law_864 ⟨Nat.le_of_ble_eq_true rfl, Nat.le_of_ble_eq_true rfl⟩ ⟨Nat.le_of_ble_eq_true rfl, Nat.le_of_ble_eq_true rfl⟩ rfl (Nat.le_of_ble_eq_true rfl) rfl (fun z29 σ30 hz29 => ?_)
    obtain ⟨r32, rfl, hr32, hIσ30, hGσ30, -⟩ := hz29
    refine j_st (st' := [vI r32]) rfl ?_
    have y33 : σ30 10 10 = τ 10 10 := (hGσ30 10 10 (show ¬ ((10 = 71 ∧ (10 = 1 ∨ 10 = 6 ∨ 10 = 7)) ∨ 10 = 72 ∨ (74 ≤ 10 ∧ 10 < 76)) from by omega))
    have f34 : (0 : Int) ≤ τ 10 10 ∧ τ 10 10 ≤ 400 := hIτ 10 10
    have bσ30 : BY σ30 := BY_kept bτ (fun j => hGσ30 11 j (show ¬ ((11 = 71 ∧ (j = 1 ∨ j = 6 ∨ j = 7)) ∨ 11 = 72 ∨ (74 ≤ 11 ∧ 11 < 76)) from by omega)) (fun j => hGσ30 98 j (show ¬ ((98 = 71 ∧ (j = 1 ∨ j = 6 ∨ j = 7)) ∨ 98 = 72 ∨ (74 ≤ 98 ∧ 98 < 76)) from by omega)) (by omega)
    have mσ30 : mI σ30 := mI_kept mτ (fun j hj => hGσ30 89 j (show ¬ ((89 = 71 ∧ (j = 1 ∨ j = 6 ∨ j = 7)) ∨ 89 = 72 ∨ (74 ≤ 89 ∧ 89 < 76)) from by omega)) (fun j => hGσ30 90 j (show ¬ ((90 = 71 ∧ (j = 1 ∨ j = 6 ∨ j = 7)) ∨ 90 = 72 ∨ (74 ≤ 90 ∧ 90 < 76)) from by omega)) (hGσ30 91 0 (show ¬ ((91 = 71 ∧ (0 = 1 ∨ 0 = 6 ∨ 0 = 7)) ∨ 91 = 72 ∨ (74 ≤ 91 ∧ 91 < 76)) from by omega)) hIτ
    have sσ30 : SR σ30 := SR_kept sτ (fun c j h => hGσ30 c j (show ¬ ((c = 71 ∧ (j = 1 ∨ j = 6 ∨ j = 7)) ∨ c = 72 ∨ (74 ≤ c ∧ c < 76)) from by omega)) (fun j => hGσ30 104 j (show ¬ ((104 = 71 ∧ (j = 1 ∨ j = 6 ∨ j = 7)) ∨ 104 = 72 ∨ (74 ≤ 104 ∧ 104 < 76)) from by omega)) (fun j => hGσ30 105 j (show ¬ ((105 = 71 ∧ (j = 1 ∨ j = 6 ∨ j = 7)) ∨ 105 = 72 ∨ (74 ≤ 105 ∧ 105 < 76)) from by omega))
    have tσ30 : TT σ30 := TT_kept tτ (fun c j h => hGσ30 c j (show ¬ ((c = 71 ∧ (j = 1 ∨ j = 6 ∨ j = 7)) ∨ c = 72 ∨ (74 ≤ c ∧ c < 76)) from by omega)) (fun j h => hGσ30 89 j (show ¬ ((89 = 71 ∧ (j = 1 ∨ j = 6 ∨ j = 7)) ∨ 89 = 72 ∨ (74 ≤ 89 ∧ 89 < 76)) from by omega))
    have stσ30 : ST σ30 := ST_F stτ (fun c j h => hGσ30 c j (show ¬ ((c = 71 ∧ (j = 1 ∨ j = 6 ∨ j = 7)) ∨ c = 72 ∨ (74 ≤ c ∧ c < 76)) from by unfold STR at h; omega))
    refine j_pop (pc := 867) dL_law_867 rfl ?_
    refine j_aload_n (pc := 868) dL_law_868 rfl rfl ?_
    refine j_aload_n (pc := 869) dL_law_869 rfl rfl ?_
    refine j_iload_n (pc := 870) dL_law_870 rfl rfl ?_
    refine j_iconst (pc := 871) dL_law_871 ?_
    refine j_iadd (pc := 872) dL_law_872 ?_
    refine j_scrAt (pc := 873) dL_law_873 (by omega) (by omega) (by omega) ?_
    refine j_topV (show _ = v1 from ev1.symm) ?_
    refine j_aload_n (pc := 874) dL_law_874 rfl rfl ?_
    refine j_iload_n (pc := 875) dL_law_875 rfl rfl ?_
    refine j_iconst (pc := 876) dL_law_876 ?_
    refine j_iadd (pc := 877) dL_law_877 ?_
    refine j_scrAt (pc := 878) dL_law_878 (by omega) (by omega) (by omega) ?_
    refine j_topV (show _ = v2 from ev2.symm) ?_
    refine j_aload_n (pc := 879) dL_law_879 rfl rfl ?_
    refine j_iload_n (pc := 880) dL_law_880 rfl rfl ?_
    refine j_iconst (pc := 881) dL_law_881 ?_
    refine j_iadd (pc := 882) dL_law_882 ?_
    refine j_scrAt (pc := 883) dL_law_883 (by omega) (by omega) (by omega) ?_
    refine j_topV (show _ = v3 from ev3.symm) ?_
    refine j_ifR_eq (pc := 884) (tgt := 891) ⟨by omega, by omega⟩ dL_law_884 rfl (fun h35 => ?_) (fun h35 => ?_)
    · refine j_iconst (pc := 891) dL_law_891 ?_
      refine j_aload_n (pc := 892) dL_law_892 rfl rfl ?_
      refine j_iload_n (pc := 893) dL_law_893 rfl rfl ?_
      refine j_iconst (pc := 894) dL_law_894 ?_
      refine j_iadd (pc := 895) dL_law_895 ?_
      refine j_scrAt (pc := 896) dL_law_896 (by omega) (by omega) (by omega) ?_
      refine j_topV (show _ = v4 from ev4.symm) ?_
      refine j_callV (pc := 897) (As := [vI v1, vI v2, vI 0, vI v4]) (st := []) (c_X12_leads hM v1 ⟨by omega, by omega⟩ v2 ⟨by omega, by omega⟩ 0 ⟨by omega, by omega⟩ v4 ⟨by omega, by omega⟩ σ30 hIσ30) mv_L_119 rfl rfl rfl (a_88 hM) dL_law_897 ⟨Nat.le_of_ble_eq_true rfl, Nat.le_of_ble_eq_true rfl⟩ ⟨Nat.le_of_ble_eq_true rfl, Nat.le_of_ble_eq_true rfl⟩ rfl (Nat.le_of_ble_eq_true rfl) rfl (fun z36 σ37 hz36 => ?_)
      obtain ⟨r39, rfl, hr39, hIσ37, hGσ37, -⟩ := hz36
      refine j_st (st' := [vI r39]) rfl ?_
      have y40 : σ37 10 10 = τ 10 10 := ((hGσ37 10 10 (show ¬ ((10 = 88 ∧ (10 = 30)) ∨ (99 ≤ 10 ∧ 10 < 101)) from by omega))).trans (hGσ30 10 10 (show ¬ ((10 = 71 ∧ (10 = 1 ∨ 10 = 6 ∨ 10 = 7)) ∨ 10 = 72 ∨ (74 ≤ 10 ∧ 10 < 76)) from by omega))
      have bσ37 : BY σ37 := BY_kept bσ30 (fun j => hGσ37 11 j (show ¬ ((11 = 88 ∧ (j = 30)) ∨ (99 ≤ 11 ∧ 11 < 101)) from by omega)) (fun j => hGσ37 98 j (show ¬ ((98 = 88 ∧ (j = 30)) ∨ (99 ≤ 98 ∧ 98 < 101)) from by omega)) (by omega)
      have mσ37 : mI σ37 := mI_kept mσ30 (fun j hj => hGσ37 89 j (show ¬ ((89 = 88 ∧ (j = 30)) ∨ (99 ≤ 89 ∧ 89 < 101)) from by omega)) (fun j => hGσ37 90 j (show ¬ ((90 = 88 ∧ (j = 30)) ∨ (99 ≤ 90 ∧ 90 < 101)) from by omega)) (hGσ37 91 0 (show ¬ ((91 = 88 ∧ (0 = 30)) ∨ (99 ≤ 91 ∧ 91 < 101)) from by omega)) hIσ30
      have sσ37 : SR σ37 := SR_kept sσ30 (fun c j h => hGσ37 c j (show ¬ ((c = 88 ∧ (j = 30)) ∨ (99 ≤ c ∧ c < 101)) from by omega)) (fun j => hGσ37 104 j (show ¬ ((104 = 88 ∧ (j = 30)) ∨ (99 ≤ 104 ∧ 104 < 101)) from by omega)) (fun j => hGσ37 105 j (show ¬ ((105 = 88 ∧ (j = 30)) ∨ (99 ≤ 105 ∧ 105 < 101)) from by omega))
      have tσ37 : TT σ37 := TT_kept tσ30 (fun c j h => hGσ37 c j (show ¬ ((c = 88 ∧ (j = 30)) ∨ (99 ≤ c ∧ c < 101)) from by omega)) (fun j h => hGσ37 89 j (show ¬ ((89 = 88 ∧ (j = 30)) ∨ (99 ≤ 89 ∧ 89 < 101)) from by omega))
      have stσ37 : ST σ37 := ST_F stσ30 (fun c j h => hGσ37 c j (show ¬ ((c = 88 ∧ (j = 30)) ∨ (99 ≤ c ∧ c < 101)) from by unfold STR at h; omega))
      refine j_pop (pc := 900) dL_law_900 rfl ?_
      refine j_goto (pc := 901) (tgt := 1352) dL_law_901 rfl ?_
      have y41 : σ37 10 10 = τ 10 10 := ((hGσ37 10 10 (show ¬ ((10 = 88 ∧ (10 = 30)) ∨ (99 ≤ 10 ∧ 10 < 101)) from by omega))).trans (hGσ30 10 10 (show ¬ ((10 = 71 ∧ (10 = 1 ∨ 10 = 6 ∨ 10 = 7)) ∨ 10 = 72 ∨ (74 ≤ 10 ∧ 10 < 76)) from by omega))
      have y42 : σ37 88 12 = τ 88 12 := ((hGσ37 88 12 (show ¬ ((88 = 88 ∧ (12 = 30)) ∨ (99 ≤ 88 ∧ 88 < 101)) from by omega))).trans (hGσ30 88 12 (show ¬ ((88 = 71 ∧ (12 = 1 ∨ 12 = 6 ∨ 12 = 7)) ∨ 88 = 72 ∨ (74 ≤ 88 ∧ 88 < 76)) from by omega))
      have f43 : (0 : Int) ≤ τ 88 12 ∧ τ 88 12 ≤ 400 := hIτ 88 12
      have y44 : σ37 0 13 = τ 0 13 := ((hGσ37 0 13 (show ¬ ((0 = 88 ∧ (13 = 30)) ∨ (99 ≤ 0 ∧ 0 < 101)) from by omega))).trans (hGσ30 0 13 (show ¬ ((0 = 71 ∧ (13 = 1 ∨ 13 = 6 ∨ 13 = 7)) ∨ 0 = 72 ∨ (74 ≤ 0 ∧ 0 < 76)) from by omega))
      have f45 : (-2147483648 : Int) ≤ τ 0 13 ∧ τ 0 13 ≤ 2147483647 := hIτ 0 13
      have y46 : σ37 88 17 = τ 88 17 := ((hGσ37 88 17 (show ¬ ((88 = 88 ∧ (17 = 30)) ∨ (99 ≤ 88 ∧ 88 < 101)) from by omega))).trans (hGσ30 88 17 (show ¬ ((88 = 71 ∧ (17 = 1 ∨ 17 = 6 ∨ 17 = 7)) ∨ 88 = 72 ∨ (74 ≤ 88 ∧ 88 < 76)) from by omega))
      have f47 : (0 : Int) ≤ τ 88 17 ∧ τ 88 17 ≤ 5 := hIτ 88 17
      have y48 : σ37 31 6 = τ 31 6 := ((hGσ37 31 6 (show ¬ ((31 = 88 ∧ (6 = 30)) ∨ (99 ≤ 31 ∧ 31 < 101)) from by omega))).trans (hGσ30 31 6 (show ¬ ((31 = 71 ∧ (6 = 1 ∨ 6 = 6 ∨ 6 = 7)) ∨ 31 = 72 ∨ (74 ≤ 31 ∧ 31 < 76)) from by omega))
      have f49 : (0 : Int) ≤ τ 31 6 ∧ τ 31 6 ≤ 1 := hIτ 31 6
      have y50 : σ37 39 6 = τ 39 6 := ((hGσ37 39 6 (show ¬ ((39 = 88 ∧ (6 = 30)) ∨ (99 ≤ 39 ∧ 39 < 101)) from by omega))).trans (hGσ30 39 6 (show ¬ ((39 = 71 ∧ (6 = 1 ∨ 6 = 6 ∨ 6 = 7)) ∨ 39 = 72 ∨ (74 ≤ 39 ∧ 39 < 76)) from by omega))
      have f51 : (0 : Int) ≤ τ 39 6 ∧ τ 39 6 ≤ 1 := hIτ 39 6
      have y52 : σ37 90 0 = τ 90 0 := ((hGσ37 90 0 (show ¬ ((90 = 88 ∧ (0 = 30)) ∨ (99 ≤ 90 ∧ 90 < 101)) from by omega))).trans (hGσ30 90 0 (show ¬ ((90 = 71 ∧ (0 = 1 ∨ 0 = 6 ∨ 0 = 7)) ∨ 90 = 72 ∨ (74 ≤ 90 ∧ 90 < 76)) from by omega))
      have f53 : (0 : Int) ≤ τ 90 0 ∧ τ 90 0 ≤ 1 := hIτ 90 0
      have y54 : σ37 90 1 = τ 90 1 := ((hGσ37 90 1 (show ¬ ((90 = 88 ∧ (1 = 30)) ∨ (99 ≤ 90 ∧ 90 < 101)) from by omega))).trans (hGσ30 90 1 (show ¬ ((90 = 71 ∧ (1 = 1 ∨ 1 = 6 ∨ 1 = 7)) ∨ 90 = 72 ∨ (74 ≤ 90 ∧ 90 < 76)) from by omega))
      have f55 : (0 : Int) ≤ τ 90 1 ∧ τ 90 1 ≤ 1 := hIτ 90 1
      exact K σ37 hIσ37 ⟨mσ37, by omega, sσ37, bσ37, by omega, by omega, by omega, tσ37, stσ37⟩
    · refine j_iconst (pc := 887) dL_law_887 ?_
      refine j_goto (pc := 888) (tgt := 892) dL_law_888 rfl ?_
      refine j_aload_n (pc := 892) dL_law_892 rfl rfl ?_
      refine j_iload_n (pc := 893) dL_law_893 rfl rfl ?_
      refine j_iconst (pc := 894) dL_law_894 ?_
      refine j_iadd (pc := 895) dL_law_895 ?_
      refine j_scrAt (pc := 896) dL_law_896 (by omega) (by omega) (by omega) ?_
      refine j_topV (show _ = v4 from ev4.symm) ?_
      refine j_callV (pc := 897) (As := [vI v1, vI v2, vI 1, vI v4]) (st := []) (c_X12_leads hM v1 ⟨by omega, by omega⟩ v2 ⟨by omega, by omega⟩ 1 ⟨by omega, by omega⟩ v4 ⟨by omega, by omega⟩ σ30 hIσ30) mv_L_119 rfl rfl rfl (a_88 hM) dL_law_897 ⟨Nat.le_of_ble_eq_true rfl, Nat.le_of_ble_eq_true rfl⟩ ⟨Nat.le_of_ble_eq_true rfl, Nat.le_of_ble_eq_true rfl⟩ rfl (Nat.le_of_ble_eq_true rfl) rfl (fun z56 σ57 hz56 => ?_)
      obtain ⟨r59, rfl, hr59, hIσ57, hGσ57, -⟩ := hz56
      refine j_st (st' := [vI r59]) rfl ?_
      have y60 : σ57 10 10 = τ 10 10 := ((hGσ57 10 10 (show ¬ ((10 = 88 ∧ (10 = 30)) ∨ (99 ≤ 10 ∧ 10 < 101)) from by omega))).trans (hGσ30 10 10 (show ¬ ((10 = 71 ∧ (10 = 1 ∨ 10 = 6 ∨ 10 = 7)) ∨ 10 = 72 ∨ (74 ≤ 10 ∧ 10 < 76)) from by omega))
      have bσ57 : BY σ57 := BY_kept bσ30 (fun j => hGσ57 11 j (show ¬ ((11 = 88 ∧ (j = 30)) ∨ (99 ≤ 11 ∧ 11 < 101)) from by omega)) (fun j => hGσ57 98 j (show ¬ ((98 = 88 ∧ (j = 30)) ∨ (99 ≤ 98 ∧ 98 < 101)) from by omega)) (by omega)
      have mσ57 : mI σ57 := mI_kept mσ30 (fun j hj => hGσ57 89 j (show ¬ ((89 = 88 ∧ (j = 30)) ∨ (99 ≤ 89 ∧ 89 < 101)) from by omega)) (fun j => hGσ57 90 j (show ¬ ((90 = 88 ∧ (j = 30)) ∨ (99 ≤ 90 ∧ 90 < 101)) from by omega)) (hGσ57 91 0 (show ¬ ((91 = 88 ∧ (0 = 30)) ∨ (99 ≤ 91 ∧ 91 < 101)) from by omega)) hIσ30
      have sσ57 : SR σ57 := SR_kept sσ30 (fun c j h => hGσ57 c j (show ¬ ((c = 88 ∧ (j = 30)) ∨ (99 ≤ c ∧ c < 101)) from by omega)) (fun j => hGσ57 104 j (show ¬ ((104 = 88 ∧ (j = 30)) ∨ (99 ≤ 104 ∧ 104 < 101)) from by omega)) (fun j => hGσ57 105 j (show ¬ ((105 = 88 ∧ (j = 30)) ∨ (99 ≤ 105 ∧ 105 < 101)) from by omega))
      have tσ57 : TT σ57 := TT_kept tσ30 (fun c j h => hGσ57 c j (show ¬ ((c = 88 ∧ (j = 30)) ∨ (99 ≤ c ∧ c < 101)) from by omega)) (fun j h => hGσ57 89 j (show ¬ ((89 = 88 ∧ (j = 30)) ∨ (99 ≤ 89 ∧ 89 < 101)) from by omega))
      have stσ57 : ST σ57 := ST_F stσ30 (fun c j h => hGσ57 c j (show ¬ ((c = 88 ∧ (j = 30)) ∨ (99 ≤ c ∧ c < 101)) from by unfold STR at h; omega))
      refine j_pop (pc := 900) dL_law_900 rfl ?_
      refine j_goto (pc := 901) (tgt := 1352) dL_law_901 rfl ?_
      have y61 : σ57 10 10 = τ 10 10 := ((hGσ57 10 10 (show ¬ ((10 = 88 ∧ (10 = 30)) ∨ (99 ≤ 10 ∧ 10 < 101)) from by omega))).trans (hGσ30 10 10 (show ¬ ((10 = 71 ∧ (10 = 1 ∨ 10 = 6 ∨ 10 = 7)) ∨ 10 = 72 ∨ (74 ≤ 10 ∧ 10 < 76)) from by omega))
      have y62 : σ57 88 12 = τ 88 12 := ((hGσ57 88 12 (show ¬ ((88 = 88 ∧ (12 = 30)) ∨ (99 ≤ 88 ∧ 88 < 101)) from by omega))).trans (hGσ30 88 12 (show ¬ ((88 = 71 ∧ (12 = 1 ∨ 12 = 6 ∨ 12 = 7)) ∨ 88 = 72 ∨ (74 ≤ 88 ∧ 88 < 76)) from by omega))
      have f63 : (0 : Int) ≤ τ 88 12 ∧ τ 88 12 ≤ 400 := hIτ 88 12
      have y64 : σ57 0 13 = τ 0 13 := ((hGσ57 0 13 (show ¬ ((0 = 88 ∧ (13 = 30)) ∨ (99 ≤ 0 ∧ 0 < 101)) from by omega))).trans (hGσ30 0 13 (show ¬ ((0 = 71 ∧ (13 = 1 ∨ 13 = 6 ∨ 13 = 7)) ∨ 0 = 72 ∨ (74 ≤ 0 ∧ 0 < 76)) from by omega))
      have f65 : (-2147483648 : Int) ≤ τ 0 13 ∧ τ 0 13 ≤ 2147483647 := hIτ 0 13
      have y66 : σ57 88 17 = τ 88 17 := ((hGσ57 88 17 (show ¬ ((88 = 88 ∧ (17 = 30)) ∨ (99 ≤ 88 ∧ 88 < 101)) from by omega))).trans (hGσ30 88 17 (show ¬ ((88 = 71 ∧ (17 = 1 ∨ 17 = 6 ∨ 17 = 7)) ∨ 88 = 72 ∨ (74 ≤ 88 ∧ 88 < 76)) from by omega))
      have f67 : (0 : Int) ≤ τ 88 17 ∧ τ 88 17 ≤ 5 := hIτ 88 17
      have y68 : σ57 31 6 = τ 31 6 := ((hGσ57 31 6 (show ¬ ((31 = 88 ∧ (6 = 30)) ∨ (99 ≤ 31 ∧ 31 < 101)) from by omega))).trans (hGσ30 31 6 (show ¬ ((31 = 71 ∧ (6 = 1 ∨ 6 = 6 ∨ 6 = 7)) ∨ 31 = 72 ∨ (74 ≤ 31 ∧ 31 < 76)) from by omega))
      have f69 : (0 : Int) ≤ τ 31 6 ∧ τ 31 6 ≤ 1 := hIτ 31 6
      have y70 : σ57 39 6 = τ 39 6 := ((hGσ57 39 6 (show ¬ ((39 = 88 ∧ (6 = 30)) ∨ (99 ≤ 39 ∧ 39 < 101)) from by omega))).trans (hGσ30 39 6 (show ¬ ((39 = 71 ∧ (6 = 1 ∨ 6 = 6 ∨ 6 = 7)) ∨ 39 = 72 ∨ (74 ≤ 39 ∧ 39 < 76)) from by omega))
      have f71 : (0 : Int) ≤ τ 39 6 ∧ τ 39 6 ≤ 1 := hIτ 39 6
      have y72 : σ57 90 0 = τ 90 0 := ((hGσ57 90 0 (show ¬ ((90 = 88 ∧ (0 = 30)) ∨ (99 ≤ 90 ∧ 90 < 101)) from by omega))).trans (hGσ30 90 0 (show ¬ ((90 = 71 ∧ (0 = 1 ∨ 0 = 6 ∨ 0 = 7)) ∨ 90 = 72 ∨ (74 ≤ 90 ∧ 90 < 76)) from by omega))
      have f73 : (0 : Int) ≤ τ 90 0 ∧ τ 90 0 ≤ 1 := hIτ 90 0
      have y74 : σ57 90 1 = τ 90 1 := ((hGσ57 90 1 (show ¬ ((90 = 88 ∧ (1 = 30)) ∨ (99 ≤ 90 ∧ 90 < 101)) from by omega))).trans (hGσ30 90 1 (show ¬ ((90 = 71 ∧ (1 = 1 ∨ 1 = 6 ∨ 1 = 7)) ∨ 90 = 72 ∨ (74 ≤ 90 ∧ 90 < 76)) from by omega))
      have f75 : (0 : Int) ≤ τ 90 1 ∧ τ 90 1 ≤ 1 := hIτ 90 1
      exact K σ57 hIσ57 ⟨mσ57, by omega, sσ57, bσ57, by omega, by omega, by omega, tσ57, stσ57⟩
set_option maxHeartbeats 4000000 in
set_option maxRecDepth 100000 in
theorem w_case_24 {G : tw_G} (hX : tw_isX G) (hM : tw_isM G) {E : List Frame → Array Value → State → State → Prop} (hN : (gN G : Int) ≤ 2560) (i : Int) (hi : 0 ≤ i ∧ i + 5 ≤ (gN G : Int)) (τ : tw_M) (hIτ : tw_I τ) (hL : tw_LI τ) (K : ∀ τ' : tw_M, tw_I τ' → tw_LI τ' → tw_J G tw_ML E 1352 [(0, vR 300), (1, vR 0), (2, vR 88), (3, vI i)] [] τ') : tw_J G tw_ML E 904 [(0, vR 300), (1, vR 0), (2, vR 88), (3, vI i)] [] τ := by
  obtain ⟨mτ, zτ, sτ, bτ, fτ, kτ0, kτ1, tτ, stτ⟩ := hL
  have g9 : (0 : Int) ≤ τ 10 10 ∧ τ 10 10 ≤ 400 := hIτ 10 10
  obtain ⟨v1, ev1⟩ : ∃ v : Int, v = (gxs G (i + 1).toNat).toInt := ⟨_, rfl⟩
  have hv1 : (-2147483648 : Int) ≤ v1 ∧ v1 ≤ 2147483647 := by rw [ev1]; exact i32_in _
  obtain ⟨v2, ev2⟩ : ∃ v : Int, v = (gxs G (i + 2).toNat).toInt := ⟨_, rfl⟩
  have hv2 : (-2147483648 : Int) ≤ v2 ∧ v2 ≤ 2147483647 := by rw [ev2]; exact i32_in _
  obtain ⟨v3, ev3⟩ : ∃ v : Int, v = (gxs G (i + 3).toNat).toInt := ⟨_, rfl⟩
  have hv3 : (-2147483648 : Int) ≤ v3 ∧ v3 ≤ 2147483647 := by rw [ev3]; exact i32_in _
  obtain ⟨v4, ev4⟩ : ∃ v : Int, v = (gxs G (i + 4).toNat).toInt := ⟨_, rfl⟩
  have hv4 : (-2147483648 : Int) ≤ v4 ∧ v4 ≤ 2147483647 := by rw [ev4]; exact i32_in _
  refine j_aload_n (pc := 904) dL_law_904 rfl rfl ?_
  refine j_aload_n (pc := 905) dL_law_905 rfl rfl ?_
  refine j_iload_n (pc := 906) dL_law_906 rfl rfl ?_
  refine j_iconst (pc := 907) dL_law_907 ?_
  refine j_iadd (pc := 908) dL_law_908 ?_
  refine j_scrAt (pc := 909) dL_law_909 (by omega) (by omega) (by omega) ?_
  refine j_topV (show _ = v1 from ev1.symm) ?_
  refine j_callV (pc := 910) (As := [vI v1]) (st := []) (c_X11_down hX v1 ⟨by omega, by omega⟩ τ hIτ) mv_L_120 rfl rfl rfl (a_0 hX) dL_law_910 ⟨Nat.le_of_ble_eq_true rfl, Nat.le_of_ble_eq_true rfl⟩ ⟨Nat.le_of_ble_eq_true rfl, Nat.le_of_ble_eq_true rfl⟩ rfl (Nat.le_of_ble_eq_true rfl) rfl (fun z1 σ2 hz1 => ?_)
  obtain ⟨r4, rfl, hr4, hIσ2, hGσ2, -⟩ := hz1
  refine j_st (st' := [vI r4]) rfl ?_
  have y5 : σ2 10 10 = τ 10 10 := (hGσ2 10 10 (show ¬ (10 = 73) from by omega))
  have f6 : (0 : Int) ≤ τ 10 10 ∧ τ 10 10 ≤ 400 := hIτ 10 10
  have bσ2 : BY σ2 := BY_kept bτ (fun j => hGσ2 11 j (show ¬ (11 = 73) from by omega)) (fun j => hGσ2 98 j (show ¬ (98 = 73) from by omega)) (by omega)
  have mσ2 : mI σ2 := mI_kept mτ (fun j hj => hGσ2 89 j (show ¬ (89 = 73) from by omega)) (fun j => hGσ2 90 j (show ¬ (90 = 73) from by omega)) (hGσ2 91 0 (show ¬ (91 = 73) from by omega)) hIτ
  have sσ2 : SR σ2 := SR_kept sτ (fun c j h => hGσ2 c j (show ¬ (c = 73) from by omega)) (fun j => hGσ2 104 j (show ¬ (104 = 73) from by omega)) (fun j => hGσ2 105 j (show ¬ (105 = 73) from by omega))
  have tσ2 : TT σ2 := TT_kept tτ (fun c j h => hGσ2 c j (show ¬ (c = 73) from by omega)) (fun j h => hGσ2 89 j (show ¬ (89 = 73) from by omega))
  have stσ2 : ST σ2 := ST_F stτ (fun c j h => hGσ2 c j (show ¬ (c = 73) from by unfold STR at h; omega))
  refine j_pop (pc := 913) dL_law_913 rfl ?_
  refine j_aload_n (pc := 914) dL_law_914 rfl rfl ?_
  refine j_aload_n (pc := 915) dL_law_915 rfl rfl ?_
  refine j_iload_n (pc := 916) dL_law_916 rfl rfl ?_
  refine j_iconst (pc := 917) dL_law_917 ?_
  refine j_iadd (pc := 918) dL_law_918 ?_
  refine j_scrAt (pc := 919) dL_law_919 (by omega) (by omega) (by omega) ?_
  refine j_topV (show _ = v1 from ev1.symm) ?_
  refine j_callV (pc := 920) (As := [vI v1]) (st := []) (c_X12_down hM v1 ⟨by omega, by omega⟩ σ2 hIσ2) mv_L_123 rfl rfl rfl (a_88 hM) dL_law_920 ⟨Nat.le_of_ble_eq_true rfl, Nat.le_of_ble_eq_true rfl⟩ ⟨Nat.le_of_ble_eq_true rfl, Nat.le_of_ble_eq_true rfl⟩ rfl (Nat.le_of_ble_eq_true rfl) rfl (fun z7 σ8 hz7 => ?_)
  obtain ⟨r10, rfl, hr10, hIσ8, hGσ8, -⟩ := hz7
  refine j_st (st' := [vI r10]) rfl ?_
  have y11 : σ8 10 10 = τ 10 10 := ((hGσ8 10 10 (show ¬ (10 = 101) from by omega))).trans (hGσ2 10 10 (show ¬ (10 = 73) from by omega))
  have bσ8 : BY σ8 := BY_kept bσ2 (fun j => hGσ8 11 j (show ¬ (11 = 101) from by omega)) (fun j => hGσ8 98 j (show ¬ (98 = 101) from by omega)) (by omega)
  have mσ8 : mI σ8 := mI_kept mσ2 (fun j hj => hGσ8 89 j (show ¬ (89 = 101) from by omega)) (fun j => hGσ8 90 j (show ¬ (90 = 101) from by omega)) (hGσ8 91 0 (show ¬ (91 = 101) from by omega)) hIσ2
  have sσ8 : SR σ8 := SR_kept sσ2 (fun c j h => hGσ8 c j (show ¬ (c = 101) from by omega)) (fun j => hGσ8 104 j (show ¬ (104 = 101) from by omega)) (fun j => hGσ8 105 j (show ¬ (105 = 101) from by omega))
  have tσ8 : TT σ8 := TT_kept tσ2 (fun c j h => hGσ8 c j (show ¬ (c = 101) from by omega)) (fun j h => hGσ8 89 j (show ¬ (89 = 101) from by omega))
  have stσ8 : ST σ8 := ST_F stσ2 (fun c j h => hGσ8 c j (show ¬ (c = 101) from by unfold STR at h; omega))
  refine j_pop (pc := 923) dL_law_923 rfl ?_
  refine j_goto (pc := 924) (tgt := 1352) dL_law_924 rfl ?_
  have y12 : σ8 10 10 = τ 10 10 := ((hGσ8 10 10 (show ¬ (10 = 101) from by omega))).trans (hGσ2 10 10 (show ¬ (10 = 73) from by omega))
  have y13 : σ8 88 12 = τ 88 12 := ((hGσ8 88 12 (show ¬ (88 = 101) from by omega))).trans (hGσ2 88 12 (show ¬ (88 = 73) from by omega))
  have f14 : (0 : Int) ≤ τ 88 12 ∧ τ 88 12 ≤ 400 := hIτ 88 12
  have y15 : σ8 0 13 = τ 0 13 := ((hGσ8 0 13 (show ¬ (0 = 101) from by omega))).trans (hGσ2 0 13 (show ¬ (0 = 73) from by omega))
  have f16 : (-2147483648 : Int) ≤ τ 0 13 ∧ τ 0 13 ≤ 2147483647 := hIτ 0 13
  have y17 : σ8 88 17 = τ 88 17 := ((hGσ8 88 17 (show ¬ (88 = 101) from by omega))).trans (hGσ2 88 17 (show ¬ (88 = 73) from by omega))
  have f18 : (0 : Int) ≤ τ 88 17 ∧ τ 88 17 ≤ 5 := hIτ 88 17
  have y19 : σ8 31 6 = τ 31 6 := ((hGσ8 31 6 (show ¬ (31 = 101) from by omega))).trans (hGσ2 31 6 (show ¬ (31 = 73) from by omega))
  have f20 : (0 : Int) ≤ τ 31 6 ∧ τ 31 6 ≤ 1 := hIτ 31 6
  have y21 : σ8 39 6 = τ 39 6 := ((hGσ8 39 6 (show ¬ (39 = 101) from by omega))).trans (hGσ2 39 6 (show ¬ (39 = 73) from by omega))
  have f22 : (0 : Int) ≤ τ 39 6 ∧ τ 39 6 ≤ 1 := hIτ 39 6
  have y23 : σ8 90 0 = τ 90 0 := ((hGσ8 90 0 (show ¬ (90 = 101) from by omega))).trans (hGσ2 90 0 (show ¬ (90 = 73) from by omega))
  have f24 : (0 : Int) ≤ τ 90 0 ∧ τ 90 0 ≤ 1 := hIτ 90 0
  have y25 : σ8 90 1 = τ 90 1 := ((hGσ8 90 1 (show ¬ (90 = 101) from by omega))).trans (hGσ2 90 1 (show ¬ (90 = 73) from by omega))
  have f26 : (0 : Int) ≤ τ 90 1 ∧ τ 90 1 ≤ 1 := hIτ 90 1
  exact K σ8 hIσ8 ⟨mσ8, by omega, sσ8, bσ8, by omega, by omega, by omega, tσ8, stσ8⟩
set_option maxHeartbeats 4000000 in
set_option maxRecDepth 100000 in
theorem w_case_25 {G : tw_G} (hX : tw_isX G) (hM : tw_isM G) {E : List Frame → Array Value → State → State → Prop} (hN : (gN G : Int) ≤ 2560) (i : Int) (hi : 0 ≤ i ∧ i + 5 ≤ (gN G : Int)) (τ : tw_M) (hIτ : tw_I τ) (hL : tw_LI τ) (K : ∀ τ' : tw_M, tw_I τ' → tw_LI τ' → tw_J G tw_ML E 1352 [(0, vR 300), (1, vR 0), (2, vR 88), (3, vI i)] [] τ') : tw_J G tw_ML E 927 [(0, vR 300), (1, vR 0), (2, vR 88), (3, vI i)] [] τ := by
  obtain ⟨mτ, zτ, sτ, bτ, fτ, kτ0, kτ1, tτ, stτ⟩ := hL
  have g9 : (0 : Int) ≤ τ 10 10 ∧ τ 10 10 ≤ 400 := hIτ 10 10
  obtain ⟨v1, ev1⟩ : ∃ v : Int, v = (gxs G (i + 1).toNat).toInt := ⟨_, rfl⟩
  have hv1 : (-2147483648 : Int) ≤ v1 ∧ v1 ≤ 2147483647 := by rw [ev1]; exact i32_in _
  obtain ⟨v2, ev2⟩ : ∃ v : Int, v = (gxs G (i + 2).toNat).toInt := ⟨_, rfl⟩
  have hv2 : (-2147483648 : Int) ≤ v2 ∧ v2 ≤ 2147483647 := by rw [ev2]; exact i32_in _
  obtain ⟨v3, ev3⟩ : ∃ v : Int, v = (gxs G (i + 3).toNat).toInt := ⟨_, rfl⟩
  have hv3 : (-2147483648 : Int) ≤ v3 ∧ v3 ≤ 2147483647 := by rw [ev3]; exact i32_in _
  obtain ⟨v4, ev4⟩ : ∃ v : Int, v = (gxs G (i + 4).toNat).toInt := ⟨_, rfl⟩
  have hv4 : (-2147483648 : Int) ≤ v4 ∧ v4 ≤ 2147483647 := by rw [ev4]; exact i32_in _
  refine j_aload_n (pc := 927) dL_law_927 rfl rfl ?_
  refine j_aload_n (pc := 928) dL_law_928 rfl rfl ?_
  refine j_iload_n (pc := 929) dL_law_929 rfl rfl ?_
  refine j_iconst (pc := 930) dL_law_930 ?_
  refine j_iadd (pc := 931) dL_law_931 ?_
  refine j_scrAt (pc := 932) dL_law_932 (by omega) (by omega) (by omega) ?_
  refine j_topV (show _ = v1 from ev1.symm) ?_
  refine j_aload_n (pc := 933) dL_law_933 rfl rfl ?_
  refine j_iload_n (pc := 934) dL_law_934 rfl rfl ?_
  refine j_iconst (pc := 935) dL_law_935 ?_
  refine j_iadd (pc := 936) dL_law_936 ?_
  refine j_scrAt (pc := 937) dL_law_937 (by omega) (by omega) (by omega) ?_
  refine j_topV (show _ = v2 from ev2.symm) ?_
  refine j_ifR_eq (pc := 938) (tgt := 945) ⟨by omega, by omega⟩ dL_law_938 rfl (fun h1 => ?_) (fun h1 => ?_)
  · refine j_iconst (pc := 945) dL_law_945 ?_
    refine j_callV (pc := 946) (As := [vI v1, vI 0]) (st := []) (c_X11_tried hX v1 ⟨by omega, by omega⟩ 0 ⟨by omega, by omega⟩ τ hIτ) mv_L_124 rfl rfl rfl (a_0 hX) dL_law_946 ⟨Nat.le_of_ble_eq_true rfl, Nat.le_of_ble_eq_true rfl⟩ ⟨Nat.le_of_ble_eq_true rfl, Nat.le_of_ble_eq_true rfl⟩ rfl (Nat.le_of_ble_eq_true rfl) rfl (fun z2 σ3 hz2 => ?_)
    obtain ⟨r5, rfl, hr5, hIσ3, hGσ3, q4_0⟩ := hz2
    replace q4_0 : (r5 = -1 ∧ ¬ (v1 = 0 ∨ v1 = 1) ∧ σ3 29 0 = τ 29 0 ∧ σ3 30 0 = τ 30 0 ∧ σ3 29 1 = τ 29 1 ∧ σ3 30 1 = τ 30 1) ∨ (r5 = -3 ∧ (v1 = 0 ∨ v1 = 1) ∧ 999 ≤ τ 29 0 + τ 29 1 ∧ σ3 29 0 = τ 29 0 ∧ σ3 30 0 = τ 30 0 ∧ σ3 29 1 = τ 29 1 ∧ σ3 30 1 = τ 30 1) ∨ (v1 = 0 ∧ τ 29 0 + τ 29 1 < 999 ∧ r5 = τ 29 0 + 1 ∧ σ3 29 0 = τ 29 0 + 1 ∧ (2147483647 ≤ τ 30 0 ∨ σ3 30 0 = τ 30 0 + (0 : Int)) ∧ σ3 29 1 = τ 29 1 ∧ σ3 30 1 = τ 30 1) ∨ (v1 = 1 ∧ τ 29 0 + τ 29 1 < 999 ∧ r5 = τ 29 1 + 1 ∧ σ3 29 1 = τ 29 1 + 1 ∧ (2147483647 ≤ τ 30 1 ∨ σ3 30 1 = τ 30 1 + (0 : Int)) ∧ σ3 29 0 = τ 29 0 ∧ σ3 30 0 = τ 30 0) := q4_0
    refine j_st (st' := [vI r5]) rfl ?_
    have y6 : σ3 10 10 = τ 10 10 := (hGσ3 10 10 (show ¬ ((29 ≤ 10 ∧ 10 < 31)) from by omega))
    have f7 : (0 : Int) ≤ τ 10 10 ∧ τ 10 10 ≤ 400 := hIτ 10 10
    have bσ3 : BY σ3 := BY_kept bτ (fun j => hGσ3 11 j (show ¬ ((29 ≤ 11 ∧ 11 < 31)) from by omega)) (fun j => hGσ3 98 j (show ¬ ((29 ≤ 98 ∧ 98 < 31)) from by omega)) (by omega)
    have mσ3 : mI σ3 := mI_kept mτ (fun j hj => hGσ3 89 j (show ¬ ((29 ≤ 89 ∧ 89 < 31)) from by omega)) (fun j => hGσ3 90 j (show ¬ ((29 ≤ 90 ∧ 90 < 31)) from by omega)) (hGσ3 91 0 (show ¬ ((29 ≤ 91 ∧ 91 < 31)) from by omega)) hIτ
    have sσ3 : SR σ3 := SR_kept sτ (fun c j h => hGσ3 c j (show ¬ ((29 ≤ c ∧ c < 31)) from by omega)) (fun j => hGσ3 104 j (show ¬ ((29 ≤ 104 ∧ 104 < 31)) from by omega)) (fun j => hGσ3 105 j (show ¬ ((29 ≤ 105 ∧ 105 < 31)) from by omega))
    have stσ3 : ST σ3 := ST_F stτ (fun c j h => hGσ3 c j (show ¬ ((29 ≤ c ∧ c < 31)) from by unfold STR at h; omega))
    refine j_pop (pc := 949) dL_law_949 rfl ?_
    refine j_aload_n (pc := 950) dL_law_950 rfl rfl ?_
    refine j_aload_n (pc := 951) dL_law_951 rfl rfl ?_
    refine j_iload_n (pc := 952) dL_law_952 rfl rfl ?_
    refine j_iconst (pc := 953) dL_law_953 ?_
    refine j_iadd (pc := 954) dL_law_954 ?_
    refine j_scrAt (pc := 955) dL_law_955 (by omega) (by omega) (by omega) ?_
    refine j_topV (show _ = v1 from ev1.symm) ?_
    refine j_aload_n (pc := 956) dL_law_956 rfl rfl ?_
    refine j_iload_n (pc := 957) dL_law_957 rfl rfl ?_
    refine j_iconst (pc := 958) dL_law_958 ?_
    refine j_iadd (pc := 959) dL_law_959 ?_
    refine j_scrAt (pc := 960) dL_law_960 (by omega) (by omega) (by omega) ?_
    refine j_topV (show _ = v2 from ev2.symm) ?_
    refine j_ifR_eq (pc := 961) (tgt := 968) ⟨by omega, by omega⟩ dL_law_961 rfl (fun h8 => ?_) (fun h8 => by exfalso; omega)
    refine j_iconst (pc := 968) dL_law_968 ?_
    refine j_callV (pc := 969) (As := [vI v1, vI 0]) (st := []) (c_X12_tried hM v1 ⟨by omega, by omega⟩ 0 ⟨by omega, by omega⟩ σ3 hIσ3 mσ3) mv_L_127 rfl rfl rfl (a_88 hM) dL_law_969 ⟨Nat.le_of_ble_eq_true rfl, Nat.le_of_ble_eq_true rfl⟩ ⟨Nat.le_of_ble_eq_true rfl, Nat.le_of_ble_eq_true rfl⟩ rfl (Nat.le_of_ble_eq_true rfl) rfl (fun z9 σ10 hz9 => ?_)
    obtain ⟨r12, rfl, hr12, hIσ10, hGσ10, q11_0, q11_1⟩ := hz9
    replace q11_0 : mI σ10 := q11_0
    replace q11_1 : (r12 = -1 ∧ ¬ (v1 = 0 ∨ v1 = 1) ∧ σ10 89 93 = σ3 89 93 ∧ σ10 89 94 = σ3 89 94 ∧ σ10 89 95 = σ3 89 95 ∧ σ10 89 96 = σ3 89 96) ∨ (r12 = -3 ∧ (v1 = 0 ∨ v1 = 1) ∧ 999 ≤ σ3 89 93 + σ3 89 95 ∧ σ10 89 93 = σ3 89 93 ∧ σ10 89 94 = σ3 89 94 ∧ σ10 89 95 = σ3 89 95 ∧ σ10 89 96 = σ3 89 96) ∨ (v1 = 0 ∧ σ3 89 93 + σ3 89 95 < 999 ∧ r12 = σ3 89 93 + 1 ∧ σ10 89 93 = σ3 89 93 + 1 ∧ (2147483647 ≤ σ3 89 94 ∨ σ10 89 94 = σ3 89 94 + (0 : Int)) ∧ σ10 89 95 = σ3 89 95 ∧ σ10 89 96 = σ3 89 96) ∨ (v1 = 1 ∧ σ3 89 93 + σ3 89 95 < 999 ∧ r12 = σ3 89 95 + 1 ∧ σ10 89 95 = σ3 89 95 + 1 ∧ (2147483647 ≤ σ3 89 96 ∨ σ10 89 96 = σ3 89 96 + (0 : Int)) ∧ σ10 89 93 = σ3 89 93 ∧ σ10 89 94 = σ3 89 94) := q11_1
    have y13 : σ3 89 93 = τ 89 93 := (hGσ3 89 93 (show ¬ ((29 ≤ 89 ∧ 89 < 31)) from by omega))
    have f14 : (0 : Int) ≤ τ 89 93 ∧ τ 89 93 ≤ 999 := hIτ 89 93
    have y15 : σ3 89 94 = τ 89 94 := (hGσ3 89 94 (show ¬ ((29 ≤ 89 ∧ 89 < 31)) from by omega))
    have f16 : (-2147483648 : Int) ≤ τ 89 94 ∧ τ 89 94 ≤ 2147483647 := hIτ 89 94
    have y17 : σ3 89 95 = τ 89 95 := (hGσ3 89 95 (show ¬ ((29 ≤ 89 ∧ 89 < 31)) from by omega))
    have f18 : (0 : Int) ≤ τ 89 95 ∧ τ 89 95 ≤ 999 := hIτ 89 95
    have y19 : σ3 89 96 = τ 89 96 := (hGσ3 89 96 (show ¬ ((29 ≤ 89 ∧ 89 < 31)) from by omega))
    have f20 : (-2147483648 : Int) ≤ τ 89 96 ∧ τ 89 96 ≤ 2147483647 := hIτ 89 96
    refine j_st (st' := [vI r12]) rfl ?_
    have y21 : σ10 10 10 = τ 10 10 := ((hGσ10 10 10 (show ¬ ((10 = 89 ∧ 93 ≤ 10 ∧ 10 < 97)) from by omega))).trans (hGσ3 10 10 (show ¬ ((29 ≤ 10 ∧ 10 < 31)) from by omega))
    have bσ10 : BY σ10 := BY_kept bσ3 (fun j => hGσ10 11 j (show ¬ ((11 = 89 ∧ 93 ≤ j ∧ j < 97)) from by omega)) (fun j => hGσ10 98 j (show ¬ ((98 = 89 ∧ 93 ≤ j ∧ j < 97)) from by omega)) (by omega)
    have mσ10 : mI σ10 := q11_0
    have sσ10 : SR σ10 := SR_kept sσ3 (fun c j h => hGσ10 c j (show ¬ ((c = 89 ∧ 93 ≤ j ∧ j < 97)) from by omega)) (fun j => hGσ10 104 j (show ¬ ((104 = 89 ∧ 93 ≤ j ∧ j < 97)) from by omega)) (fun j => hGσ10 105 j (show ¬ ((105 = 89 ∧ 93 ≤ j ∧ j < 97)) from by omega))
    have stσ10 : ST σ10 := ST_F stσ3 (fun c j h => hGσ10 c j (show ¬ ((c = 89 ∧ 93 ≤ j ∧ j < 97)) from by unfold STR at h; omega))
    refine j_pop (pc := 972) dL_law_972 rfl ?_
    refine j_goto (pc := 973) (tgt := 1352) dL_law_973 rfl ?_
    have y22 : σ10 10 10 = τ 10 10 := ((hGσ10 10 10 (show ¬ ((10 = 89 ∧ 93 ≤ 10 ∧ 10 < 97)) from by omega))).trans (hGσ3 10 10 (show ¬ ((29 ≤ 10 ∧ 10 < 31)) from by omega))
    have y23 : σ10 88 12 = τ 88 12 := ((hGσ10 88 12 (show ¬ ((88 = 89 ∧ 93 ≤ 12 ∧ 12 < 97)) from by omega))).trans (hGσ3 88 12 (show ¬ ((29 ≤ 88 ∧ 88 < 31)) from by omega))
    have f24 : (0 : Int) ≤ τ 88 12 ∧ τ 88 12 ≤ 400 := hIτ 88 12
    have y25 : σ10 0 13 = τ 0 13 := ((hGσ10 0 13 (show ¬ ((0 = 89 ∧ 93 ≤ 13 ∧ 13 < 97)) from by omega))).trans (hGσ3 0 13 (show ¬ ((29 ≤ 0 ∧ 0 < 31)) from by omega))
    have f26 : (-2147483648 : Int) ≤ τ 0 13 ∧ τ 0 13 ≤ 2147483647 := hIτ 0 13
    have y27 : σ10 88 17 = τ 88 17 := ((hGσ10 88 17 (show ¬ ((88 = 89 ∧ 93 ≤ 17 ∧ 17 < 97)) from by omega))).trans (hGσ3 88 17 (show ¬ ((29 ≤ 88 ∧ 88 < 31)) from by omega))
    have f28 : (0 : Int) ≤ τ 88 17 ∧ τ 88 17 ≤ 5 := hIτ 88 17
    have y29 : σ10 31 6 = τ 31 6 := ((hGσ10 31 6 (show ¬ ((31 = 89 ∧ 93 ≤ 6 ∧ 6 < 97)) from by omega))).trans (hGσ3 31 6 (show ¬ ((29 ≤ 31 ∧ 31 < 31)) from by omega))
    have f30 : (0 : Int) ≤ τ 31 6 ∧ τ 31 6 ≤ 1 := hIτ 31 6
    have y31 : σ10 39 6 = τ 39 6 := ((hGσ10 39 6 (show ¬ ((39 = 89 ∧ 93 ≤ 6 ∧ 6 < 97)) from by omega))).trans (hGσ3 39 6 (show ¬ ((29 ≤ 39 ∧ 39 < 31)) from by omega))
    have f32 : (0 : Int) ≤ τ 39 6 ∧ τ 39 6 ≤ 1 := hIτ 39 6
    have y33 : σ10 90 0 = τ 90 0 := ((hGσ10 90 0 (show ¬ ((90 = 89 ∧ 93 ≤ 0 ∧ 0 < 97)) from by omega))).trans (hGσ3 90 0 (show ¬ ((29 ≤ 90 ∧ 90 < 31)) from by omega))
    have f34 : (0 : Int) ≤ τ 90 0 ∧ τ 90 0 ≤ 1 := hIτ 90 0
    have y35 : σ10 90 1 = τ 90 1 := ((hGσ10 90 1 (show ¬ ((90 = 89 ∧ 93 ≤ 1 ∧ 1 < 97)) from by omega))).trans (hGσ3 90 1 (show ¬ ((29 ≤ 90 ∧ 90 < 31)) from by omega))
    have f36 : (0 : Int) ≤ τ 90 1 ∧ τ 90 1 ≤ 1 := hIτ 90 1
    obtain ⟨t0, t1, t2, t3, t4, t5, t6, t7, t8, t9, t10, t11, t12, t13, t14, t15, t16, t17⟩ := tτ
    have y37 : σ10 29 0 = σ3 29 0 := (hGσ10 29 0 (show ¬ ((29 = 89 ∧ 93 ≤ 0 ∧ 0 < 97)) from by omega))
    have f38 : (0 : Int) ≤ σ3 29 0 ∧ σ3 29 0 ≤ 999 := hIσ3 29 0
    have y39 : σ10 30 0 = σ3 30 0 := (hGσ10 30 0 (show ¬ ((30 = 89 ∧ 93 ≤ 0 ∧ 0 < 97)) from by omega))
    have f40 : (-2147483648 : Int) ≤ σ3 30 0 ∧ σ3 30 0 ≤ 2147483647 := hIσ3 30 0
    have y41 : σ10 29 1 = σ3 29 1 := (hGσ10 29 1 (show ¬ ((29 = 89 ∧ 93 ≤ 1 ∧ 1 < 97)) from by omega))
    have f42 : (0 : Int) ≤ σ3 29 1 ∧ σ3 29 1 ≤ 999 := hIσ3 29 1
    have y43 : σ10 30 1 = σ3 30 1 := (hGσ10 30 1 (show ¬ ((30 = 89 ∧ 93 ≤ 1 ∧ 1 < 97)) from by omega))
    have f44 : (-2147483648 : Int) ≤ σ3 30 1 ∧ σ3 30 1 ≤ 2147483647 := hIσ3 30 1
    have y45 : σ10 37 0 = τ 37 0 := ((hGσ10 37 0 (show ¬ ((37 = 89 ∧ 93 ≤ 0 ∧ 0 < 97)) from by omega))).trans (hGσ3 37 0 (show ¬ ((29 ≤ 37 ∧ 37 < 31)) from by omega))
    have f46 : (0 : Int) ≤ τ 37 0 ∧ τ 37 0 ≤ 999 := hIτ 37 0
    have y47 : σ10 38 0 = τ 38 0 := ((hGσ10 38 0 (show ¬ ((38 = 89 ∧ 93 ≤ 0 ∧ 0 < 97)) from by omega))).trans (hGσ3 38 0 (show ¬ ((29 ≤ 38 ∧ 38 < 31)) from by omega))
    have f48 : (-2147483648 : Int) ≤ τ 38 0 ∧ τ 38 0 ≤ 2147483647 := hIτ 38 0
    have y49 : σ10 37 1 = τ 37 1 := ((hGσ10 37 1 (show ¬ ((37 = 89 ∧ 93 ≤ 1 ∧ 1 < 97)) from by omega))).trans (hGσ3 37 1 (show ¬ ((29 ≤ 37 ∧ 37 < 31)) from by omega))
    have f50 : (0 : Int) ≤ τ 37 1 ∧ τ 37 1 ≤ 999 := hIτ 37 1
    have y51 : σ10 38 1 = τ 38 1 := ((hGσ10 38 1 (show ¬ ((38 = 89 ∧ 93 ≤ 1 ∧ 1 < 97)) from by omega))).trans (hGσ3 38 1 (show ¬ ((29 ≤ 38 ∧ 38 < 31)) from by omega))
    have f52 : (-2147483648 : Int) ≤ τ 38 1 ∧ τ 38 1 ≤ 2147483647 := hIτ 38 1
    have y53 : σ10 45 0 = τ 45 0 := ((hGσ10 45 0 (show ¬ ((45 = 89 ∧ 93 ≤ 0 ∧ 0 < 97)) from by omega))).trans (hGσ3 45 0 (show ¬ ((29 ≤ 45 ∧ 45 < 31)) from by omega))
    have f54 : (0 : Int) ≤ τ 45 0 ∧ τ 45 0 ≤ 999 := hIτ 45 0
    have y55 : σ10 46 0 = τ 46 0 := ((hGσ10 46 0 (show ¬ ((46 = 89 ∧ 93 ≤ 0 ∧ 0 < 97)) from by omega))).trans (hGσ3 46 0 (show ¬ ((29 ≤ 46 ∧ 46 < 31)) from by omega))
    have f56 : (-2147483648 : Int) ≤ τ 46 0 ∧ τ 46 0 ≤ 2147483647 := hIτ 46 0
    have y57 : σ10 45 1 = τ 45 1 := ((hGσ10 45 1 (show ¬ ((45 = 89 ∧ 93 ≤ 1 ∧ 1 < 97)) from by omega))).trans (hGσ3 45 1 (show ¬ ((29 ≤ 45 ∧ 45 < 31)) from by omega))
    have f58 : (0 : Int) ≤ τ 45 1 ∧ τ 45 1 ≤ 999 := hIτ 45 1
    have y59 : σ10 46 1 = τ 46 1 := ((hGσ10 46 1 (show ¬ ((46 = 89 ∧ 93 ≤ 1 ∧ 1 < 97)) from by omega))).trans (hGσ3 46 1 (show ¬ ((29 ≤ 46 ∧ 46 < 31)) from by omega))
    have f60 : (-2147483648 : Int) ≤ τ 46 1 ∧ τ 46 1 ≤ 2147483647 := hIτ 46 1
    have u193 : σ10 89 193 = τ 89 193 := ((hGσ10 89 193 (show ¬ ((89 = 89 ∧ 93 ≤ 193 ∧ 193 < 97)) from by omega))).trans (hGσ3 89 193 (show ¬ ((29 ≤ 89 ∧ 89 < 31)) from by omega))
    have u194 : σ10 89 194 = τ 89 194 := ((hGσ10 89 194 (show ¬ ((89 = 89 ∧ 93 ≤ 194 ∧ 194 < 97)) from by omega))).trans (hGσ3 89 194 (show ¬ ((29 ≤ 89 ∧ 89 < 31)) from by omega))
    have u195 : σ10 89 195 = τ 89 195 := ((hGσ10 89 195 (show ¬ ((89 = 89 ∧ 93 ≤ 195 ∧ 195 < 97)) from by omega))).trans (hGσ3 89 195 (show ¬ ((29 ≤ 89 ∧ 89 < 31)) from by omega))
    have u196 : σ10 89 196 = τ 89 196 := ((hGσ10 89 196 (show ¬ ((89 = 89 ∧ 93 ≤ 196 ∧ 196 < 97)) from by omega))).trans (hGσ3 89 196 (show ¬ ((29 ≤ 89 ∧ 89 < 31)) from by omega))
    have u293 : σ10 89 293 = τ 89 293 := ((hGσ10 89 293 (show ¬ ((89 = 89 ∧ 93 ≤ 293 ∧ 293 < 97)) from by omega))).trans (hGσ3 89 293 (show ¬ ((29 ≤ 89 ∧ 89 < 31)) from by omega))
    have u294 : σ10 89 294 = τ 89 294 := ((hGσ10 89 294 (show ¬ ((89 = 89 ∧ 93 ≤ 294 ∧ 294 < 97)) from by omega))).trans (hGσ3 89 294 (show ¬ ((29 ≤ 89 ∧ 89 < 31)) from by omega))
    have u295 : σ10 89 295 = τ 89 295 := ((hGσ10 89 295 (show ¬ ((89 = 89 ∧ 93 ≤ 295 ∧ 295 < 97)) from by omega))).trans (hGσ3 89 295 (show ¬ ((29 ≤ 89 ∧ 89 < 31)) from by omega))
    have u296 : σ10 89 296 = τ 89 296 := ((hGσ10 89 296 (show ¬ ((89 = 89 ∧ 93 ≤ 296 ∧ 296 < 97)) from by omega))).trans (hGσ3 89 296 (show ¬ ((29 ≤ 89 ∧ 89 < 31)) from by omega))
    exact K σ10 hIσ10 ⟨mσ10, by omega, sσ10, bσ10, by omega, by omega, by omega, ⟨by clear t14 t15 t16 t17; omega, by clear t14 t15 t16 t17; omega, by clear t14 t15 t16 t17; omega, by clear t14 t15 t16 t17; omega, by clear t14 t15 t16 t17 q4_0 q11_1; omega, by clear t14 t15 t16 t17 q4_0 q11_1; omega, by clear t14 t15 t16 t17 q4_0 q11_1; omega, by clear t14 t15 t16 t17 q4_0 q11_1; omega, by clear t14 t15 t16 t17 q4_0 q11_1; omega, by clear t14 t15 t16 t17 q4_0 q11_1; omega, by clear t14 t15 t16 t17 q4_0 q11_1; omega, by clear t14 t15 t16 t17 q4_0 q11_1; omega, by clear t2 t3 t6 t7 t10 t11 t13 t15 t17; omega, by clear t0 t1 t4 t5 t8 t9 t12 t14 t16; omega, by clear t2 t3 t6 t7 t10 t11 t13 t15 t17 q4_0 q11_1; omega, by clear t0 t1 t4 t5 t8 t9 t12 t14 t16 q4_0 q11_1; omega, by clear t2 t3 t6 t7 t10 t11 t13 t15 t17 q4_0 q11_1; omega, by clear t0 t1 t4 t5 t8 t9 t12 t14 t16 q4_0 q11_1; omega⟩, stσ10⟩
  · refine j_iconst (pc := 941) dL_law_941 ?_
    refine j_goto (pc := 942) (tgt := 946) dL_law_942 rfl ?_
    refine j_callV (pc := 946) (As := [vI v1, vI 1]) (st := []) (c_X11_tried hX v1 ⟨by omega, by omega⟩ 1 ⟨by omega, by omega⟩ τ hIτ) mv_L_124 rfl rfl rfl (a_0 hX) dL_law_946 ⟨Nat.le_of_ble_eq_true rfl, Nat.le_of_ble_eq_true rfl⟩ ⟨Nat.le_of_ble_eq_true rfl, Nat.le_of_ble_eq_true rfl⟩ rfl (Nat.le_of_ble_eq_true rfl) rfl (fun z61 σ62 hz61 => ?_)
    obtain ⟨r64, rfl, hr64, hIσ62, hGσ62, q63_0⟩ := hz61
    replace q63_0 : (r64 = -1 ∧ ¬ (v1 = 0 ∨ v1 = 1) ∧ σ62 29 0 = τ 29 0 ∧ σ62 30 0 = τ 30 0 ∧ σ62 29 1 = τ 29 1 ∧ σ62 30 1 = τ 30 1) ∨ (r64 = -3 ∧ (v1 = 0 ∨ v1 = 1) ∧ 999 ≤ τ 29 0 + τ 29 1 ∧ σ62 29 0 = τ 29 0 ∧ σ62 30 0 = τ 30 0 ∧ σ62 29 1 = τ 29 1 ∧ σ62 30 1 = τ 30 1) ∨ (v1 = 0 ∧ τ 29 0 + τ 29 1 < 999 ∧ r64 = τ 29 0 + 1 ∧ σ62 29 0 = τ 29 0 + 1 ∧ (2147483647 ≤ τ 30 0 ∨ σ62 30 0 = τ 30 0 + (1 : Int)) ∧ σ62 29 1 = τ 29 1 ∧ σ62 30 1 = τ 30 1) ∨ (v1 = 1 ∧ τ 29 0 + τ 29 1 < 999 ∧ r64 = τ 29 1 + 1 ∧ σ62 29 1 = τ 29 1 + 1 ∧ (2147483647 ≤ τ 30 1 ∨ σ62 30 1 = τ 30 1 + (1 : Int)) ∧ σ62 29 0 = τ 29 0 ∧ σ62 30 0 = τ 30 0) := q63_0
    refine j_st (st' := [vI r64]) rfl ?_
    have y65 : σ62 10 10 = τ 10 10 := (hGσ62 10 10 (show ¬ ((29 ≤ 10 ∧ 10 < 31)) from by omega))
    have f66 : (0 : Int) ≤ τ 10 10 ∧ τ 10 10 ≤ 400 := hIτ 10 10
    have bσ62 : BY σ62 := BY_kept bτ (fun j => hGσ62 11 j (show ¬ ((29 ≤ 11 ∧ 11 < 31)) from by omega)) (fun j => hGσ62 98 j (show ¬ ((29 ≤ 98 ∧ 98 < 31)) from by omega)) (by omega)
    have mσ62 : mI σ62 := mI_kept mτ (fun j hj => hGσ62 89 j (show ¬ ((29 ≤ 89 ∧ 89 < 31)) from by omega)) (fun j => hGσ62 90 j (show ¬ ((29 ≤ 90 ∧ 90 < 31)) from by omega)) (hGσ62 91 0 (show ¬ ((29 ≤ 91 ∧ 91 < 31)) from by omega)) hIτ
    have sσ62 : SR σ62 := SR_kept sτ (fun c j h => hGσ62 c j (show ¬ ((29 ≤ c ∧ c < 31)) from by omega)) (fun j => hGσ62 104 j (show ¬ ((29 ≤ 104 ∧ 104 < 31)) from by omega)) (fun j => hGσ62 105 j (show ¬ ((29 ≤ 105 ∧ 105 < 31)) from by omega))
    have stσ62 : ST σ62 := ST_F stτ (fun c j h => hGσ62 c j (show ¬ ((29 ≤ c ∧ c < 31)) from by unfold STR at h; omega))
    refine j_pop (pc := 949) dL_law_949 rfl ?_
    refine j_aload_n (pc := 950) dL_law_950 rfl rfl ?_
    refine j_aload_n (pc := 951) dL_law_951 rfl rfl ?_
    refine j_iload_n (pc := 952) dL_law_952 rfl rfl ?_
    refine j_iconst (pc := 953) dL_law_953 ?_
    refine j_iadd (pc := 954) dL_law_954 ?_
    refine j_scrAt (pc := 955) dL_law_955 (by omega) (by omega) (by omega) ?_
    refine j_topV (show _ = v1 from ev1.symm) ?_
    refine j_aload_n (pc := 956) dL_law_956 rfl rfl ?_
    refine j_iload_n (pc := 957) dL_law_957 rfl rfl ?_
    refine j_iconst (pc := 958) dL_law_958 ?_
    refine j_iadd (pc := 959) dL_law_959 ?_
    refine j_scrAt (pc := 960) dL_law_960 (by omega) (by omega) (by omega) ?_
    refine j_topV (show _ = v2 from ev2.symm) ?_
    refine j_ifR_eq (pc := 961) (tgt := 968) ⟨by omega, by omega⟩ dL_law_961 rfl (fun h67 => ?_) (fun h67 => ?_)
    · refine j_iconst (pc := 968) dL_law_968 ?_
      refine j_callV (pc := 969) (As := [vI v1, vI 0]) (st := []) (c_X12_tried hM v1 ⟨by omega, by omega⟩ 0 ⟨by omega, by omega⟩ σ62 hIσ62 mσ62) mv_L_127 rfl rfl rfl (a_88 hM) dL_law_969 ⟨Nat.le_of_ble_eq_true rfl, Nat.le_of_ble_eq_true rfl⟩ ⟨Nat.le_of_ble_eq_true rfl, Nat.le_of_ble_eq_true rfl⟩ rfl (Nat.le_of_ble_eq_true rfl) rfl (fun z68 σ69 hz68 => ?_)
      obtain ⟨r71, rfl, hr71, hIσ69, hGσ69, q70_0, q70_1⟩ := hz68
      replace q70_0 : mI σ69 := q70_0
      replace q70_1 : (r71 = -1 ∧ ¬ (v1 = 0 ∨ v1 = 1) ∧ σ69 89 93 = σ62 89 93 ∧ σ69 89 94 = σ62 89 94 ∧ σ69 89 95 = σ62 89 95 ∧ σ69 89 96 = σ62 89 96) ∨ (r71 = -3 ∧ (v1 = 0 ∨ v1 = 1) ∧ 999 ≤ σ62 89 93 + σ62 89 95 ∧ σ69 89 93 = σ62 89 93 ∧ σ69 89 94 = σ62 89 94 ∧ σ69 89 95 = σ62 89 95 ∧ σ69 89 96 = σ62 89 96) ∨ (v1 = 0 ∧ σ62 89 93 + σ62 89 95 < 999 ∧ r71 = σ62 89 93 + 1 ∧ σ69 89 93 = σ62 89 93 + 1 ∧ (2147483647 ≤ σ62 89 94 ∨ σ69 89 94 = σ62 89 94 + (0 : Int)) ∧ σ69 89 95 = σ62 89 95 ∧ σ69 89 96 = σ62 89 96) ∨ (v1 = 1 ∧ σ62 89 93 + σ62 89 95 < 999 ∧ r71 = σ62 89 95 + 1 ∧ σ69 89 95 = σ62 89 95 + 1 ∧ (2147483647 ≤ σ62 89 96 ∨ σ69 89 96 = σ62 89 96 + (0 : Int)) ∧ σ69 89 93 = σ62 89 93 ∧ σ69 89 94 = σ62 89 94) := q70_1
      have y72 : σ62 89 93 = τ 89 93 := (hGσ62 89 93 (show ¬ ((29 ≤ 89 ∧ 89 < 31)) from by omega))
      have f73 : (0 : Int) ≤ τ 89 93 ∧ τ 89 93 ≤ 999 := hIτ 89 93
      have y74 : σ62 89 94 = τ 89 94 := (hGσ62 89 94 (show ¬ ((29 ≤ 89 ∧ 89 < 31)) from by omega))
      have f75 : (-2147483648 : Int) ≤ τ 89 94 ∧ τ 89 94 ≤ 2147483647 := hIτ 89 94
      have y76 : σ62 89 95 = τ 89 95 := (hGσ62 89 95 (show ¬ ((29 ≤ 89 ∧ 89 < 31)) from by omega))
      have f77 : (0 : Int) ≤ τ 89 95 ∧ τ 89 95 ≤ 999 := hIτ 89 95
      have y78 : σ62 89 96 = τ 89 96 := (hGσ62 89 96 (show ¬ ((29 ≤ 89 ∧ 89 < 31)) from by omega))
      have f79 : (-2147483648 : Int) ≤ τ 89 96 ∧ τ 89 96 ≤ 2147483647 := hIτ 89 96
      refine j_st (st' := [vI r71]) rfl ?_
      have y80 : σ69 10 10 = τ 10 10 := ((hGσ69 10 10 (show ¬ ((10 = 89 ∧ 93 ≤ 10 ∧ 10 < 97)) from by omega))).trans (hGσ62 10 10 (show ¬ ((29 ≤ 10 ∧ 10 < 31)) from by omega))
      have bσ69 : BY σ69 := BY_kept bσ62 (fun j => hGσ69 11 j (show ¬ ((11 = 89 ∧ 93 ≤ j ∧ j < 97)) from by omega)) (fun j => hGσ69 98 j (show ¬ ((98 = 89 ∧ 93 ≤ j ∧ j < 97)) from by omega)) (by omega)
      have mσ69 : mI σ69 := q70_0
      have sσ69 : SR σ69 := SR_kept sσ62 (fun c j h => hGσ69 c j (show ¬ ((c = 89 ∧ 93 ≤ j ∧ j < 97)) from by omega)) (fun j => hGσ69 104 j (show ¬ ((104 = 89 ∧ 93 ≤ j ∧ j < 97)) from by omega)) (fun j => hGσ69 105 j (show ¬ ((105 = 89 ∧ 93 ≤ j ∧ j < 97)) from by omega))
      have stσ69 : ST σ69 := ST_F stσ62 (fun c j h => hGσ69 c j (show ¬ ((c = 89 ∧ 93 ≤ j ∧ j < 97)) from by unfold STR at h; omega))
      refine j_pop (pc := 972) dL_law_972 rfl ?_
      refine j_goto (pc := 973) (tgt := 1352) dL_law_973 rfl ?_
      have y81 : σ69 10 10 = τ 10 10 := ((hGσ69 10 10 (show ¬ ((10 = 89 ∧ 93 ≤ 10 ∧ 10 < 97)) from by omega))).trans (hGσ62 10 10 (show ¬ ((29 ≤ 10 ∧ 10 < 31)) from by omega))
      have y82 : σ69 88 12 = τ 88 12 := ((hGσ69 88 12 (show ¬ ((88 = 89 ∧ 93 ≤ 12 ∧ 12 < 97)) from by omega))).trans (hGσ62 88 12 (show ¬ ((29 ≤ 88 ∧ 88 < 31)) from by omega))
      have f83 : (0 : Int) ≤ τ 88 12 ∧ τ 88 12 ≤ 400 := hIτ 88 12
      have y84 : σ69 0 13 = τ 0 13 := ((hGσ69 0 13 (show ¬ ((0 = 89 ∧ 93 ≤ 13 ∧ 13 < 97)) from by omega))).trans (hGσ62 0 13 (show ¬ ((29 ≤ 0 ∧ 0 < 31)) from by omega))
      have f85 : (-2147483648 : Int) ≤ τ 0 13 ∧ τ 0 13 ≤ 2147483647 := hIτ 0 13
      have y86 : σ69 88 17 = τ 88 17 := ((hGσ69 88 17 (show ¬ ((88 = 89 ∧ 93 ≤ 17 ∧ 17 < 97)) from by omega))).trans (hGσ62 88 17 (show ¬ ((29 ≤ 88 ∧ 88 < 31)) from by omega))
      have f87 : (0 : Int) ≤ τ 88 17 ∧ τ 88 17 ≤ 5 := hIτ 88 17
      have y88 : σ69 31 6 = τ 31 6 := ((hGσ69 31 6 (show ¬ ((31 = 89 ∧ 93 ≤ 6 ∧ 6 < 97)) from by omega))).trans (hGσ62 31 6 (show ¬ ((29 ≤ 31 ∧ 31 < 31)) from by omega))
      have f89 : (0 : Int) ≤ τ 31 6 ∧ τ 31 6 ≤ 1 := hIτ 31 6
      have y90 : σ69 39 6 = τ 39 6 := ((hGσ69 39 6 (show ¬ ((39 = 89 ∧ 93 ≤ 6 ∧ 6 < 97)) from by omega))).trans (hGσ62 39 6 (show ¬ ((29 ≤ 39 ∧ 39 < 31)) from by omega))
      have f91 : (0 : Int) ≤ τ 39 6 ∧ τ 39 6 ≤ 1 := hIτ 39 6
      have y92 : σ69 90 0 = τ 90 0 := ((hGσ69 90 0 (show ¬ ((90 = 89 ∧ 93 ≤ 0 ∧ 0 < 97)) from by omega))).trans (hGσ62 90 0 (show ¬ ((29 ≤ 90 ∧ 90 < 31)) from by omega))
      have f93 : (0 : Int) ≤ τ 90 0 ∧ τ 90 0 ≤ 1 := hIτ 90 0
      have y94 : σ69 90 1 = τ 90 1 := ((hGσ69 90 1 (show ¬ ((90 = 89 ∧ 93 ≤ 1 ∧ 1 < 97)) from by omega))).trans (hGσ62 90 1 (show ¬ ((29 ≤ 90 ∧ 90 < 31)) from by omega))
      have f95 : (0 : Int) ≤ τ 90 1 ∧ τ 90 1 ≤ 1 := hIτ 90 1
      obtain ⟨t0, t1, t2, t3, t4, t5, t6, t7, t8, t9, t10, t11, t12, t13, t14, t15, t16, t17⟩ := tτ
      have y96 : σ69 29 0 = σ62 29 0 := (hGσ69 29 0 (show ¬ ((29 = 89 ∧ 93 ≤ 0 ∧ 0 < 97)) from by omega))
      have f97 : (0 : Int) ≤ σ62 29 0 ∧ σ62 29 0 ≤ 999 := hIσ62 29 0
      have y98 : σ69 30 0 = σ62 30 0 := (hGσ69 30 0 (show ¬ ((30 = 89 ∧ 93 ≤ 0 ∧ 0 < 97)) from by omega))
      have f99 : (-2147483648 : Int) ≤ σ62 30 0 ∧ σ62 30 0 ≤ 2147483647 := hIσ62 30 0
      have y100 : σ69 29 1 = σ62 29 1 := (hGσ69 29 1 (show ¬ ((29 = 89 ∧ 93 ≤ 1 ∧ 1 < 97)) from by omega))
      have f101 : (0 : Int) ≤ σ62 29 1 ∧ σ62 29 1 ≤ 999 := hIσ62 29 1
      have y102 : σ69 30 1 = σ62 30 1 := (hGσ69 30 1 (show ¬ ((30 = 89 ∧ 93 ≤ 1 ∧ 1 < 97)) from by omega))
      have f103 : (-2147483648 : Int) ≤ σ62 30 1 ∧ σ62 30 1 ≤ 2147483647 := hIσ62 30 1
      have y104 : σ69 37 0 = τ 37 0 := ((hGσ69 37 0 (show ¬ ((37 = 89 ∧ 93 ≤ 0 ∧ 0 < 97)) from by omega))).trans (hGσ62 37 0 (show ¬ ((29 ≤ 37 ∧ 37 < 31)) from by omega))
      have f105 : (0 : Int) ≤ τ 37 0 ∧ τ 37 0 ≤ 999 := hIτ 37 0
      have y106 : σ69 38 0 = τ 38 0 := ((hGσ69 38 0 (show ¬ ((38 = 89 ∧ 93 ≤ 0 ∧ 0 < 97)) from by omega))).trans (hGσ62 38 0 (show ¬ ((29 ≤ 38 ∧ 38 < 31)) from by omega))
      have f107 : (-2147483648 : Int) ≤ τ 38 0 ∧ τ 38 0 ≤ 2147483647 := hIτ 38 0
      have y108 : σ69 37 1 = τ 37 1 := ((hGσ69 37 1 (show ¬ ((37 = 89 ∧ 93 ≤ 1 ∧ 1 < 97)) from by omega))).trans (hGσ62 37 1 (show ¬ ((29 ≤ 37 ∧ 37 < 31)) from by omega))
      have f109 : (0 : Int) ≤ τ 37 1 ∧ τ 37 1 ≤ 999 := hIτ 37 1
      have y110 : σ69 38 1 = τ 38 1 := ((hGσ69 38 1 (show ¬ ((38 = 89 ∧ 93 ≤ 1 ∧ 1 < 97)) from by omega))).trans (hGσ62 38 1 (show ¬ ((29 ≤ 38 ∧ 38 < 31)) from by omega))
      have f111 : (-2147483648 : Int) ≤ τ 38 1 ∧ τ 38 1 ≤ 2147483647 := hIτ 38 1
      have y112 : σ69 45 0 = τ 45 0 := ((hGσ69 45 0 (show ¬ ((45 = 89 ∧ 93 ≤ 0 ∧ 0 < 97)) from by omega))).trans (hGσ62 45 0 (show ¬ ((29 ≤ 45 ∧ 45 < 31)) from by omega))
      have f113 : (0 : Int) ≤ τ 45 0 ∧ τ 45 0 ≤ 999 := hIτ 45 0
      have y114 : σ69 46 0 = τ 46 0 := ((hGσ69 46 0 (show ¬ ((46 = 89 ∧ 93 ≤ 0 ∧ 0 < 97)) from by omega))).trans (hGσ62 46 0 (show ¬ ((29 ≤ 46 ∧ 46 < 31)) from by omega))
      have f115 : (-2147483648 : Int) ≤ τ 46 0 ∧ τ 46 0 ≤ 2147483647 := hIτ 46 0
      have y116 : σ69 45 1 = τ 45 1 := ((hGσ69 45 1 (show ¬ ((45 = 89 ∧ 93 ≤ 1 ∧ 1 < 97)) from by omega))).trans (hGσ62 45 1 (show ¬ ((29 ≤ 45 ∧ 45 < 31)) from by omega))
      have f117 : (0 : Int) ≤ τ 45 1 ∧ τ 45 1 ≤ 999 := hIτ 45 1
      have y118 : σ69 46 1 = τ 46 1 := ((hGσ69 46 1 (show ¬ ((46 = 89 ∧ 93 ≤ 1 ∧ 1 < 97)) from by omega))).trans (hGσ62 46 1 (show ¬ ((29 ≤ 46 ∧ 46 < 31)) from by omega))
      have f119 : (-2147483648 : Int) ≤ τ 46 1 ∧ τ 46 1 ≤ 2147483647 := hIτ 46 1
      have u193 : σ69 89 193 = τ 89 193 := ((hGσ69 89 193 (show ¬ ((89 = 89 ∧ 93 ≤ 193 ∧ 193 < 97)) from by omega))).trans (hGσ62 89 193 (show ¬ ((29 ≤ 89 ∧ 89 < 31)) from by omega))
      have u194 : σ69 89 194 = τ 89 194 := ((hGσ69 89 194 (show ¬ ((89 = 89 ∧ 93 ≤ 194 ∧ 194 < 97)) from by omega))).trans (hGσ62 89 194 (show ¬ ((29 ≤ 89 ∧ 89 < 31)) from by omega))
      have u195 : σ69 89 195 = τ 89 195 := ((hGσ69 89 195 (show ¬ ((89 = 89 ∧ 93 ≤ 195 ∧ 195 < 97)) from by omega))).trans (hGσ62 89 195 (show ¬ ((29 ≤ 89 ∧ 89 < 31)) from by omega))
      have u196 : σ69 89 196 = τ 89 196 := ((hGσ69 89 196 (show ¬ ((89 = 89 ∧ 93 ≤ 196 ∧ 196 < 97)) from by omega))).trans (hGσ62 89 196 (show ¬ ((29 ≤ 89 ∧ 89 < 31)) from by omega))
      have u293 : σ69 89 293 = τ 89 293 := ((hGσ69 89 293 (show ¬ ((89 = 89 ∧ 93 ≤ 293 ∧ 293 < 97)) from by omega))).trans (hGσ62 89 293 (show ¬ ((29 ≤ 89 ∧ 89 < 31)) from by omega))
      have u294 : σ69 89 294 = τ 89 294 := ((hGσ69 89 294 (show ¬ ((89 = 89 ∧ 93 ≤ 294 ∧ 294 < 97)) from by omega))).trans (hGσ62 89 294 (show ¬ ((29 ≤ 89 ∧ 89 < 31)) from by omega))
      have u295 : σ69 89 295 = τ 89 295 := ((hGσ69 89 295 (show ¬ ((89 = 89 ∧ 93 ≤ 295 ∧ 295 < 97)) from by omega))).trans (hGσ62 89 295 (show ¬ ((29 ≤ 89 ∧ 89 < 31)) from by omega))
      have u296 : σ69 89 296 = τ 89 296 := ((hGσ69 89 296 (show ¬ ((89 = 89 ∧ 93 ≤ 296 ∧ 296 < 97)) from by omega))).trans (hGσ62 89 296 (show ¬ ((29 ≤ 89 ∧ 89 < 31)) from by omega))
      exact K σ69 hIσ69 ⟨mσ69, by omega, sσ69, bσ69, by omega, by omega, by omega, ⟨by clear t14 t15 t16 t17; omega, by clear t14 t15 t16 t17; omega, by clear t14 t15 t16 t17; omega, by clear t14 t15 t16 t17; omega, by clear t14 t15 t16 t17 q63_0 q70_1; omega, by clear t14 t15 t16 t17 q63_0 q70_1; omega, by clear t14 t15 t16 t17 q63_0 q70_1; omega, by clear t14 t15 t16 t17 q63_0 q70_1; omega, by clear t14 t15 t16 t17 q63_0 q70_1; omega, by clear t14 t15 t16 t17 q63_0 q70_1; omega, by clear t14 t15 t16 t17 q63_0 q70_1; omega, by clear t14 t15 t16 t17 q63_0 q70_1; omega, by clear t2 t3 t6 t7 t10 t11 t13 t15 t17; omega, by clear t0 t1 t4 t5 t8 t9 t12 t14 t16; omega, by clear t2 t3 t6 t7 t10 t11 t13 t15 t17 q63_0 q70_1; omega, by clear t0 t1 t4 t5 t8 t9 t12 t14 t16 q63_0 q70_1; omega, by clear t2 t3 t6 t7 t10 t11 t13 t15 t17 q63_0 q70_1; omega, by clear t0 t1 t4 t5 t8 t9 t12 t14 t16 q63_0 q70_1; omega⟩, stσ69⟩
    · refine j_iconst (pc := 964) dL_law_964 ?_
      refine j_goto (pc := 965) (tgt := 969) dL_law_965 rfl ?_
      refine j_callV (pc := 969) (As := [vI v1, vI 1]) (st := []) (c_X12_tried hM v1 ⟨by omega, by omega⟩ 1 ⟨by omega, by omega⟩ σ62 hIσ62 mσ62) mv_L_127 rfl rfl rfl (a_88 hM) dL_law_969 ⟨Nat.le_of_ble_eq_true rfl, Nat.le_of_ble_eq_true rfl⟩ ⟨Nat.le_of_ble_eq_true rfl, Nat.le_of_ble_eq_true rfl⟩ rfl (Nat.le_of_ble_eq_true rfl) rfl (fun z120 σ121 hz120 => ?_)
      obtain ⟨r123, rfl, hr123, hIσ121, hGσ121, q122_0, q122_1⟩ := hz120
      replace q122_0 : mI σ121 := q122_0
      replace q122_1 : (r123 = -1 ∧ ¬ (v1 = 0 ∨ v1 = 1) ∧ σ121 89 93 = σ62 89 93 ∧ σ121 89 94 = σ62 89 94 ∧ σ121 89 95 = σ62 89 95 ∧ σ121 89 96 = σ62 89 96) ∨ (r123 = -3 ∧ (v1 = 0 ∨ v1 = 1) ∧ 999 ≤ σ62 89 93 + σ62 89 95 ∧ σ121 89 93 = σ62 89 93 ∧ σ121 89 94 = σ62 89 94 ∧ σ121 89 95 = σ62 89 95 ∧ σ121 89 96 = σ62 89 96) ∨ (v1 = 0 ∧ σ62 89 93 + σ62 89 95 < 999 ∧ r123 = σ62 89 93 + 1 ∧ σ121 89 93 = σ62 89 93 + 1 ∧ (2147483647 ≤ σ62 89 94 ∨ σ121 89 94 = σ62 89 94 + (1 : Int)) ∧ σ121 89 95 = σ62 89 95 ∧ σ121 89 96 = σ62 89 96) ∨ (v1 = 1 ∧ σ62 89 93 + σ62 89 95 < 999 ∧ r123 = σ62 89 95 + 1 ∧ σ121 89 95 = σ62 89 95 + 1 ∧ (2147483647 ≤ σ62 89 96 ∨ σ121 89 96 = σ62 89 96 + (1 : Int)) ∧ σ121 89 93 = σ62 89 93 ∧ σ121 89 94 = σ62 89 94) := q122_1
      have y124 : σ62 89 93 = τ 89 93 := (hGσ62 89 93 (show ¬ ((29 ≤ 89 ∧ 89 < 31)) from by omega))
      have f125 : (0 : Int) ≤ τ 89 93 ∧ τ 89 93 ≤ 999 := hIτ 89 93
      have y126 : σ62 89 94 = τ 89 94 := (hGσ62 89 94 (show ¬ ((29 ≤ 89 ∧ 89 < 31)) from by omega))
      have f127 : (-2147483648 : Int) ≤ τ 89 94 ∧ τ 89 94 ≤ 2147483647 := hIτ 89 94
      have y128 : σ62 89 95 = τ 89 95 := (hGσ62 89 95 (show ¬ ((29 ≤ 89 ∧ 89 < 31)) from by omega))
      have f129 : (0 : Int) ≤ τ 89 95 ∧ τ 89 95 ≤ 999 := hIτ 89 95
      have y130 : σ62 89 96 = τ 89 96 := (hGσ62 89 96 (show ¬ ((29 ≤ 89 ∧ 89 < 31)) from by omega))
      have f131 : (-2147483648 : Int) ≤ τ 89 96 ∧ τ 89 96 ≤ 2147483647 := hIτ 89 96
      refine j_st (st' := [vI r123]) rfl ?_
      have y132 : σ121 10 10 = τ 10 10 := ((hGσ121 10 10 (show ¬ ((10 = 89 ∧ 93 ≤ 10 ∧ 10 < 97)) from by omega))).trans (hGσ62 10 10 (show ¬ ((29 ≤ 10 ∧ 10 < 31)) from by omega))
      have bσ121 : BY σ121 := BY_kept bσ62 (fun j => hGσ121 11 j (show ¬ ((11 = 89 ∧ 93 ≤ j ∧ j < 97)) from by omega)) (fun j => hGσ121 98 j (show ¬ ((98 = 89 ∧ 93 ≤ j ∧ j < 97)) from by omega)) (by omega)
      have mσ121 : mI σ121 := q122_0
      have sσ121 : SR σ121 := SR_kept sσ62 (fun c j h => hGσ121 c j (show ¬ ((c = 89 ∧ 93 ≤ j ∧ j < 97)) from by omega)) (fun j => hGσ121 104 j (show ¬ ((104 = 89 ∧ 93 ≤ j ∧ j < 97)) from by omega)) (fun j => hGσ121 105 j (show ¬ ((105 = 89 ∧ 93 ≤ j ∧ j < 97)) from by omega))
      have stσ121 : ST σ121 := ST_F stσ62 (fun c j h => hGσ121 c j (show ¬ ((c = 89 ∧ 93 ≤ j ∧ j < 97)) from by unfold STR at h; omega))
      refine j_pop (pc := 972) dL_law_972 rfl ?_
      refine j_goto (pc := 973) (tgt := 1352) dL_law_973 rfl ?_
      have y133 : σ121 10 10 = τ 10 10 := ((hGσ121 10 10 (show ¬ ((10 = 89 ∧ 93 ≤ 10 ∧ 10 < 97)) from by omega))).trans (hGσ62 10 10 (show ¬ ((29 ≤ 10 ∧ 10 < 31)) from by omega))
      have y134 : σ121 88 12 = τ 88 12 := ((hGσ121 88 12 (show ¬ ((88 = 89 ∧ 93 ≤ 12 ∧ 12 < 97)) from by omega))).trans (hGσ62 88 12 (show ¬ ((29 ≤ 88 ∧ 88 < 31)) from by omega))
      have f135 : (0 : Int) ≤ τ 88 12 ∧ τ 88 12 ≤ 400 := hIτ 88 12
      have y136 : σ121 0 13 = τ 0 13 := ((hGσ121 0 13 (show ¬ ((0 = 89 ∧ 93 ≤ 13 ∧ 13 < 97)) from by omega))).trans (hGσ62 0 13 (show ¬ ((29 ≤ 0 ∧ 0 < 31)) from by omega))
      have f137 : (-2147483648 : Int) ≤ τ 0 13 ∧ τ 0 13 ≤ 2147483647 := hIτ 0 13
      have y138 : σ121 88 17 = τ 88 17 := ((hGσ121 88 17 (show ¬ ((88 = 89 ∧ 93 ≤ 17 ∧ 17 < 97)) from by omega))).trans (hGσ62 88 17 (show ¬ ((29 ≤ 88 ∧ 88 < 31)) from by omega))
      have f139 : (0 : Int) ≤ τ 88 17 ∧ τ 88 17 ≤ 5 := hIτ 88 17
      have y140 : σ121 31 6 = τ 31 6 := ((hGσ121 31 6 (show ¬ ((31 = 89 ∧ 93 ≤ 6 ∧ 6 < 97)) from by omega))).trans (hGσ62 31 6 (show ¬ ((29 ≤ 31 ∧ 31 < 31)) from by omega))
      have f141 : (0 : Int) ≤ τ 31 6 ∧ τ 31 6 ≤ 1 := hIτ 31 6
      have y142 : σ121 39 6 = τ 39 6 := ((hGσ121 39 6 (show ¬ ((39 = 89 ∧ 93 ≤ 6 ∧ 6 < 97)) from by omega))).trans (hGσ62 39 6 (show ¬ ((29 ≤ 39 ∧ 39 < 31)) from by omega))
      have f143 : (0 : Int) ≤ τ 39 6 ∧ τ 39 6 ≤ 1 := hIτ 39 6
      have y144 : σ121 90 0 = τ 90 0 := ((hGσ121 90 0 (show ¬ ((90 = 89 ∧ 93 ≤ 0 ∧ 0 < 97)) from by omega))).trans (hGσ62 90 0 (show ¬ ((29 ≤ 90 ∧ 90 < 31)) from by omega))
      have f145 : (0 : Int) ≤ τ 90 0 ∧ τ 90 0 ≤ 1 := hIτ 90 0
      have y146 : σ121 90 1 = τ 90 1 := ((hGσ121 90 1 (show ¬ ((90 = 89 ∧ 93 ≤ 1 ∧ 1 < 97)) from by omega))).trans (hGσ62 90 1 (show ¬ ((29 ≤ 90 ∧ 90 < 31)) from by omega))
      have f147 : (0 : Int) ≤ τ 90 1 ∧ τ 90 1 ≤ 1 := hIτ 90 1
      obtain ⟨t0, t1, t2, t3, t4, t5, t6, t7, t8, t9, t10, t11, t12, t13, t14, t15, t16, t17⟩ := tτ
      have y148 : σ121 29 0 = σ62 29 0 := (hGσ121 29 0 (show ¬ ((29 = 89 ∧ 93 ≤ 0 ∧ 0 < 97)) from by omega))
      have f149 : (0 : Int) ≤ σ62 29 0 ∧ σ62 29 0 ≤ 999 := hIσ62 29 0
      have y150 : σ121 30 0 = σ62 30 0 := (hGσ121 30 0 (show ¬ ((30 = 89 ∧ 93 ≤ 0 ∧ 0 < 97)) from by omega))
      have f151 : (-2147483648 : Int) ≤ σ62 30 0 ∧ σ62 30 0 ≤ 2147483647 := hIσ62 30 0
      have y152 : σ121 29 1 = σ62 29 1 := (hGσ121 29 1 (show ¬ ((29 = 89 ∧ 93 ≤ 1 ∧ 1 < 97)) from by omega))
      have f153 : (0 : Int) ≤ σ62 29 1 ∧ σ62 29 1 ≤ 999 := hIσ62 29 1
      have y154 : σ121 30 1 = σ62 30 1 := (hGσ121 30 1 (show ¬ ((30 = 89 ∧ 93 ≤ 1 ∧ 1 < 97)) from by omega))
      have f155 : (-2147483648 : Int) ≤ σ62 30 1 ∧ σ62 30 1 ≤ 2147483647 := hIσ62 30 1
      have y156 : σ121 37 0 = τ 37 0 := ((hGσ121 37 0 (show ¬ ((37 = 89 ∧ 93 ≤ 0 ∧ 0 < 97)) from by omega))).trans (hGσ62 37 0 (show ¬ ((29 ≤ 37 ∧ 37 < 31)) from by omega))
      have f157 : (0 : Int) ≤ τ 37 0 ∧ τ 37 0 ≤ 999 := hIτ 37 0
      have y158 : σ121 38 0 = τ 38 0 := ((hGσ121 38 0 (show ¬ ((38 = 89 ∧ 93 ≤ 0 ∧ 0 < 97)) from by omega))).trans (hGσ62 38 0 (show ¬ ((29 ≤ 38 ∧ 38 < 31)) from by omega))
      have f159 : (-2147483648 : Int) ≤ τ 38 0 ∧ τ 38 0 ≤ 2147483647 := hIτ 38 0
      have y160 : σ121 37 1 = τ 37 1 := ((hGσ121 37 1 (show ¬ ((37 = 89 ∧ 93 ≤ 1 ∧ 1 < 97)) from by omega))).trans (hGσ62 37 1 (show ¬ ((29 ≤ 37 ∧ 37 < 31)) from by omega))
      have f161 : (0 : Int) ≤ τ 37 1 ∧ τ 37 1 ≤ 999 := hIτ 37 1
      have y162 : σ121 38 1 = τ 38 1 := ((hGσ121 38 1 (show ¬ ((38 = 89 ∧ 93 ≤ 1 ∧ 1 < 97)) from by omega))).trans (hGσ62 38 1 (show ¬ ((29 ≤ 38 ∧ 38 < 31)) from by omega))
      have f163 : (-2147483648 : Int) ≤ τ 38 1 ∧ τ 38 1 ≤ 2147483647 := hIτ 38 1
      have y164 : σ121 45 0 = τ 45 0 := ((hGσ121 45 0 (show ¬ ((45 = 89 ∧ 93 ≤ 0 ∧ 0 < 97)) from by omega))).trans (hGσ62 45 0 (show ¬ ((29 ≤ 45 ∧ 45 < 31)) from by omega))
      have f165 : (0 : Int) ≤ τ 45 0 ∧ τ 45 0 ≤ 999 := hIτ 45 0
      have y166 : σ121 46 0 = τ 46 0 := ((hGσ121 46 0 (show ¬ ((46 = 89 ∧ 93 ≤ 0 ∧ 0 < 97)) from by omega))).trans (hGσ62 46 0 (show ¬ ((29 ≤ 46 ∧ 46 < 31)) from by omega))
      have f167 : (-2147483648 : Int) ≤ τ 46 0 ∧ τ 46 0 ≤ 2147483647 := hIτ 46 0
      have y168 : σ121 45 1 = τ 45 1 := ((hGσ121 45 1 (show ¬ ((45 = 89 ∧ 93 ≤ 1 ∧ 1 < 97)) from by omega))).trans (hGσ62 45 1 (show ¬ ((29 ≤ 45 ∧ 45 < 31)) from by omega))
      have f169 : (0 : Int) ≤ τ 45 1 ∧ τ 45 1 ≤ 999 := hIτ 45 1
      have y170 : σ121 46 1 = τ 46 1 := ((hGσ121 46 1 (show ¬ ((46 = 89 ∧ 93 ≤ 1 ∧ 1 < 97)) from by omega))).trans (hGσ62 46 1 (show ¬ ((29 ≤ 46 ∧ 46 < 31)) from by omega))
      have f171 : (-2147483648 : Int) ≤ τ 46 1 ∧ τ 46 1 ≤ 2147483647 := hIτ 46 1
      have u193 : σ121 89 193 = τ 89 193 := ((hGσ121 89 193 (show ¬ ((89 = 89 ∧ 93 ≤ 193 ∧ 193 < 97)) from by omega))).trans (hGσ62 89 193 (show ¬ ((29 ≤ 89 ∧ 89 < 31)) from by omega))
      have u194 : σ121 89 194 = τ 89 194 := ((hGσ121 89 194 (show ¬ ((89 = 89 ∧ 93 ≤ 194 ∧ 194 < 97)) from by omega))).trans (hGσ62 89 194 (show ¬ ((29 ≤ 89 ∧ 89 < 31)) from by omega))
      have u195 : σ121 89 195 = τ 89 195 := ((hGσ121 89 195 (show ¬ ((89 = 89 ∧ 93 ≤ 195 ∧ 195 < 97)) from by omega))).trans (hGσ62 89 195 (show ¬ ((29 ≤ 89 ∧ 89 < 31)) from by omega))
      have u196 : σ121 89 196 = τ 89 196 := ((hGσ121 89 196 (show ¬ ((89 = 89 ∧ 93 ≤ 196 ∧ 196 < 97)) from by omega))).trans (hGσ62 89 196 (show ¬ ((29 ≤ 89 ∧ 89 < 31)) from by omega))
      have u293 : σ121 89 293 = τ 89 293 := ((hGσ121 89 293 (show ¬ ((89 = 89 ∧ 93 ≤ 293 ∧ 293 < 97)) from by omega))).trans (hGσ62 89 293 (show ¬ ((29 ≤ 89 ∧ 89 < 31)) from by omega))
      have u294 : σ121 89 294 = τ 89 294 := ((hGσ121 89 294 (show ¬ ((89 = 89 ∧ 93 ≤ 294 ∧ 294 < 97)) from by omega))).trans (hGσ62 89 294 (show ¬ ((29 ≤ 89 ∧ 89 < 31)) from by omega))
      have u295 : σ121 89 295 = τ 89 295 := ((hGσ121 89 295 (show ¬ ((89 = 89 ∧ 93 ≤ 295 ∧ 295 < 97)) from by omega))).trans (hGσ62 89 295 (show ¬ ((29 ≤ 89 ∧ 89 < 31)) from by omega))
      have u296 : σ121 89 296 = τ 89 296 := ((hGσ121 89 296 (show ¬ ((89 = 89 ∧ 93 ≤ 296 ∧ 296 < 97)) from by omega))).trans (hGσ62 89 296 (show ¬ ((29 ≤ 89 ∧ 89 < 31)) from by omega))
      exact K σ121 hIσ121 ⟨mσ121, by omega, sσ121, bσ121, by omega, by omega, by omega, ⟨by clear t14 t15 t16 t17; omega, by clear t14 t15 t16 t17; omega, by clear t14 t15 t16 t17; omega, by clear t14 t15 t16 t17; omega, by clear t14 t15 t16 t17 q63_0 q122_1; omega, by clear t14 t15 t16 t17 q63_0 q122_1; omega, by clear t14 t15 t16 t17 q63_0 q122_1; omega, by clear t14 t15 t16 t17 q63_0 q122_1; omega, by clear t14 t15 t16 t17 q63_0 q122_1; omega, by clear t14 t15 t16 t17 q63_0 q122_1; omega, by clear t14 t15 t16 t17 q63_0 q122_1; omega, by clear t14 t15 t16 t17 q63_0 q122_1; omega, by clear t2 t3 t6 t7 t10 t11 t13 t15 t17; omega, by clear t0 t1 t4 t5 t8 t9 t12 t14 t16; omega, by clear t2 t3 t6 t7 t10 t11 t13 t15 t17 q63_0 q122_1; omega, by clear t0 t1 t4 t5 t8 t9 t12 t14 t16 q63_0 q122_1; omega, by clear t2 t3 t6 t7 t10 t11 t13 t15 t17 q63_0 q122_1; omega, by clear t0 t1 t4 t5 t8 t9 t12 t14 t16 q63_0 q122_1; omega⟩, stσ121⟩
set_option maxHeartbeats 4000000 in
set_option maxRecDepth 100000 in
theorem w_case_26 {G : tw_G} (hX : tw_isX G) (hM : tw_isM G) {E : List Frame → Array Value → State → State → Prop} (hN : (gN G : Int) ≤ 2560) (i : Int) (hi : 0 ≤ i ∧ i + 5 ≤ (gN G : Int)) (τ : tw_M) (hIτ : tw_I τ) (hL : tw_LI τ) (K : ∀ τ' : tw_M, tw_I τ' → tw_LI τ' → tw_J G tw_ML E 1352 [(0, vR 300), (1, vR 0), (2, vR 88), (3, vI i)] [] τ') : tw_J G tw_ML E 976 [(0, vR 300), (1, vR 0), (2, vR 88), (3, vI i)] [] τ := by
  obtain ⟨mτ, zτ, sτ, bτ, fτ, kτ0, kτ1, tτ, stτ⟩ := hL
  have g9 : (0 : Int) ≤ τ 10 10 ∧ τ 10 10 ≤ 400 := hIτ 10 10
  obtain ⟨v1, ev1⟩ : ∃ v : Int, v = (gxs G (i + 1).toNat).toInt := ⟨_, rfl⟩
  have hv1 : (-2147483648 : Int) ≤ v1 ∧ v1 ≤ 2147483647 := by rw [ev1]; exact i32_in _
  obtain ⟨v2, ev2⟩ : ∃ v : Int, v = (gxs G (i + 2).toNat).toInt := ⟨_, rfl⟩
  have hv2 : (-2147483648 : Int) ≤ v2 ∧ v2 ≤ 2147483647 := by rw [ev2]; exact i32_in _
  obtain ⟨v3, ev3⟩ : ∃ v : Int, v = (gxs G (i + 3).toNat).toInt := ⟨_, rfl⟩
  have hv3 : (-2147483648 : Int) ≤ v3 ∧ v3 ≤ 2147483647 := by rw [ev3]; exact i32_in _
  obtain ⟨v4, ev4⟩ : ∃ v : Int, v = (gxs G (i + 4).toNat).toInt := ⟨_, rfl⟩
  have hv4 : (-2147483648 : Int) ≤ v4 ∧ v4 ≤ 2147483647 := by rw [ev4]; exact i32_in _
  refine j_aload_n (pc := 976) dL_law_976 rfl rfl ?_
  refine j_aload_n (pc := 977) dL_law_977 rfl rfl ?_
  refine j_iload_n (pc := 978) dL_law_978 rfl rfl ?_
  refine j_iconst (pc := 979) dL_law_979 ?_
  refine j_iadd (pc := 980) dL_law_980 ?_
  refine j_scrAt (pc := 981) dL_law_981 (by omega) (by omega) (by omega) ?_
  refine j_topV (show _ = v1 from ev1.symm) ?_
  refine j_aload_n (pc := 982) dL_law_982 rfl rfl ?_
  refine j_iload_n (pc := 983) dL_law_983 rfl rfl ?_
  refine j_iconst (pc := 984) dL_law_984 ?_
  refine j_iadd (pc := 985) dL_law_985 ?_
  refine j_scrAt (pc := 986) dL_law_986 (by omega) (by omega) (by omega) ?_
  refine j_topV (show _ = v2 from ev2.symm) ?_
  refine j_callV (pc := 987) (As := [vI v1, vI v2]) (st := []) (c_X11_eye hX v1 ⟨by omega, by omega⟩ v2 ⟨by omega, by omega⟩ τ hIτ) mv_L_128 rfl rfl rfl (a_0 hX) dL_law_987 ⟨Nat.le_of_ble_eq_true rfl, Nat.le_of_ble_eq_true rfl⟩ ⟨Nat.le_of_ble_eq_true rfl, Nat.le_of_ble_eq_true rfl⟩ rfl (Nat.le_of_ble_eq_true rfl) rfl (fun z1 σ2 hz1 => ?_)
  obtain ⟨r4, rfl, hr4, hIσ2, hGσ2, q3_0⟩ := hz1
  replace q3_0 : (r4 = -1 ∧ ¬ ((v1 = 0 ∨ v1 = 1) ∧ (v2 = 0 ∨ v2 = 1))) ∨ (r4 = -4 ∧ ((v1 = 0 ∧ τ 29 0 = 0) ∨ (v1 = 1 ∧ τ 29 1 = 0)) ∧ (v2 = 0 ∨ v2 = 1)) ∨ (v1 = 0 ∧ (v2 = 0 ∨ v2 = 1) ∧ ¬ τ 29 0 = 0 ∧ r4 = EYX (τ 30 0) (τ 29 0) v2) ∨ (v1 = 1 ∧ (v2 = 0 ∨ v2 = 1) ∧ ¬ τ 29 1 = 0 ∧ r4 = EYX (τ 30 1) (τ 29 1) v2) := q3_0
  refine j_st (st' := [vI r4]) rfl ?_
  have y5 : σ2 10 10 = τ 10 10 := (hGσ2 10 10 (show ¬ ((10 = 58 ∧ (10 = 2 ∨ 10 = 3))) from by omega))
  have f6 : (0 : Int) ≤ τ 10 10 ∧ τ 10 10 ≤ 400 := hIτ 10 10
  have bσ2 : BY σ2 := BY_kept bτ (fun j => hGσ2 11 j (show ¬ ((11 = 58 ∧ (j = 2 ∨ j = 3))) from by omega)) (fun j => hGσ2 98 j (show ¬ ((98 = 58 ∧ (j = 2 ∨ j = 3))) from by omega)) (by omega)
  have mσ2 : mI σ2 := mI_kept mτ (fun j hj => hGσ2 89 j (show ¬ ((89 = 58 ∧ (j = 2 ∨ j = 3))) from by omega)) (fun j => hGσ2 90 j (show ¬ ((90 = 58 ∧ (j = 2 ∨ j = 3))) from by omega)) (hGσ2 91 0 (show ¬ ((91 = 58 ∧ (0 = 2 ∨ 0 = 3))) from by omega)) hIτ
  have sσ2 : SR σ2 := SR_kept sτ (fun c j h => hGσ2 c j (show ¬ ((c = 58 ∧ (j = 2 ∨ j = 3))) from by omega)) (fun j => hGσ2 104 j (show ¬ ((104 = 58 ∧ (j = 2 ∨ j = 3))) from by omega)) (fun j => hGσ2 105 j (show ¬ ((105 = 58 ∧ (j = 2 ∨ j = 3))) from by omega))
  have tσ2 : TT σ2 := TT_kept tτ (fun c j h => hGσ2 c j (show ¬ ((c = 58 ∧ (j = 2 ∨ j = 3))) from by omega)) (fun j h => hGσ2 89 j (show ¬ ((89 = 58 ∧ (j = 2 ∨ j = 3))) from by omega))
  have stσ2 : ST σ2 := ST_F stτ (fun c j h => hGσ2 c j (show ¬ ((c = 58 ∧ (j = 2 ∨ j = 3))) from by unfold STR at h; omega))
  refine j_pop (pc := 990) dL_law_990 rfl ?_
  refine j_aload_n (pc := 991) dL_law_991 rfl rfl ?_
  refine j_aload_n (pc := 992) dL_law_992 rfl rfl ?_
  refine j_iload_n (pc := 993) dL_law_993 rfl rfl ?_
  refine j_iconst (pc := 994) dL_law_994 ?_
  refine j_iadd (pc := 995) dL_law_995 ?_
  refine j_scrAt (pc := 996) dL_law_996 (by omega) (by omega) (by omega) ?_
  refine j_topV (show _ = v1 from ev1.symm) ?_
  refine j_aload_n (pc := 997) dL_law_997 rfl rfl ?_
  refine j_iload_n (pc := 998) dL_law_998 rfl rfl ?_
  refine j_iconst (pc := 999) dL_law_999 ?_
  refine j_iadd (pc := 1000) dL_law_1000 ?_
  refine j_scrAt (pc := 1001) dL_law_1001 (by omega) (by omega) (by omega) ?_
  refine j_topV (show _ = v2 from ev2.symm) ?_
  refine j_callV (pc := 1002) (As := [vI v1, vI v2]) (st := []) (c_X12_eye hM v1 ⟨by omega, by omega⟩ v2 ⟨by omega, by omega⟩ σ2 hIσ2) mv_L_131 rfl rfl rfl (a_88 hM) dL_law_1002 ⟨Nat.le_of_ble_eq_true rfl, Nat.le_of_ble_eq_true rfl⟩ ⟨Nat.le_of_ble_eq_true rfl, Nat.le_of_ble_eq_true rfl⟩ rfl (Nat.le_of_ble_eq_true rfl) rfl (fun z7 σ8 hz7 => ?_)
  obtain ⟨r10, rfl, hr10, rfl, q9_0⟩ := hz7
  replace q9_0 : (r10 = -1 ∧ ¬ ((v1 = 0 ∨ v1 = 1) ∧ (v2 = 0 ∨ v2 = 1))) ∨ (r10 = -4 ∧ ((v1 = 0 ∧ σ2 89 93 = 0) ∨ (v1 = 1 ∧ σ2 89 95 = 0)) ∧ (v2 = 0 ∨ v2 = 1)) ∨ (v1 = 0 ∧ (v2 = 0 ∨ v2 = 1) ∧ ¬ σ2 89 93 = 0 ∧ r10 = EYM (σ2 89 94) (σ2 89 93) v2) ∨ (v1 = 1 ∧ (v2 = 0 ∨ v2 = 1) ∧ ¬ σ2 89 95 = 0 ∧ r10 = EYM (σ2 89 96) (σ2 89 95) v2) := q9_0
  have y11 : σ2 89 93 = τ 89 93 := (hGσ2 89 93 (show ¬ ((89 = 58 ∧ (93 = 2 ∨ 93 = 3))) from by omega))
  have f12 : (0 : Int) ≤ τ 89 93 ∧ τ 89 93 ≤ 999 := hIτ 89 93
  have y13 : σ2 89 95 = τ 89 95 := (hGσ2 89 95 (show ¬ ((89 = 58 ∧ (95 = 2 ∨ 95 = 3))) from by omega))
  have f14 : (0 : Int) ≤ τ 89 95 ∧ τ 89 95 ≤ 999 := hIτ 89 95
  have y15 : σ2 89 94 = τ 89 94 := (hGσ2 89 94 (show ¬ ((89 = 58 ∧ (94 = 2 ∨ 94 = 3))) from by omega))
  have f16 : (-2147483648 : Int) ≤ τ 89 94 ∧ τ 89 94 ≤ 2147483647 := hIτ 89 94
  have y17 : σ2 89 96 = τ 89 96 := (hGσ2 89 96 (show ¬ ((89 = 58 ∧ (96 = 2 ∨ 96 = 3))) from by omega))
  have f18 : (-2147483648 : Int) ≤ τ 89 96 ∧ τ 89 96 ≤ 2147483647 := hIτ 89 96
  refine j_st (st' := [vI r10]) rfl ?_
  refine j_pop (pc := 1005) dL_law_1005 rfl ?_
  refine j_goto (pc := 1006) (tgt := 1352) dL_law_1006 rfl ?_
  have y19 : σ2 10 10 = τ 10 10 := (hGσ2 10 10 (show ¬ ((10 = 58 ∧ (10 = 2 ∨ 10 = 3))) from by omega))
  have y20 : σ2 88 12 = τ 88 12 := (hGσ2 88 12 (show ¬ ((88 = 58 ∧ (12 = 2 ∨ 12 = 3))) from by omega))
  have f21 : (0 : Int) ≤ τ 88 12 ∧ τ 88 12 ≤ 400 := hIτ 88 12
  have y22 : σ2 0 13 = τ 0 13 := (hGσ2 0 13 (show ¬ ((0 = 58 ∧ (13 = 2 ∨ 13 = 3))) from by omega))
  have f23 : (-2147483648 : Int) ≤ τ 0 13 ∧ τ 0 13 ≤ 2147483647 := hIτ 0 13
  have y24 : σ2 88 17 = τ 88 17 := (hGσ2 88 17 (show ¬ ((88 = 58 ∧ (17 = 2 ∨ 17 = 3))) from by omega))
  have f25 : (0 : Int) ≤ τ 88 17 ∧ τ 88 17 ≤ 5 := hIτ 88 17
  have y26 : σ2 31 6 = τ 31 6 := (hGσ2 31 6 (show ¬ ((31 = 58 ∧ (6 = 2 ∨ 6 = 3))) from by omega))
  have f27 : (0 : Int) ≤ τ 31 6 ∧ τ 31 6 ≤ 1 := hIτ 31 6
  have y28 : σ2 39 6 = τ 39 6 := (hGσ2 39 6 (show ¬ ((39 = 58 ∧ (6 = 2 ∨ 6 = 3))) from by omega))
  have f29 : (0 : Int) ≤ τ 39 6 ∧ τ 39 6 ≤ 1 := hIτ 39 6
  have y30 : σ2 90 0 = τ 90 0 := (hGσ2 90 0 (show ¬ ((90 = 58 ∧ (0 = 2 ∨ 0 = 3))) from by omega))
  have f31 : (0 : Int) ≤ τ 90 0 ∧ τ 90 0 ≤ 1 := hIτ 90 0
  have y32 : σ2 90 1 = τ 90 1 := (hGσ2 90 1 (show ¬ ((90 = 58 ∧ (1 = 2 ∨ 1 = 3))) from by omega))
  have f33 : (0 : Int) ≤ τ 90 1 ∧ τ 90 1 ≤ 1 := hIτ 90 1
  exact K σ2 hIσ2 ⟨mσ2, by omega, sσ2, bσ2, by omega, by omega, by omega, tσ2, stσ2⟩
