/-! 21ae.main -/
theorem dX11_drag_0 : decode cX11_drag 0 = .ok (.aload_n 0, 1) := by decide +kernel
theorem dX11_drag_1 : decode cX11_drag 1 = .ok (.getfield 26, 3) := by decide +kernel
theorem dX11_drag_4 : decode cX11_drag 4 = .ok (.getfield 168, 3) := by decide +kernel
theorem dX11_drag_7 : decode cX11_drag 7 = .ok (.astore_n 2, 1) := by decide +kernel
theorem dX11_drag_8 : decode cX11_drag 8 = .ok (.iload_n 1, 1) := by decide +kernel
theorem dX11_drag_9 : decode cX11_drag 9 = .ok (.tableswitch 65 0 2 #[27, 36, 45], 27) := by decide +kernel
theorem dX11_drag_36 : decode cX11_drag 36 = .ok (.aload_n 2, 1) := by decide +kernel
theorem dX11_drag_37 : decode cX11_drag 37 = .ok (.aload_n 0, 1) := by decide +kernel
theorem dX11_drag_38 : decode cX11_drag 38 = .ok (.getfield 10, 3) := by decide +kernel
theorem dX11_drag_41 : decode cX11_drag 41 = .ok (.invokevirtual 320, 3) := by decide +kernel
theorem dX11_drag_44 : decode cX11_drag 44 = .ok (.ireturn, 1) := by decide +kernel
theorem dX11_drag_45 : decode cX11_drag 45 = .ok (.aload_n 2, 1) := by decide +kernel
theorem dX11_drag_46 : decode cX11_drag 46 = .ok (.aload_n 0, 1) := by decide +kernel
theorem dX11_drag_47 : decode cX11_drag 47 = .ok (.getfield 10, 3) := by decide +kernel
theorem dX11_drag_50 : decode cX11_drag 50 = .ok (.invokevirtual 324, 3) := by decide +kernel
theorem dX11_drag_53 : decode cX11_drag 53 = .ok (.ireturn, 1) := by decide +kernel
theorem dX11_drag_54 : decode cX11_drag 54 = .ok (.aload_n 0, 1) := by decide +kernel
theorem dX11_drag_55 : decode cX11_drag 55 = .ok (.getfield 10, 3) := by decide +kernel
theorem dX11_drag_58 : decode cX11_drag 58 = .ok (.invokevirtual 327, 3) := by decide +kernel
theorem dX11_drag_61 : decode cX11_drag 61 = .ok (.aload_n 2, 1) := by decide +kernel
theorem dX11_drag_62 : decode cX11_drag 62 = .ok (.aload_n 0, 1) := by decide +kernel
theorem dX11_drag_63 : decode cX11_drag 63 = .ok (.getfield 10, 3) := by decide +kernel
theorem dX11_drag_66 : decode cX11_drag 66 = .ok (.invokevirtual 320, 3) := by decide +kernel
theorem dX11_drag_69 : decode cX11_drag 69 = .ok (.bipush 10, 2) := by decide +kernel
theorem dX11_drag_71 : decode cX11_drag 71 = .ok (.idiv, 1) := by decide +kernel
theorem dX11_drag_72 : decode cX11_drag 72 = .ok (.iadd, 1) := by decide +kernel
theorem dX11_drag_73 : decode cX11_drag 73 = .ok (.ireturn, 1) := by decide +kernel
theorem dX11_drag_74 : decode cX11_drag 74 = .ok (.iconst (-1), 1) := by decide +kernel
theorem dX11_drag_75 : decode cX11_drag 75 = .ok (.ireturn, 1) := by decide +kernel
abbrev q_X11_drag (w : Int) (σ : tw_M) : Option tw_V → tw_M → Prop := fun z τ => ∃ r : Int, z = some (vI r) ∧ (-2147483648 ≤ r ∧ r ≤ 2147483647) ∧ σ = τ ∧ True
set_option maxHeartbeats 4000000 in
set_option maxRecDepth 100000 in
theorem c_X11_drag {G : tw_G} (hX : tw_isX G) (w : Int) (hw : -2147483648 ≤ w ∧ w ≤ 2147483647) (σ : tw_M) (hI : tw_I σ) : tw_C G yX11_drag cX11_drag 3 (some .int) 5 [vR 0, vI w] σ (q_X11_drag w σ) := by
  refine tw_met [(0, vR 0), (1, vI w)] (by decide +kernel) rfl (Nat.le_of_ble_eq_true rfl) ?_
  refine j_aload_n (pc := 0) dX11_drag_0 rfl rfl ?_
  refine j_getR (pc := 1) (r := 23) fl_X11_26 dX11_drag_1 (a_0 hX) rfl ?_
  refine j_getR (pc := 4) (r := 24) fl_X11_168 dX11_drag_4 (a_23 hX) rfl ?_
  refine j_astore_n (pc := 7) (i := 2) (ls' := [(0, vR 0), (1, vI w), (2, vR 24)]) [1, 2, 0] dX11_drag_7 rfl (Nat.le_of_ble_eq_true rfl) rfl rfl ?_
  refine j_iload_n (pc := 8) dX11_drag_8 rfl rfl ?_
  rcases (show w < 0 ∨ w = 0 ∨ w = 1 ∨ w = 2 ∨ 2 < w from by omega) with h1 | h1 | h1 | h1 | h1
  · refine j_tsOut (pc := 9) (tgt := 74) dX11_drag_9 ⟨by omega, by omega⟩ (Or.inl h1) rfl ?_
    refine j_iconst (pc := 74) dX11_drag_74 ?_
    exact j_iret (pc := 75) ⟨rfl, rfl⟩ dX11_drag_75 rfl ⟨_, rfl, ⟨by omega, by omega⟩, rfl, trivial⟩
  · refine j_tsIn (pc := 9) (tgt := 36) 0 dX11_drag_9 h1 (by decide) ⟨by decide, by decide⟩ rfl rfl ?_
    refine j_aload_n (pc := 36) dX11_drag_36 rfl rfl ?_
    refine j_aload_n (pc := 37) dX11_drag_37 rfl rfl ?_
    refine j_getR (pc := 38) (r := 1) fl_X11_10 dX11_drag_38 (a_0 hX) rfl ?_
    refine j_callV (pc := 41) (As := [vR 1]) (st := []) (c_X7_dragOf 24 (s_Row_24 hX) 1 (s_Wall_1 hX) σ hI) mv_X11_320 rfl rfl rfl (a_24 hX) dX11_drag_41 ⟨Nat.le_of_ble_eq_true rfl, Nat.le_of_ble_eq_true rfl⟩ ⟨Nat.le_refl _, Nat.le_refl _⟩ rfl (Nat.le_of_ble_eq_true rfl) rfl (fun z2 σ3 hz2 => ?_)
    obtain ⟨r5, rfl, hr5, rfl, -⟩ := hz2
    refine j_st (st' := [vI r5]) rfl ?_
    exact j_iret (pc := 44) ⟨rfl, rfl⟩ dX11_drag_44 rfl ⟨_, rfl, ⟨by omega, by omega⟩, rfl, trivial⟩
  · refine j_tsIn (pc := 9) (tgt := 45) 1 dX11_drag_9 h1 (by decide) ⟨by decide, by decide⟩ rfl rfl ?_
    refine j_aload_n (pc := 45) dX11_drag_45 rfl rfl ?_
    refine j_aload_n (pc := 46) dX11_drag_46 rfl rfl ?_
    refine j_getR (pc := 47) (r := 1) fl_X11_10 dX11_drag_47 (a_0 hX) rfl ?_
    refine j_callV (pc := 50) (As := [vR 1]) (st := []) (c_X7_liftedOf 24 (s_Row_24 hX) 1 (s_Wall_1 hX) σ hI) mv_X11_324 rfl rfl rfl (a_24 hX) dX11_drag_50 ⟨Nat.le_of_ble_eq_true rfl, Nat.le_of_ble_eq_true rfl⟩ ⟨Nat.le_refl _, Nat.le_refl _⟩ rfl (Nat.le_of_ble_eq_true rfl) rfl (fun z6 σ7 hz6 => ?_)
    obtain ⟨r9, rfl, hr9, rfl, -⟩ := hz6
    refine j_st (st' := [vI r9]) rfl ?_
    exact j_iret (pc := 53) ⟨rfl, rfl⟩ dX11_drag_53 rfl ⟨_, rfl, ⟨by omega, by omega⟩, rfl, trivial⟩
  · refine j_tsIn (pc := 9) (tgt := 54) 2 dX11_drag_9 h1 (by decide) ⟨by decide, by decide⟩ rfl rfl ?_
    refine j_aload_n (pc := 54) dX11_drag_54 rfl rfl ?_
    refine j_getR (pc := 55) (r := 1) fl_X11_10 dX11_drag_55 (a_0 hX) rfl ?_
    refine j_callV (pc := 58) (As := []) (st := []) (c_X10_top 1 (s_Wall_1 hX) σ hI) mv_X11_327 rfl rfl rfl (a_1 hX) dX11_drag_58 ⟨Nat.le_of_ble_eq_true rfl, Nat.le_of_ble_eq_true rfl⟩ ⟨Nat.le_refl _, Nat.le_refl _⟩ rfl (Nat.le_of_ble_eq_true rfl) rfl (fun z10 σ11 hz10 => ?_)
    obtain ⟨r13, rfl, hr13, rfl, q12_0⟩ := hz10
    replace q12_0 : r13 = σ 2 0 := q12_0
    refine j_st (st' := [vI r13]) rfl ?_
    refine j_aload_n (pc := 61) dX11_drag_61 rfl rfl ?_
    refine j_aload_n (pc := 62) dX11_drag_62 rfl rfl ?_
    refine j_getR (pc := 63) (r := 1) fl_X11_10 dX11_drag_63 (a_0 hX) rfl ?_
    refine j_callV (pc := 66) (As := [vR 1]) (st := [vI r13]) (c_X7_dragOf 24 (s_Row_24 hX) 1 (s_Wall_1 hX) σ hI) mv_X11_320 rfl rfl rfl (a_24 hX) dX11_drag_66 ⟨Nat.le_of_ble_eq_true rfl, Nat.le_of_ble_eq_true rfl⟩ ⟨Nat.le_refl _, Nat.le_refl _⟩ rfl (Nat.le_of_ble_eq_true rfl) rfl (fun z14 σ15 hz14 => ?_)
    obtain ⟨r17, rfl, hr17, rfl, -⟩ := hz14
    refine j_st (st' := [vI r17, vI r13]) rfl ?_
    refine j_bipush (pc := 69) dX11_drag_69 rfl ?_
    refine j_idiv (pc := 71) dX11_drag_71 (tw_nz ⟨by omega, by omega⟩ (by omega)) (fun z18 ez18 => ?_)
    have hz18 : (-2147483648 : Int) ≤ z18 ∧ z18 ≤ 2147483647 := by rw [ez18]; exact div_in _ _
    have gz18 : z18 = r17 / 10 := by rw [ez18]; exact div_pos_eq (by omega) (by omega) (by omega) (by omega)
    refine j_iadd (pc := 72) dX11_drag_72 ?_
    exact j_iret (pc := 73) ⟨rfl, rfl⟩ dX11_drag_73 rfl ⟨_, rfl, ⟨by omega, by omega⟩, rfl, trivial⟩
  · refine j_tsOut (pc := 9) (tgt := 74) dX11_drag_9 ⟨by omega, by omega⟩ (Or.inr h1) rfl ?_
    refine j_iconst (pc := 74) dX11_drag_74 ?_
    exact j_iret (pc := 75) ⟨rfl, rfl⟩ dX11_drag_75 rfl ⟨_, rfl, ⟨by omega, by omega⟩, rfl, trivial⟩
