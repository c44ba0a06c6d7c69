set_option maxHeartbeats 4000000 in
set_option maxRecDepth 100000 in
theorem w_loop {G : tw_G} (hX : tw_isX G) (hM : tw_isM G) {E : List Frame → Array Value → State → State → Prop} (hN : (gN G : Int) ≤ 2560) (hE : ∀ τ : tw_M, tw_J G tw_ML E 1359 [] [vI 1] τ) : ∀ N_ : Nat, ∀ (i : Int) (hi : 0 ≤ i ∧ i ≤ 2560) (τ : tw_M) (hIτ : tw_I τ) (hL : tw_LI τ) (hm : (2600 - i).toNat < N_), tw_J G tw_ML E 18 [(0, vR 300), (1, vR 0), (2, vR 88), (3, vI i)] [] τ := by
  intro N_
  induction N_ with
  | zero => exact fun i hi τ hIτ hL hm => absurd hm (Nat.not_lt_zero _)
  | succ N_ ih =>
    intro i hi τ hIτ hL hm
    refine j_iload_n (pc := 18) dL_law_18 rfl rfl ?_
    refine j_aload_n (pc := 19) dL_law_19 rfl rfl ?_
    refine j_scrLen (pc := 20) dL_law_20 ?_
    refine j_iconst (pc := 21) dL_law_21 ?_
    refine j_isub (pc := 22) dL_law_22 ?_
    refine j_icmpR_gt (pc := 23) (tgt := 1358) ⟨by omega, by omega⟩ ⟨by omega, by omega⟩ dL_law_23 rfl (fun h1 => ?_) (fun h1 => ?_)
    · refine j_iconst (pc := 1358) dL_law_1358 ?_
      exact j_ls (ls' := []) [] rfl (hE τ)
    · refine j_aload_n (pc := 26) dL_law_26 rfl rfl ?_
      refine j_iload_n (pc := 27) dL_law_27 rfl rfl ?_
      refine j_scrAt (pc := 28) dL_law_28 (by omega) (by omega) (by omega) ?_
      have f1 : (-2147483648 : Int) ≤ (gxs G i.toNat).toInt ∧ (gxs G i.toNat).toInt ≤ 2147483647 := i32_in _
      refine j_bipush (pc := 29) dL_law_29 rfl ?_
      refine j_iand (pc := 31) dL_law_31 (fun z2 ez2 => ?_)
      have hz2 : (-2147483648 : Int) ≤ z2 ∧ z2 ≤ 2147483647 := by rw [ez2]; exact and_in _ _
      have K : ∀ τ' : tw_M, tw_I τ' → tw_LI τ' → tw_J G tw_ML E 1352 [(0, vR 300), (1, vR 0), (2, vR 88), (3, vI i)] [] τ' := by
        intro τ' hI' hL'
        refine j_iinc (pc := 1352) (i := 3) (n := 5) (ls' := [(0, vR 300), (1, vR 0), (2, vR 88), (3, vI (i + 5))]) [1, 2, 3, 0] dL_law_1352 rfl (Nat.le_of_ble_eq_true rfl) rfl rfl ?_
        refine j_goto (pc := 1355) (tgt := 18) dL_law_1355 rfl ?_
        exact ih (i + 5) ⟨by omega, by omega⟩ τ' hI' hL' (by omega)
      rcases (show z2 < 0 ∨ z2 = 0 ∨ z2 = 1 ∨ z2 = 2 ∨ z2 = 3 ∨ z2 = 4 ∨ z2 = 5 ∨ z2 = 6 ∨ z2 = 7 ∨ z2 = 8 ∨ z2 = 9 ∨ z2 = 10 ∨ z2 = 11 ∨ z2 = 12 ∨ z2 = 13 ∨ z2 = 14 ∨ z2 = 15 ∨ z2 = 16 ∨ z2 = 17 ∨ z2 = 18 ∨ z2 = 19 ∨ z2 = 20 ∨ z2 = 21 ∨ z2 = 22 ∨ z2 = 23 ∨ z2 = 24 ∨ z2 = 25 ∨ z2 = 26 ∨ z2 = 27 ∨ z2 = 28 ∨ z2 = 29 ∨ z2 = 30 ∨ z2 = 31 ∨ z2 = 32 ∨ z2 = 33 ∨ z2 = 34 ∨ z2 = 35 ∨ z2 = 36 ∨ z2 = 37 ∨ 37 < z2 from by omega) with h9 | h9 | h9 | h9 | h9 | h9 | h9 | h9 | h9 | h9 | h9 | h9 | h9 | h9 | h9 | h9 | h9 | h9 | h9 | h9 | h9 | h9 | h9 | h9 | h9 | h9 | h9 | h9 | h9 | h9 | h9 | h9 | h9 | h9 | h9 | h9 | h9 | h9 | h9 | h9
      · refine j_tsOut (pc := 32) (tgt := 1352) dL_law_32 ⟨by omega, by omega⟩ (Or.inl h9) rfl ?_
        exact K τ hIτ hL
      · refine j_tsIn (pc := 32) (tgt := 200) 0 dL_law_32 h9 (by decide) ⟨by decide, by decide⟩ rfl rfl ?_
        exact w_case_0 hX hM hN i ⟨by omega, by omega⟩ τ hIτ hL K
      · refine j_tsIn (pc := 32) (tgt := 253) 1 dL_law_32 h9 (by decide) ⟨by decide, by decide⟩ rfl rfl ?_
        exact w_case_1 hX hM hN i ⟨by omega, by omega⟩ τ hIτ hL K
      · refine j_tsIn (pc := 32) (tgt := 276) 2 dL_law_32 h9 (by decide) ⟨by decide, by decide⟩ rfl rfl ?_
        exact w_case_2 hX hM hN i ⟨by omega, by omega⟩ τ hIτ hL K
      · refine j_tsIn (pc := 32) (tgt := 289) 3 dL_law_32 h9 (by decide) ⟨by decide, by decide⟩ rfl rfl ?_
        exact w_case_3 hX hM hN i ⟨by omega, by omega⟩ τ hIτ hL K
      · refine j_tsIn (pc := 32) (tgt := 302) 4 dL_law_32 h9 (by decide) ⟨by decide, by decide⟩ rfl rfl ?_
        exact w_case_4 hX hM hN i ⟨by omega, by omega⟩ τ hIτ hL K
      · refine j_tsIn (pc := 32) (tgt := 325) 5 dL_law_32 h9 (by decide) ⟨by decide, by decide⟩ rfl rfl ?_
        exact w_case_5 hX hM hN i ⟨by omega, by omega⟩ τ hIτ hL K
      · refine j_tsIn (pc := 32) (tgt := 358) 6 dL_law_32 h9 (by decide) ⟨by decide, by decide⟩ rfl rfl ?_
        exact w_case_6 hX hM hN i ⟨by omega, by omega⟩ τ hIτ hL K
      · refine j_tsIn (pc := 32) (tgt := 391) 7 dL_law_32 h9 (by decide) ⟨by decide, by decide⟩ rfl rfl ?_
        exact w_case_7 hX hM hN i ⟨by omega, by omega⟩ τ hIτ hL K
      · refine j_tsIn (pc := 32) (tgt := 414) 8 dL_law_32 h9 (by decide) ⟨by decide, by decide⟩ rfl rfl ?_
        exact w_case_8 hX hM hN i ⟨by omega, by omega⟩ τ hIτ hL K
      · refine j_tsIn (pc := 32) (tgt := 463) 9 dL_law_32 h9 (by decide) ⟨by decide, by decide⟩ rfl rfl ?_
        exact w_case_9 hX hM hN i ⟨by omega, by omega⟩ τ hIτ hL K
      · refine j_tsIn (pc := 32) (tgt := 496) 10 dL_law_32 h9 (by decide) ⟨by decide, by decide⟩ rfl rfl ?_
        exact w_case_10 hX hM hN i ⟨by omega, by omega⟩ τ hIτ hL K
      · refine j_tsIn (pc := 32) (tgt := 509) 11 dL_law_32 h9 (by decide) ⟨by decide, by decide⟩ rfl rfl ?_
        exact w_case_11 hX hM hN i ⟨by omega, by omega⟩ τ hIτ hL K
      · refine j_tsIn (pc := 32) (tgt := 552) 12 dL_law_32 h9 (by decide) ⟨by decide, by decide⟩ rfl rfl ?_
        exact w_case_12 hX hM hN i ⟨by omega, by omega⟩ τ hIτ hL K
      · refine j_tsIn (pc := 32) (tgt := 595) 13 dL_law_32 h9 (by decide) ⟨by decide, by decide⟩ rfl rfl ?_
        exact w_case_13 hX hM hN i ⟨by omega, by omega⟩ τ hIτ hL K
      · refine j_tsIn (pc := 32) (tgt := 628) 14 dL_law_32 h9 (by decide) ⟨by decide, by decide⟩ rfl rfl ?_
        exact w_case_14 hX hM hN i ⟨by omega, by omega⟩ τ hIτ hL K
      · refine j_tsIn (pc := 32) (tgt := 651) 15 dL_law_32 h9 (by decide) ⟨by decide, by decide⟩ rfl rfl ?_
        exact w_case_15 hX hM hN i ⟨by omega, by omega⟩ τ hIτ hL K
      · refine j_tsIn (pc := 32) (tgt := 664) 16 dL_law_32 h9 (by decide) ⟨by decide, by decide⟩ rfl rfl ?_
        exact w_case_16 hX hM hN i ⟨by omega, by omega⟩ τ hIτ hL K
      · refine j_tsIn (pc := 32) (tgt := 687) 17 dL_law_32 h9 (by decide) ⟨by decide, by decide⟩ rfl rfl ?_
        exact w_case_17 hX hM hN i ⟨by omega, by omega⟩ τ hIτ hL K
      · refine j_tsIn (pc := 32) (tgt := 720) 18 dL_law_32 h9 (by decide) ⟨by decide, by decide⟩ rfl rfl ?_
        exact w_case_18 hX hM hN i ⟨by omega, by omega⟩ τ hIτ hL K
      · refine j_tsIn (pc := 32) (tgt := 743) 19 dL_law_32 h9 (by decide) ⟨by decide, by decide⟩ rfl rfl ?_
        exact w_case_19 hX hM hN i ⟨by omega, by omega⟩ τ hIτ hL K
      · refine j_tsIn (pc := 32) (tgt := 756) 20 dL_law_32 h9 (by decide) ⟨by decide, by decide⟩ rfl rfl ?_
        exact w_case_20 hX hM hN i ⟨by omega, by omega⟩ τ hIτ hL K
      · refine j_tsIn (pc := 32) (tgt := 779) 21 dL_law_32 h9 (by decide) ⟨by decide, by decide⟩ rfl rfl ?_
        exact w_case_21 hX hM hN i ⟨by omega, by omega⟩ τ hIτ hL K
      · refine j_tsIn (pc := 32) (tgt := 812) 22 dL_law_32 h9 (by decide) ⟨by decide, by decide⟩ rfl rfl ?_
        exact w_case_22 hX hM hN i ⟨by omega, by omega⟩ τ hIτ hL K
      · refine j_tsIn (pc := 32) (tgt := 835) 23 dL_law_32 h9 (by decide) ⟨by decide, by decide⟩ rfl rfl ?_
        exact w_case_23 hX hM hN i ⟨by omega, by omega⟩ τ hIτ hL K
      · refine j_tsIn (pc := 32) (tgt := 904) 24 dL_law_32 h9 (by decide) ⟨by decide, by decide⟩ rfl rfl ?_
        exact w_case_24 hX hM hN i ⟨by omega, by omega⟩ τ hIτ hL K
      · refine j_tsIn (pc := 32) (tgt := 927) 25 dL_law_32 h9 (by decide) ⟨by decide, by decide⟩ rfl rfl ?_
        exact w_case_25 hX hM hN i ⟨by omega, by omega⟩ τ hIτ hL K
      · refine j_tsIn (pc := 32) (tgt := 976) 26 dL_law_32 h9 (by decide) ⟨by decide, by decide⟩ rfl rfl ?_
        exact w_case_26 hX hM hN i ⟨by omega, by omega⟩ τ hIτ hL K
      · refine j_tsIn (pc := 32) (tgt := 1009) 27 dL_law_32 h9 (by decide) ⟨by decide, by decide⟩ rfl rfl ?_
        exact w_case_27 hX hM hN i ⟨by omega, by omega⟩ τ hIτ hL K
      · refine j_tsIn (pc := 32) (tgt := 1022) 28 dL_law_32 h9 (by decide) ⟨by decide, by decide⟩ rfl rfl ?_
        exact w_case_28 hX hM hN i ⟨by omega, by omega⟩ τ hIτ hL K
      · refine j_tsIn (pc := 32) (tgt := 1055) 29 dL_law_32 h9 (by decide) ⟨by decide, by decide⟩ rfl rfl ?_
        exact w_case_29 hX hM hN i ⟨by omega, by omega⟩ τ hIτ hL K
      · refine j_tsIn (pc := 32) (tgt := 1108) 30 dL_law_32 h9 (by decide) ⟨by decide, by decide⟩ rfl rfl ?_
        exact w_case_30 hX hM hN i ⟨by omega, by omega⟩ τ hIτ hL K
      · refine j_tsIn (pc := 32) (tgt := 1131) 31 dL_law_32 h9 (by decide) ⟨by decide, by decide⟩ rfl rfl ?_
        exact w_case_31 hX hM hN i ⟨by omega, by omega⟩ τ hIτ hL K
      · refine j_tsIn (pc := 32) (tgt := 1154) 32 dL_law_32 h9 (by decide) ⟨by decide, by decide⟩ rfl rfl ?_
        exact w_case_32 hX hM hN i ⟨by omega, by omega⟩ τ hIτ hL K
      · refine j_tsIn (pc := 32) (tgt := 1177) 33 dL_law_32 h9 (by decide) ⟨by decide, by decide⟩ rfl rfl ?_
        exact w_case_33 hX hM hN i ⟨by omega, by omega⟩ τ hIτ hL K
      · refine j_tsIn (pc := 32) (tgt := 1220) 34 dL_law_32 h9 (by decide) ⟨by decide, by decide⟩ rfl rfl ?_
        exact w_case_34 hX hM hN i ⟨by omega, by omega⟩ τ hIτ hL K
      · refine j_tsIn (pc := 32) (tgt := 1263) 35 dL_law_32 h9 (by decide) ⟨by decide, by decide⟩ rfl rfl ?_
        exact w_case_35 hX hM hN i ⟨by omega, by omega⟩ τ hIτ hL K
      · refine j_tsIn (pc := 32) (tgt := 1316) 36 dL_law_32 h9 (by decide) ⟨by decide, by decide⟩ rfl rfl ?_
        exact w_case_36 hX hM hN i ⟨by omega, by omega⟩ τ hIτ hL K
      · refine j_tsIn (pc := 32) (tgt := 1329) 37 dL_law_32 h9 (by decide) ⟨by decide, by decide⟩ rfl rfl ?_
        exact w_case_37 hX hM hN i ⟨by omega, by omega⟩ τ hIτ hL K
      · refine j_tsOut (pc := 32) (tgt := 1352) dL_law_32 ⟨by omega, by omega⟩ (Or.inr h9) rfl ?_
        exact K τ hIτ hL
