/-! THE SAME OF THE REFERENCE. -/
theorem madv_no {σ : tw_M} (h : ¬ σ 88 17 = 0) : aM σ = tok (fM σ) (aM σ) := (tok_pF (by rw [aM_4]; exact h)).symm
theorem madv_end {σ τ : tw_M} (h0 : σ 88 17 = 0) (hd : drM τ = drM σ) (h1 : τ 88 17 = 0) (hs : τ 88 14 = run isS (fM σ) (σ 88 13)) (h : fM σ (τ 88 14) < 0) (hk : τ 88 15 = 0) (hp : τ 88 13 = τ 88 14) : aM τ = tok (fM σ) (aM σ) := by
  rw [aM_ok h0, aM_ok h1, hd, hk, hp]
  exact (tok_end hs h).symm
theorem madv_name {σ τ : tw_M} (h0 : σ 88 17 = 0) (hd : drM τ = drM σ) (h1 : τ 88 17 = 0) (hs : τ 88 14 = run isS (fM σ) (σ 88 13)) (h : 97 ≤ fM σ (τ 88 14) ∧ fM σ (τ 88 14) ≤ 122) (hk : τ 88 15 = 1) (hp : τ 88 13 = run isL (fM σ) (τ 88 14)) : aM τ = tok (fM σ) (aM σ) := by
  rw [aM_ok h0, aM_ok h1, hd, hk]
  exact (tok_name hs h hp).symm
theorem madv_num {σ τ : tw_M} (h0 : σ 88 17 = 0) (hd : drM τ = drM σ) (h1 : τ 88 17 = 0) (hs : τ 88 14 = run isS (fM σ) (σ 88 13)) (h : 48 ≤ fM σ (τ 88 14) ∧ fM σ (τ 88 14) ≤ 57) (hk : τ 88 15 = 2) (hp : τ 88 13 = run isG (fM σ) (τ 88 14)) (hv : τ 88 16 = nv (fM σ) (τ 88 14) (τ 88 13 - τ 88 14).toNat) (h3 : τ 88 13 - τ 88 14 ≤ 3) : aM τ = tok (fM σ) (aM σ) := by
  rw [aM_ok h0, aM_ok h1, hd, hk]
  exact (tok_num hs h hp hv h3).symm
theorem madv_long {σ τ : tw_M} (h0 : σ 88 17 = 0) (h1 : τ 88 17 = 1) (hw : τ 88 18 = τ 88 14) (hs : τ 88 14 = run isS (fM σ) (σ 88 13)) (h : 48 ≤ fM σ (τ 88 14) ∧ fM σ (τ 88 14) ≤ 57) (hp : τ 88 13 = run isG (fM σ) (τ 88 14)) (h3 : 3 < τ 88 13 - τ 88 14) : aM τ = tok (fM σ) (aM σ) := by
  rw [aM_ok h0, aM_pF (by decide) h1 hw]
  exact (tok_long hs h (by rw [← hp]; exact h3)).symm
theorem madv_stop {σ τ : tw_M} (h0 : σ 88 17 = 0) (hd : drM τ = drM σ) (h1 : τ 88 17 = 0) (hs : τ 88 14 = run isS (fM σ) (σ 88 13)) (h : fM σ (τ 88 14) = 59) (hk : τ 88 15 = 3) (hp : τ 88 13 = τ 88 14 + 1) : aM τ = tok (fM σ) (aM σ) := by
  rw [aM_ok h0, aM_ok h1, hd, hk, hp]
  exact (tok_stop hs h).symm
theorem madv_bad {σ τ : tw_M} (h0 : σ 88 17 = 0) (h1 : τ 88 17 = 1) (hw : τ 88 18 = τ 88 14) (hs : τ 88 14 = run isS (fM σ) (σ 88 13)) (h : 0 ≤ fM σ (τ 88 14) ∧ ¬ (97 ≤ fM σ (τ 88 14) ∧ fM σ (τ 88 14) ≤ 122) ∧ ¬ (48 ≤ fM σ (τ 88 14) ∧ fM σ (τ 88 14) ≤ 57) ∧ ¬ fM σ (τ 88 14) = 59) : aM τ = tok (fM σ) (aM σ) := by
  rw [aM_ok h0, aM_pF (by decide) h1 hw]
  exact (tok_bad hs h).symm
/-- a fault's place is told once -/
theorem aM_fl {σ τ : tw_M} {a b : Int} (ha : ¬ a = 0) (h : (σ 88 17 = 0 ∧ τ 88 17 = a ∧ τ 88 18 = b) ∨ (¬ σ 88 17 = 0 ∧ τ 88 17 = σ 88 17 ∧ τ 88 18 = σ 88 18)) : aM τ = fl a b (aM σ) := by
  unfold fl
  rw [aM_4]
  rcases h with ⟨h1, h2, h3⟩ | ⟨h1, h2, h3⟩
  · rw [if_neg (fun q => q h1)]
    exact aM_pF ha h2 h3
  · rw [if_pos h1, aM_pF h1 rfl rfl]
    exact aM_pF h1 h2 h3
theorem aM_need {σ τ : tw_M} {c : Int} {g : Bool} (hc : ¬ c = 0) (hg : σ 88 17 = 0 → g = false) (h : (σ 88 17 = 0 ∧ τ 88 17 = c ∧ τ 88 18 = σ 88 14) ∨ (¬ σ 88 17 = 0 ∧ τ 88 17 = σ 88 17 ∧ τ 88 18 = σ 88 18)) : aM τ = need g c (aM σ) := by
  rw [aM_fl hc h]
  by_cases h0 : σ 88 17 = 0
  · rw [hg h0, need_f, aM_ok h0, ok_1]
  · rw [need_pF (by rw [aM_4]; exact h0), fl_pF (by rw [aM_4]; exact h0)]
theorem aM_needt {σ : tw_M} {c : Int} {g : Bool} (hg : σ 88 17 = 0 → g = true) : aM σ = need g c (aM σ) := by
  by_cases h0 : σ 88 17 = 0
  · rw [hg h0, need_t]
  · rw [need_pF (by rw [aM_4]; exact h0)]
theorem aM_0 {σ : tw_M} (h : σ 88 17 = 0) : (aM σ) 0 = σ 88 13 := by rw [aM_ok h, ok_0]
theorem aM_1 {σ : tw_M} (h : σ 88 17 = 0) : (aM σ) 1 = σ 88 14 := by rw [aM_ok h, ok_1]
theorem aM_2 {σ : tw_M} (h : σ 88 17 = 0) : (aM σ) 2 = σ 88 15 := by rw [aM_ok h, ok_2]
theorem aM_3 {σ : tw_M} (h : σ 88 17 = 0) (h2 : σ 88 15 = 2) : (aM σ) 3 = σ 88 16 := by rw [aM_ok h, ok_3, if_pos h2]
theorem aM_d {σ : tw_M} (h : σ 88 17 = 0) {n : Nat} (hn : 6 ≤ n) : (aM σ) n = drM σ n := by rw [aM_ok h, ok_ge hn]
theorem aM_num_no {σ : tw_M} {a b : Int} (h : ¬ σ 88 17 = 0) : aM σ = numS a b (aM σ) := (numS_pF (by rw [aM_4]; exact h)).symm
theorem aM_num_ok {σ : tw_M} {a b : Int} (h : σ 88 17 = 0) (h2 : σ 88 15 = 2) (hv : a ≤ σ 88 16 ∧ σ 88 16 ≤ b) : aM σ = numS a b (aM σ) := by
  rw [aM_ok h, h2]
  exact (num_ok hv).symm
theorem aM_num_sort {σ τ : tw_M} {a b : Int} (h : σ 88 17 = 0) (h2 : ¬ σ 88 15 = 2) (h3 : τ 88 17 = 2 ∧ τ 88 18 = σ 88 14) : aM τ = numS a b (aM σ) := by
  rw [aM_ok h, aM_pF (by decide) h3.1 h3.2]
  exact (num_sort h2).symm
theorem aM_num_out {σ τ : tw_M} {a b : Int} (h : σ 88 17 = 0) (h2 : σ 88 15 = 2) (hv : ¬ (a ≤ σ 88 16 ∧ σ 88 16 ≤ b)) (h3 : τ 88 17 = 3 ∧ τ 88 18 = σ 88 14) : aM τ = numS a b (aM σ) := by
  rw [aM_ok h, h2, aM_pF (by decide) h3.1 h3.2]
  exact (num_out hv).symm
theorem aM_numv {σ τ : tw_M} {a b r : Int} (h : aM τ = numS a b (aM σ)) (hk : τ 88 15 = σ 88 15) (hv : τ 88 16 = σ 88 16) (hr : ¬ τ 88 17 = 0 ∨ r = σ 88 16) : (aM τ) 4 = 0 → r = (aM τ) 3 := by
  intro h4
  have h0 : τ 88 17 = 0 := (aM_4 (σ := τ)).symm.trans h4
  rw [h] at h4
  obtain ⟨e, e4, e2⟩ := numS_4 h4
  have s0 : σ 88 17 = 0 := (aM_4 (σ := σ)).symm.trans e4
  rw [aM_2 s0] at e2
  rw [aM_3 h0 (by omega)]
  omega
theorem drM_600 {σ : tw_M} {h : Int} (hh : 0 ≤ h ∧ h ≤ 40) : drM σ (ci 600 h) = σ 96 h.toNat := by
  unfold drM ci
  rw [if_neg (by omega), if_neg (by omega), if_neg (by omega), if_neg (by omega), if_neg (by omega), if_pos ⟨by omega, by omega⟩, show 600 + h.toNat - 600 = h.toNat by omega]
theorem drM_700 {σ : tw_M} {s : Int} (hs : 0 ≤ s ∧ s ≤ 10) : drM σ (ci 700 s) = σ 97 s.toNat := by
  unfold drM ci
  rw [if_neg (by omega), if_neg (by omega), if_neg (by omega), if_neg (by omega), if_neg (by omega), if_neg (by omega), if_pos ⟨by omega, by omega⟩, show 700 + s.toNat - 700 = s.toNat by omega]
theorem drM_6 {σ : tw_M} : drM σ 6 = σ 88 9 := rfl
theorem drM_7 {σ : tw_M} : drM σ 7 = σ 88 10 := rfl
theorem drM_100 {σ : tw_M} : drM σ 100 = σ 93 0 := rfl
theorem mtold_f {σ : tw_M} {s : Int} (h0 : σ 88 17 = 0) (v : (aM σ) 4 = 0 → s = (aM σ) 3) (hs : 0 ≤ s ∧ s ≤ 10) (h : ¬ σ 97 s.toNat = 0) : decide ((aM σ) (ci 700 ((aM σ) 3)) = 0) = false := by
  rw [← v (by rw [aM_4]; exact h0), aM_d h0 (ci_ge (by decide)), drM_700 hs]
  exact decide_eq_false h
theorem mtold_t {σ : tw_M} {s : Int} (h0 : σ 88 17 = 0) (v : (aM σ) 4 = 0 → s = (aM σ) 3) (hs : 0 ≤ s ∧ s ≤ 10) (h : σ 97 s.toNat = 0) : decide ((aM σ) (ci 700 ((aM σ) 3)) = 0) = true := by
  rw [← v (by rw [aM_4]; exact h0), aM_d h0 (ci_ge (by decide)), drM_700 hs]
  exact decide_eq_true h
theorem mtoldF_f {σ : tw_M} {s : Int} (h0 : σ 88 17 = 0) (v : (aM σ) 4 = 0 → s = (aM σ) 3) (hs : 0 ≤ s ∧ s ≤ 40) (h : ¬ σ 96 s.toNat = 0) : decide ((aM σ) (ci 600 ((aM σ) 3)) = 0) = false := by
  rw [← v (by rw [aM_4]; exact h0), aM_d h0 (ci_ge (by decide)), drM_600 hs]
  exact decide_eq_false h
theorem mtoldF_t {σ : tw_M} {s : Int} (h0 : σ 88 17 = 0) (v : (aM σ) 4 = 0 → s = (aM σ) 3) (hs : 0 ≤ s ∧ s ≤ 40) (h : σ 96 s.toNat = 0) : decide ((aM σ) (ci 600 ((aM σ) 3)) = 0) = true := by
  rw [← v (by rw [aM_4]; exact h0), aM_d h0 (ci_ge (by decide)), drM_600 hs]
  exact decide_eq_true h
theorem mstop_t {σ : tw_M} (h : σ 88 15 = 3) : aM σ = need (decide ((aM σ) 2 = 3)) 2 (aM σ) := aM_needt (fun h0 => by rw [aM_2 h0]; exact decide_eq_true h)
theorem mstop_f {σ τ : tw_M} (h : ¬ σ 88 15 = 3) (hf : (σ 88 17 = 0 ∧ τ 88 17 = 2 ∧ τ 88 18 = σ 88 14) ∨ (¬ σ 88 17 = 0 ∧ τ 88 17 = σ 88 17 ∧ τ 88 18 = σ 88 18)) : aM τ = need (decide ((aM σ) 2 = 3)) 2 (aM σ) := aM_need (by decide) (fun h0 => by rw [aM_2 h0]; exact decide_eq_false h) hf
theorem wnm_aM {f : Int → Int} {τ : tw_M} {w : Int} (h0 : τ 88 17 = 0) (h : w = wnm f (τ 88 15) (τ 88 14) (τ 88 13)) : w = wnm f ((aM τ) 2) ((aM τ) 1) ((aM τ) 0) := by
  rw [aM_2 h0, aM_1 h0, aM_0 h0]
  exact h
theorem mbit_f {σ : tw_M} {z n : Int} (h0 : σ 88 17 = 0) (b : z = tw_and (tw_shr (σ 88 9) n) 1) (h : ¬ z = 0) : decide (tw_and (tw_shr ((aM σ) 6) n) 1 = 0) = false := by
  rw [aM_d h0 (by decide), drM_6, ← b]
  exact decide_eq_false h
theorem mbit_t {σ : tw_M} {z n : Int} (h0 : σ 88 17 = 0) (b : z = tw_and (tw_shr (σ 88 9) n) 1) (h : z = 0) : decide (tw_and (tw_shr ((aM σ) 6) n) 1 = 0) = true := by
  rw [aM_d h0 (by decide), drM_6, ← b]
  exact decide_eq_true h
theorem mbit_w {σ : tw_M} {z n : Int} (h0 : σ 88 17 = 0) (b : z = tw_or (σ 88 9) (tw_shl 1 n)) : z = tw_or ((aM σ) 6) (tw_shl 1 n) := by
  rw [aM_d h0 (by decide), drM_6]
  exact b
theorem mlstop_t {τ : tw_M} {n : Int} (h : ¬ τ 88 17 = 0 ∨ τ 88 15 = 0) : lstop (aM τ, n) = true := by
  unfold lstop
  rw [decide_eq_true_eq]
  show ¬ (aM τ) 4 = 0 ∨ (aM τ) 2 = 0
  rw [aM_4]
  by_cases h0 : τ 88 17 = 0
  · rw [aM_2 h0]; omega
  · exact Or.inl h0
theorem mlstop_f {τ : tw_M} {n : Int} (h0 : τ 88 17 = 0) (h : ¬ τ 88 15 = 0) : lstop (aM τ, n) = false := by
  unfold lstop
  rw [decide_eq_false_iff_not]
  show ¬ (¬ (aM τ) 4 = 0 ∨ (aM τ) 2 = 0)
  rw [aM_4, aM_2 h0]
  omega
theorem mlns_s {f : Int → Int} {σ τ : tw_M} {i n m : Int} {Z : PTS × Int} (h : itK lstop (lstep f) (500 - i).toNat (aM σ, n) = Z) (hi : 0 ≤ i ∧ i < 450) (h0 : σ 88 17 = 0) (hk : ¬ σ 88 15 = 0) (c : aM τ = lineX f (aM σ)) (hm : m = n + 1) : itK lstop (lstep f) (500 - (i + 1)).toNat (aM τ, m) = Z := by
  rw [← h, show (500 - i).toNat = (500 - (i + 1)).toNat + 1 by omega, itK_s (mlstop_f h0 hk), c, hm]
  rfl
theorem mparse_t {f : Int → Int} {σ : tw_M} {n k : Int} (h : itK lstop (lstep f) k.toNat (aM σ, n) = lns f) (hs : ¬ σ 88 17 = 0 ∨ (σ 88 15 = 0 ∧ σ 88 10 ≤ σ 93 0)) : (aM σ, n) = parse f := by
  have e : lns f = (aM σ, n) := by rw [← h]; exact itK_n (mlstop_t (by omega))
  unfold parse
  rw [e]
  show (aM σ, n) = (need (decide ((aM σ) 7 ≤ (aM σ) 100)) 5 (aM σ), n)
  by_cases h0 : σ 88 17 = 0
  · rw [aM_d h0 (n := 7) (by decide), aM_d h0 (n := 100) (by decide), drM_7, drM_100, decide_eq_true (by omega), need_t]
  · rw [need_pF (by rw [aM_4]; exact h0)]
theorem mparse_f {f : Int → Int} {σ τ : tw_M} {n k : Int} (h : itK lstop (lstep f) k.toNat (aM σ, n) = lns f) (h0 : σ 88 17 = 0) (hk : σ 88 15 = 0) (hs : ¬ σ 88 10 ≤ σ 93 0) (hf : τ 88 17 = 5 ∧ τ 88 18 = σ 88 14) : (aM τ, n) = parse f := by
  have e : lns f = (aM σ, n) := by rw [← h]; exact itK_n (mlstop_t (by omega))
  unfold parse
  rw [e]
  show (aM τ, n) = (need (decide ((aM σ) 7 ≤ (aM σ) 100)) 5 (aM σ), n)
  rw [aM_d h0 (n := 7) (by decide), aM_d h0 (n := 100) (by decide), drM_7, drM_100, decide_eq_false (by omega), need_f, fl, aM_4, if_neg (fun q => q h0), aM_1 h0, aM_pF (by decide) hf.1 hf.2]
theorem mw_f {τ : tw_M} {t : Int} (h0 : τ 88 17 = 0) (h : τ 88 15 = 1) : wstopM (aM τ, t) = false := by
  unfold wstopM
  rw [decide_eq_false_iff_not]
  show ¬ (¬ (aM τ) 4 = 0 ∨ ¬ (aM τ) 2 = 1)
  rw [aM_4, aM_2 h0]
  omega
theorem mw_t {τ : tw_M} {t : Int} (h : ¬ τ 88 17 = 0 ∨ ¬ τ 88 15 = 1) : wstopM (aM τ, t) = true := by
  unfold wstopM
  rw [decide_eq_true_eq]
  show ¬ (aM τ) 4 = 0 ∨ ¬ (aM τ) 2 = 1
  rw [aM_4]
  by_cases h0 : τ 88 17 = 0
  · rw [aM_2 h0]; omega
  · exact Or.inl h0
theorem need_cg {c : Int} {g g' : Bool} {S : PTS} (h : S 4 = 0 → g = g') : need g c S = need g' c S := by
  by_cases h4 : S 4 = 0
  · rw [h h4]
  · rw [need_pF h4, need_pF h4]
theorem rackM_of {f : Int → Int} {S0 S1 S2 S3 S4 S5 S6 : PTS} (c1 : S1 = numS 1 10 S0) (c2 : S2 = need (decide (S1 (ci 700 (S1 3)) = 0)) 4 S1) (c3 : S3 = wr (ci 700 (S1 3)) 1 S2) (c4 : S4 = tok f S3) (c5 : S5 = tok f (numS 0 5 S4)) (c6 : S6 = wr (ci 200 (S1 3)) ((numS 0 5 S4) 3) S5) : S6 = rackM f S0 := by
  subst c1; subst c2; subst c3; subst c4; subst c5; subst c6
  rfl
theorem rackM_no {f : Int → Int} {S0 S1 S4 S5 S6 : PTS} {i : Nat} {v : Int} (c1 : S1 = numS 1 10 S0) (h : S1 4 ≠ 0) (c4 : S4 = tok f S1) (c5 : S5 = tok f (numS 0 5 S4)) (c6 : S6 = wr i v S5) : S6 = rackM f S0 := by
  have e4 : S4 = S1 := by rw [c4, tok_pF h]
  have e5 : S5 = S1 := by rw [c5, e4, numS_pF h, tok_pF h]
  have e6 : S6 = S1 := by rw [c6, e5, wr_pF h]
  rw [e6]
  unfold rackM
  simp only
  rw [← c1, need_pF h, wr_pF h, tok_pF h, numS_pF h, tok_pF h, wr_pF h]
/-- what the reference's number answers -/
theorem aM_rv {σ τ : tw_M} {a b r : Int} {f : Int → Int} (h : aM τ = tok f (numS a b (aM σ))) (hr : r = σ 88 16) : (aM τ) 4 = 0 → r = (numS a b (aM σ)) 3 := by
  intro h4
  rw [h] at h4
  have n4 : (numS a b (aM σ)) 4 = 0 := by
    by_cases z : (numS a b (aM σ)) 4 = 0
    · exact z
    · rw [tok_pF z] at h4; exact h4
  obtain ⟨e, e4, e2⟩ := numS_4 n4
  have s0 : σ 88 17 = 0 := (aM_4 (σ := σ)).symm.trans e4
  rw [aM_2 s0] at e2
  rw [e, aM_3 s0 e2]
  exact hr
theorem ruleM_of {f : Int → Int} {k : Int} {S0 S1 S2 : PTS} (c1 : S1 = tok f (numS (tw_least.getD k.toNat 0).toInt (tw_most.getD k.toNat 0).toInt S0)) (c2 : S2 = wr (ci 100 k) ((numS (tw_least.getD k.toNat 0).toInt (tw_most.getD k.toNat 0).toInt S0) 3) S1) (hk : ¬ k = 5) : S2 = ruleM f k S0 := by
  subst c1; subst c2
  unfold ruleM
  simp only
  rw [if_neg hk]
theorem ruleM_of5 {f : Int → Int} {k : Int} {S0 S1 S2 S3 S4 : PTS} (c1 : S1 = tok f (numS (tw_least.getD k.toNat 0).toInt (tw_most.getD k.toNat 0).toInt S0)) (c2 : S2 = wr (ci 100 k) ((numS (tw_least.getD k.toNat 0).toInt (tw_most.getD k.toNat 0).toInt S0) 3) S1) (hk : k = 5) (c3 : S3 = tok f (numS 0 20 S2)) (c4 : S4 = wr 106 ((numS 0 20 S2) 3) S3) : S4 = ruleM f k S0 := by
  subst c1; subst c2; subst c3; subst c4
  unfold ruleM
  simp only
  rw [if_pos hk]
theorem withM_0 {f : Int → Int} {h w : Int} {S0 S1 S2 S3 : PTS} (hw : w = 0) (c1 : S1 = tok f S0) (c2 : S2 = tok f (numS 1 10 S1)) (c3 : S3 = wr (ci 301 (5 * h)) ((numS 1 10 S1) 3) S2) : S3 = withM f h w S0 := by
  subst c1; subst c2; subst c3
  unfold withM
  simp only
  rw [if_pos hw]
theorem withM_3 {f : Int → Int} {h w : Int} {S0 S1 S2 S3 : PTS} (hw : w = 3) (c1 : S1 = tok f S0) (c2 : S2 = tok f (numS 0 9 S1)) (c3 : S3 = wr (ci 304 (5 * h)) ((numS 0 9 S1) 3) S2) : S3 = withM f h w S0 := by
  subst c1; subst c2; subst c3
  unfold withM
  simp only
  rw [if_neg (by omega), if_pos hw]
theorem withM_1 {f : Int → Int} {h w : Int} {S0 S1 S2 : PTS} (hw : w = 1) (c1 : S1 = tok f S0) (c2 : S2 = wr (ci 302 (5 * h)) 1 S1) : S2 = withM f h w S0 := by
  subst c1; subst c2
  unfold withM
  simp only
  rw [if_neg (by omega), if_neg (by omega), if_pos hw]
theorem withM_2 {f : Int → Int} {h w : Int} {S0 S1 S2 : PTS} (hw : w = 2) (c1 : S1 = tok f S0) (c2 : S2 = wr (ci 303 (5 * h)) 1 S1) : S2 = withM f h w S0 := by
  subst c1; subst c2
  unfold withM
  simp only
  rw [if_neg (by omega), if_neg (by omega), if_neg (by omega)]
theorem wstepM_no {f : Int → Int} {h t : Int} {S : PTS} (h0 : wnm f (S 2) (S 1) (S 0) < 0) : wstepM f h (S, t) = (need false 2 S, t) := by
  unfold wstepM
  simp only
  rw [if_pos h0]
theorem wstepM_yes {f : Int → Int} {h t w : Int} {S S1 S2 : PTS} (hw : w = wnm f (S 2) (S 1) (S 0)) (h0 : ¬ w < 0) (c1 : S1 = need (decide (tw_and (tw_shr t w) 1 = 0)) 4 S) (c2 : S2 = withM f h w S1) : wstepM f h (S, t) = (S2, tw_or t (tw_shl 1 w)) := by
  subst c1; subst c2
  unfold wstepM
  simp only
  rw [← hw, if_neg h0]
theorem footM_dead {f : Int → Int} {h t : Int} {S0 S1 S2 S7 : PTS} (c1 : S1 = numS 1 40 S0) (c2 : S2 = need (decide (S1 (ci 600 (S1 3)) = 0)) 4 S1) (h4 : S2 4 ≠ 0) (e : S7 = S2) : (it wstopM (wstepM f h) wmes (S7, t)).1 = footM f S0 := by
  rw [e, it_n (by unfold wstopM; rw [decide_eq_true_eq]; exact Or.inl h4)]
  unfold footM
  simp only
  rw [← c1, ← c2, wr_pF h4, wr_pF h4, tok_pF h4, numS_pF h4, tok_pF h4, wr_pF h4]
  rw [it_n (by unfold wstopM; rw [decide_eq_true_eq]; exact Or.inl h4)]
theorem footM_of {f : Int → Int} {S0 S1 S2 S3 S4 S5 S6 S7 : PTS} {h v : Int} {i j k : Nat} (c1 : S1 = numS 1 40 S0) (c2 : S2 = need (decide (S1 (ci 600 (S1 3)) = 0)) 4 S1) (hh : S1 4 = 0 → h = S1 3) (c3 : S3 = wr i 1 S2) (hi : i = ci 600 h) (c4 : S4 = wr j v S3) (hj : j = 7) (hv : S2 4 = 0 → v = if S2 7 < h then h else S2 7) (c5 : S5 = tok f S4) (c6 : S6 = tok f (numS 0 9 S5)) (c7 : S7 = wr k ((numS 0 9 S5) 3) S6) (hk : k = ci 300 (5 * h)) : (it wstopM (wstepM f h) wmes (S7, 0)).1 = footM f S0 := by
  by_cases h2 : S2 4 = 0
  · have e1 := hh (need_4 (c := 4) (by decide) (by rw [← c2]; exact h2)).1
    have e2 := hv h2
    subst e2
    subst hi; subst hj; subst hk
    subst e1
    subst c1; subst c2; subst c3; subst c4; subst c5; subst c6; subst c7
    rfl
  · have e3 : S3 = S2 := by rw [c3, wr_pF h2]
    have e4 : S4 = S2 := by rw [c4, e3, wr_pF h2]
    have e5 : S5 = S2 := by rw [c5, e4, tok_pF h2]
    have e6 : S6 = S2 := by rw [c6, e5, numS_pF h2, tok_pF h2]
    have e7 : S7 = S2 := by rw [c7, e6, wr_pF h2]
    exact footM_dead c1 c2 h2 e7
theorem footM_no {f : Int → Int} {S0 S1 S5 S6 S7 : PTS} {h v : Int} {k : Nat} (c1 : S1 = numS 1 40 S0) (h1 : S1 4 ≠ 0) (c5 : S5 = tok f S1) (c6 : S6 = tok f (numS 0 9 S5)) (c7 : S7 = wr k v S6) : (it wstopM (wstepM f h) wmes (S7, 0)).1 = footM f S0 := by
  have e5 : S5 = S1 := by rw [c5, tok_pF h1]
  have e6 : S6 = S1 := by rw [c6, e5, numS_pF h1, tok_pF h1]
  have e7 : S7 = S1 := by rw [c7, e6, wr_pF h1]
  exact footM_dead c1 rfl (by rw [need_pF h1]; exact h1) (by rw [e7, need_pF h1])
theorem lineM_of {f : Int → Int} {S0 S1 S2 S3 S4 S5 : PTS} {k : Int} (hk : lnm f (S0 2) (S0 1) (S0 0) = k) (c1 : S1 = need (decide (0 ≤ k)) 2 S0) (c2 : S2 = if k < 9 then wr 6 (tw_or (S1 6) (tw_shl 1 k)) (need (decide (tw_and (tw_shr (S1 6) k) 1 = 0)) 4 S1) else S1) (c3 : S3 = tok f S2) (h3 : S3 4 = 0) (c4 : S4 = if k = 9 then footM f S3 else if k = 10 then rackM f S3 else ruleM f k S3) (c5 : S5 = tok f (need (decide (S4 2 = 3)) 2 S4)) : S5 = lineM f S0 := by
  unfold lineM
  simp only
  rw [hk, ← c1, ← c2, ← c3, if_neg (show ¬ ¬ S3 4 = 0 from fun q => q h3), ← c4, ← c5]
theorem lineM_no {f : Int → Int} {S0 S1 S2 S3 : PTS} {k : Int} (hk : lnm f (S0 2) (S0 1) (S0 0) = k) (c1 : S1 = need (decide (0 ≤ k)) 2 S0) (c2 : S2 = if k < 9 then wr 6 (tw_or (S1 6) (tw_shl 1 k)) (need (decide (tw_and (tw_shr (S1 6) k) 1 = 0)) 4 S1) else S1) (c3 : S3 = tok f S2) (h3 : ¬ S3 4 = 0) : S3 = lineM f S0 := by
  subst hk
  subst c1; subst c2; subst c3
  unfold lineM
  simp only
  rw [if_pos h3]
/-! A line of the reference, stage by stage. -/
def mLS (σ : tw_M) : Int := lnm (fM σ) (σ 88 15) (σ 88 14) (σ 88 13)
def lS1 (σ : tw_M) : PTS := need (decide (0 ≤ mLS σ)) 2 (aM σ)
def lS2 (σ : tw_M) : PTS := if mLS σ < 9 then wr 6 (tw_or ((lS1 σ) 6) (tw_shl 1 (mLS σ))) (need (decide (tw_and (tw_shr ((lS1 σ) 6) (mLS σ)) 1 = 0)) 4 (lS1 σ)) else lS1 σ
def lS3 (σ : tw_M) : PTS := tok (fM σ) (lS2 σ)
def lS4 (σ : tw_M) : PTS := if mLS σ = 9 then footM (fM σ) (lS3 σ) else if mLS σ = 10 then rackM (fM σ) (lS3 σ) else ruleM (fM σ) (mLS σ) (lS3 σ)
theorem lS2_dead {σ τ : tw_M} (h : aM τ = lS1 σ) (h4 : ¬ τ 88 17 = 0) : aM τ = lS2 σ := by
  have e4 : (lS1 σ) 4 ≠ 0 := by rw [← h, aM_4]; exact h4
  unfold lS2
  split
  · rw [need_pF (S := lS1 σ) e4, wr_pF e4]
    exact h
  · exact h
theorem lS2_ge {σ τ : tw_M} (h : aM τ = lS1 σ) (hk : ¬ mLS σ < 9) : aM τ = lS2 σ := by
  unfold lS2
  rw [if_neg hk]
  exact h
theorem lS2_lt {σ τ s u : tw_M} {k : Int} (h : aM τ = lS1 σ) (hk : mLS σ = k) (h9 : k < 9) (c2 : aM s = need (decide (tw_and (tw_shr ((aM τ) 6) k) 1 = 0)) 4 (aM τ)) (c3 : aM u = wr 6 (tw_or ((aM τ) 6) (tw_shl 1 k)) (aM s)) : aM u = lS2 σ := by
  subst hk
  unfold lS2
  rw [if_pos h9, c3, c2, h]
theorem lS4_at {σ u : tw_M} (hk : mLS σ = 9) (c : aM u = footM (fM σ) (lS3 σ)) : aM u = lS4 σ := by
  unfold lS4
  rw [if_pos hk]
  exact c
theorem lS4_rack {σ u : tw_M} (hk : mLS σ = 10) (c : aM u = rackM (fM σ) (lS3 σ)) : aM u = lS4 σ := by
  unfold lS4
  rw [if_neg (by omega), if_pos hk]
  exact c
theorem lS4_rule {σ u : tw_M} {k : Int} (hk : mLS σ = k) (h8 : k < 9) (c : aM u = ruleM (fM σ) k (lS3 σ)) : aM u = lS4 σ := by
  subst hk
  unfold lS4
  rw [if_neg (by omega), if_neg (by omega)]
  exact c
theorem lineM_end {σ w u : tw_M} (h0 : σ 88 17 = 0) (h3 : (lS3 σ) 4 = 0) (c4 : aM w = lS4 σ) (c5 : aM u = tok (fM σ) (need (decide ((aM w) 2 = 3)) 2 (aM w))) : aM u = lineM (fM σ) (aM σ) := by
  rw [c4] at c5
  exact lineM_of (k := mLS σ) (S1 := lS1 σ) (S2 := lS2 σ) (S3 := lS3 σ) (S4 := lS4 σ) (by rw [aM_2 h0, aM_1 h0, aM_0 h0]; rfl) rfl rfl rfl h3 rfl c5
theorem lineM_end0 {σ u : tw_M} (h0 : σ 88 17 = 0) (c3 : aM u = lS3 σ) (h3 : ¬ u 88 17 = 0) : aM u = lineM (fM σ) (aM σ) :=
  lineM_no (k := mLS σ) (S1 := lS1 σ) (S2 := lS2 σ) (by rw [aM_2 h0, aM_1 h0, aM_0 h0]; rfl) rfl rfl c3 (by rw [aM_4]; exact h3)
theorem least_r {k r : Int} (h : ((k = 0 ∨ k = 1 ∨ k = 3) ∧ r = 1) ∨ (¬ (k = 0 ∨ k = 1 ∨ k = 3) ∧ r = 0)) (h1 : 0 ≤ k) (h2 : k ≤ 8) : r = (tw_least.getD k.toNat 0).toInt := by
  rcases (show k = 0 ∨ k = 1 ∨ k = 2 ∨ k = 3 ∨ k = 4 ∨ k = 5 ∨ k = 6 ∨ k = 7 ∨ k = 8 by omega) with e | e | e | e | e | e | e | e | e <;> subst e <;> first | (rw [show r = 1 by omega]; decide) | (rw [show r = 0 by omega]; decide)
theorem most_r {k r : Int} (h : (k = 0 ∧ r = 40) ∨ (k = 1 ∧ r = 999) ∨ (k = 2 ∧ r = 99) ∨ (k = 3 ∧ r = 60) ∨ (k = 7 ∧ r = 60) ∨ (k = 4 ∧ r = 50) ∨ (k = 5 ∧ r = 20) ∨ ((k < 0 ∨ k = 6 ∨ 7 < k) ∧ r = 9)) (h1 : 0 ≤ k) (h2 : k ≤ 8) (h6 : ¬ k = 6) : r = (tw_most.getD k.toNat 0).toInt := by
  rcases (show k = 0 ∨ k = 1 ∨ k = 2 ∨ k = 3 ∨ k = 4 ∨ k = 5 ∨ k = 7 ∨ k = 8 by omega) with e | e | e | e | e | e | e | e <;> subst e
  · rw [show r = 40 by omega]; decide
  · rw [show r = 999 by omega]; decide
  · rw [show r = 99 by omega]; decide
  · rw [show r = 60 by omega]; decide
  · rw [show r = 50 by omega]; decide
  · rw [show r = 20 by omega]; decide
  · rw [show r = 60 by omega]; decide
  · rw [show r = 9 by omega]; decide
/-- the whole text of the reference -/
theorem parse_M {f : Int → Int} {τ u : tw_M} {n k : Int} (h : itK lstop (lstep f) k.toNat (aM τ, n) = lns f) (hs : ¬ τ 88 17 = 0 ∨ τ 88 15 = 0) (c : aM u = need (decide (τ 88 10 ≤ τ 93 0)) 5 (aM τ)) : (aM u, n) = parse f := by
  have e : lns f = (aM τ, n) := by rw [← h]; exact itK_n (mlstop_t hs)
  unfold parse
  rw [e]
  show (aM u, n) = (need (decide ((aM τ) 7 ≤ (aM τ) 100)) 5 (aM τ), n)
  rw [c]
  rw [need_cg (g := decide (τ 88 10 ≤ τ 93 0)) (g' := decide ((aM τ) 7 ≤ (aM τ) 100)) (fun h4 => by rw [aM_4] at h4; rw [aM_d h4 (n := 7) (by decide), aM_d h4 (n := 100) (by decide), drM_7, drM_100])]
theorem mtxt_t {s : tw_M} {n : Int} (h : s 88 17 = 0) : txt (aM s, n) = n := by
  unfold txt
  exact if_pos (by show (aM s) 4 = 0; rw [aM_4]; exact h)
theorem mtxt_f {s : tw_M} {n : Int} (h : ¬ s 88 17 = 0) : txt (aM s, n) = -10 - s 88 18 := by
  unfold txt
  rw [if_neg (show ¬ (aM s) 4 = 0 by rw [aM_4]; exact h)]
  show -10 - (aM s) 5 = _
  rw [aM_pF h rfl rfl]
  rfl
/-- the draft of the reference at its begin -/
def K94 (j : Nat) : Int := if j % 5 = 0 then 1 else if j % 5 = 4 then 5 else 0
theorem K94_at {h k : Int} (hh : 0 ≤ h) (hk : 0 ≤ k ∧ k < 5) : K94 (5 * h + k).toNat = if k = 0 then 1 else if k = 4 then 5 else 0 := by
  unfold K94
  have e : (5 * h + k).toNat % 5 = k.toNat := by omega
  rw [e]
  repeat' split
  all_goals omega
theorem first_at {k : Int} (hk : 0 ≤ k ∧ k < 9) : (tw_first.getD k.toNat 0).toInt = if k = 0 then 20 else if k = 1 then 200 else if k = 3 then 40 else if k = 5 then 18 else if k = 7 then 6 else if k = 8 then 2 else 10 := by
  rcases (show k = 0 ∨ k = 1 ∨ k = 2 ∨ k = 3 ∨ k = 4 ∨ k = 5 ∨ k = 6 ∨ k = 7 ∨ k = 8 by omega) with e | e | e | e | e | e | e | e | e <;> subst e <;> decide
theorem drM_D0 {σ : tw_M} (h9 : σ 88 9 = 0) (h10 : σ 88 10 = 0) (h93 : Cn 93 (fun j => (tw_first.getD j 0).toInt) σ 9) (h95 : Cn 95 (fun _ => 0) σ 11) (h94 : Cn 94 K94 σ 205) (h96 : Cn 96 (fun _ => 0) σ 41) (h97 : Cn 97 (fun _ => 0) σ 11) : drM σ = D0 := by
  funext n
  unfold drM D0
  by_cases a6 : n = 6
  · subst a6; rw [if_pos rfl, h9, if_neg (by omega), if_neg (by omega)]
  · rw [if_neg a6]
    by_cases a7 : n = 7
    · subst a7; rw [if_pos rfl, h10, if_neg (by omega), if_neg (by omega)]
    · rw [if_neg a7]
      by_cases a1 : 100 ≤ n ∧ n < 109
      · rw [if_pos a1, if_pos a1]; exact h93 _ (by omega)
      · rw [if_neg a1, if_neg a1]
        by_cases a2 : 200 ≤ n ∧ n < 211
        · rw [if_pos a2, if_neg (by omega)]; exact h95 _ (by omega)
        · rw [if_neg a2]
          by_cases a3 : 300 ≤ n ∧ n < 505
          · rw [if_pos a3, if_pos a3]; exact h94 _ (by omega)
          · rw [if_neg a3, if_neg a3]
            by_cases a4 : 600 ≤ n ∧ n < 641
            · rw [if_pos a4]; exact h96 _ (by omega)
            · rw [if_neg a4]
              by_cases a5 : 700 ≤ n ∧ n < 711
              · rw [if_pos a5]; exact h97 _ (by omega)
              · rw [if_neg a5]
/-! BYTES: the same on both sides. -/
def byt (v : Int) (k : Nat) : Int := tw_l2i (tw_landL (tw_lshrL v (56 - 8 * (k : Int))) 255)
theorem m255_32 : ∀ i, i < 32 → (255#32).getLsbD i = decide (i < 8) := by decide
theorem m255_64 : ∀ i, i < 64 → (255#64).getLsbD i = decide (i < 8) := by decide
theorem byt_bv (x : BitVec 64) {s : Nat} (hs : s ≤ 56) : ((((x >>> s).signExtend 32).signExtend 8).signExtend 32 &&& 255#32) = ((x.sshiftRight s) &&& 255#64).signExtend 32 := by
  apply BitVec.eq_of_getLsbD_eq
  intro i hi
  rw [BitVec.getLsbD_and, m255_32 i hi, show (BitVec.signExtend 32 (x.sshiftRight s &&& 255#64)).getLsbD i = ((x.sshiftRight s).getLsbD i && decide (i < 8)) from by
    rw [BitVec.getLsbD_signExtend, BitVec.getLsbD_and, m255_64 i (by omega)]
    simp [hi, show i < 64 by omega]]
  by_cases h8 : i < 8
  · rw [BitVec.getLsbD_signExtend, BitVec.getLsbD_signExtend, BitVec.getLsbD_signExtend, BitVec.getLsbD_ushiftRight, BitVec.getLsbD_sshiftRight]
    simp [h8, hi, show i < 64 by omega, show s + i < 64 by omega]
  · simp [h8]
theorem byt_u : ∀ k : Nat, k < 8 → ((Int32.ofInt (56 - 8 * (k : Int))).toInt64.toUInt64 &&& Int64.toUInt64 63) = UInt64.ofNat (56 - 8 * k) := by decide
theorem byt_i : ∀ k : Nat, k < 8 → ((Int32.ofInt (56 - 8 * (k : Int))).toInt64 &&& 63) = Int64.ofNat (56 - 8 * k) := by decide
theorem i2b2 {a : Int} : tw_i2b (tw_i2b a) = tw_i2b a := by
  unfold tw_i2b
  rw [Int32.ofInt_toInt]
  simp
theorem byt_eq {v : Int} {k : Nat} (hk : k < 8) : tw_and (tw_i2b (tw_l2i (tw_lushrL v (56 - 8 * (k : Int))))) 255 = byt v k := by
  unfold byt tw_and tw_i2b tw_l2i tw_lushrL tw_landL tw_lshrL
  rw [Int64.ofInt_toInt, Int64.ofInt_toInt, Int64.ofInt_toInt, Int32.ofInt_toInt, Int32.ofInt_toInt, byt_u k hk, byt_i k hk]
  congr 1
  apply Int32.toBitVec_inj.mp
  have key := byt_bv (Int64.ofInt v).toBitVec (s := 56 - 8 * k) (by omega)
  rcases (show k = 0 ∨ k = 1 ∨ k = 2 ∨ k = 3 ∨ k = 4 ∨ k = 5 ∨ k = 6 ∨ k = 7 by omega) with e | e | e | e | e | e | e | e <;> subst e <;> exact key
def BY (σ : tw_M) : Prop := ∀ j : Nat, (j : Int) < σ 10 10 → tw_and (σ 11 j) 255 = σ 98 j
theorem BY_kept {σ τ : tw_M} (h : BY σ) (h1 : ∀ j, τ 11 j = σ 11 j) (h2 : ∀ j, τ 98 j = σ 98 j) (h3 : τ 10 10 ≤ σ 10 10) : BY τ := fun j hj => by
  rw [h1, h2]
  exact h j (by omega)
theorem BY_0 {σ : tw_M} (h : σ 10 10 = 0) : BY σ := fun j hj => by exfalso; omega
theorem BY_feed {σ τ : tw_M} {v n m : Int} (h : BY σ) (hn : σ 10 10 = n) (hm : σ 88 12 = n) (h0 : 0 ≤ n) (hl : τ 10 10 = n + 8) (x1 : ∀ j : Nat, (j : Int) < n → τ 11 j = σ 11 j) (x2 : ∀ k : Nat, (k : Int) < 8 → tw_and (τ 11 (n.toNat + k)) 255 = byt v k) (y1 : ∀ j : Nat, (j : Int) < n → τ 98 j = σ 98 j) (y2 : ∀ k : Nat, (k : Int) < 8 → τ 98 (n.toNat + k) = byt v k) : BY τ := fun j hj => by
  by_cases q : (j : Int) < n
  · rw [x1 j q, y1 j q]
    exact h j (by omega)
  · have e : j = n.toNat + (j - n.toNat) := by omega
    rw [e, x2 _ (by omega), y2 _ (by omega)]
theorem fXM {σ : tw_M} (h : σ 10 10 = σ 88 12) (hb : BY σ) : fX σ = fM σ := by
  funext p
  by_cases hp : 0 ≤ p ∧ p < σ 10 10
  · rw [fX_at hp, fM_at (by omega)]
    exact hb _ (by omega)
  · rw [fX_no hp, fM_no (by omega)]
