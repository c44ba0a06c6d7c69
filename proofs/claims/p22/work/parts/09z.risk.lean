/-! RISK and EFFORT, foot by foot. -/
def harF (W g : PTG) (h good : Int) : Int := harS W h (fallG W g h good h.toNat 0).1
def rsk (W g : PTG) (good : Int) : Nat → Int
  | 0 => 0
  | h + 1 => rsk W g good h + (if W 108 < ((h + 1 : Nat) : Int) then wH W ((h + 1 : Nat) : Int) * harF W g ((h + 1 : Nat) : Int) good else 0)
theorem mul_bd {a b : Int} (h1 : 0 ≤ a ∧ a ≤ 10) (h2 : -40 ≤ b ∧ b ≤ 40) : -400 ≤ a * b ∧ a * b ≤ 400 := by
  rcases (show a = 0 ∨ a = 1 ∨ a = 2 ∨ a = 3 ∨ a = 4 ∨ a = 5 ∨ a = 6 ∨ a = 7 ∨ a = 8 ∨ a = 9 ∨ a = 10 by omega) with e | e | e | e | e | e | e | e | e | e | e <;> subst e <;> omega
section RK
variable {W g : PTG} {good : Int}
theorem rsk_s {h : Int} (h1 : 1 ≤ h) : rsk W g good h.toNat = rsk W g good (h - 1).toNat + (if W 108 < h then wH W h * harF W g h good else 0) := by
  obtain ⟨n, rfl⟩ : ∃ n : Nat, h = ((n + 1 : Nat) : Int) := ⟨(h - 1).toNat, by omega⟩
  rw [show (((n + 1 : Nat) : Int)).toNat = n + 1 by omega, show (((n + 1 : Nat) : Int) - 1).toNat = n by omega]
  rfl
theorem rsk_low {a : Nat} : ∀ {b : Nat}, a ≤ b → (b : Int) ≤ W 108 → rsk W g good b = rsk W g good a
  | 0, h, _ => by rw [show a = 0 by omega]
  | b + 1, h, hb => by
    by_cases e : a = b + 1
    · rw [e]
    · simp only [rsk]
      rw [if_neg (by omega), rsk_low (a := a) (b := b) (by omega) (by omega)]
      omega
theorem rsk_up {h s z p : Int} {a : Nat} (h1 : 1 ≤ h) (hl : W 108 < h) (H : s = rsk W g good (h - 1).toNat - rsk W g good a) (hp : p = wH W h * harF W g h good) (hz : z = s + p) : z = rsk W g good (h + 1 - 1).toNat - rsk W g good a := by
  have e := rsk_s (W := W) (g := g) (good := good) h1
  rw [if_pos hl] at e
  rw [show h + 1 - 1 = h by omega, e]
  omega
theorem harF_congr {g' : PTG} {h : Int} (H : ∀ x : Nat, 1 ≤ x → x ≤ h.toNat → g' x = g x) : harF W g' h good = harF W g h good := by
  unfold harF
  rw [fallG_congr H]
theorem rsk_congr {g' : PTG} : ∀ {h : Nat}, (∀ x : Nat, 1 ≤ x → x ≤ h → g' x = g x) → rsk W g' good h = rsk W g good h
  | 0, _ => rfl
  | h + 1, H => by
    simp only [rsk]
    rw [rsk_congr (fun x x1 x2 => H x x1 (by omega)), harF_congr (g := g) (fun x x1 x2 => H x x1 (by omega))]
theorem harF_good {good' h : Int} (H : ∀ k : Int, 0 ≤ k → k < cnt g h.toNat → (bt good' k = 0 ↔ bt good k = 0)) : harF W g h good' = harF W g h good := by
  unfold harF
  rw [fallG_good H]
theorem rsk_good {good' : Int} : ∀ {h : Nat}, (∀ k : Int, 0 ≤ k → k < cnt g h → (bt good' k = 0 ↔ bt good k = 0)) → rsk W g good' h = rsk W g good h
  | 0, _ => rfl
  | h + 1, H => by
    have m := cnt_mono g (show h ≤ h + 1 by omega)
    simp only [rsk]
    rw [rsk_good (fun k k1 k2 => H k k1 (by omega)), harF_good (fun k k1 k2 => H k k1 k2)]
end RK
/-- effort after a foot; and there, ahead of the rest -/
def effN (W : PTG) (e : Int) (p : Bool) (n : Nat) : Int := if p then tw_w32 (tw_w32 (e + wH W (n : Int)) + W 102) else tw_w32 (e + wH W (n : Int))
def eff (W g : PTG) : Nat → Int
  | 0 => 0
  | n + 1 => if wR W ((n + 1 : Nat) : Int) = 0 then effN W (eff W g n) (decide (0 < g (n + 1))) (n + 1) else 0
def effX (W g : PTG) (h : Int) : Int := effN W (eff W g (h - 1).toNat) (decide (0 < g h.toNat)) h.toNat
theorem eff_s {W g : PTG} {h : Int} (h1 : 1 ≤ h) : eff W g h.toNat = if wR W h = 0 then effX W g h else 0 := by
  obtain ⟨n, rfl⟩ : ∃ n : Nat, h = ((n + 1 : Nat) : Int) := ⟨(h - 1).toNat, by omega⟩
  unfold effX
  rw [show (((n + 1 : Nat) : Int)).toNat = n + 1 by omega, show (((n + 1 : Nat) : Int) - 1).toNat = n by omega]
  rfl
theorem eff_congr {W g g' : PTG} : ∀ {h : Nat}, (∀ x : Nat, 1 ≤ x → x ≤ h → g' x = g x) → eff W g' h = eff W g h
  | 0, _ => rfl
  | h + 1, H => by
    simp only [eff]
    rw [eff_congr (fun x x1 x2 => H x x1 (by omega)), H (h + 1) (by omega) (by omega)]
theorem effX_congr {W g g' : PTG} {h : Int} (h1 : 1 ≤ h) (H : ∀ x : Nat, 1 ≤ x → x ≤ h.toNat → g' x = g x) : effX W g' h = effX W g h := by
  unfold effX
  rw [eff_congr (fun x x1 x2 => H x x1 (by omega)), H h.toNat (by omega) (by omega)]
/-- the first foot from a on, ahead of h, where it is too much; z: none -/
def TMs (W g : PTG) (z a h t : Int) : Prop := (t = z ∧ ∀ x : Int, a ≤ x → x < h → effX W g x ≤ W 101) ∨ (a ≤ t ∧ t < h ∧ W 101 < effX W g t ∧ ∀ x : Int, a ≤ x → x < t → effX W g x ≤ W 101)
/-- in the midst of a climb -/
def CLI (W g : PTG) (z a h k e t : Int) : Prop := k = cnt g (h - 1).toNat ∧ e = eff W g (h - 1).toNat ∧ TMs W g z a h t
theorem CL_0 {W g : PTG} {z a k e t : Int} (hk : k = cnt g (a - 1).toNat) (he : e = eff W g (a - 1).toNat) (ht : t = z) : CLI W g z a a k e t :=
  ⟨hk, he, Or.inl ⟨ht, fun x x1 x2 => by exfalso; omega⟩⟩
theorem CL_s {W g : PTG} {z a h k e t k' e' t' e1 e2 : Int} (H : CLI W g z a h k e t) (hz : z < a) (h1 : 1 ≤ a ∧ a ≤ h) (x1 : e1 = tw_w32 (e + wH W h)) (x2 : (0 < g h.toNat ∧ k' = k + 1 ∧ e2 = tw_w32 (e1 + W 102)) ∨ (g h.toNat ≤ 0 ∧ k' = k ∧ e2 = e1))
    (x3 : (t = z ∧ W 101 < e2 ∧ t' = h) ∨ (¬ (t = z ∧ W 101 < e2) ∧ t' = t)) (x4 : (¬ wR W h = 0 ∧ e' = 0) ∨ (wR W h = 0 ∧ e' = e2)) : CLI W g z a (h + 1) k' e' t' := by
  obtain ⟨a1, a2, a3⟩ := H
  have hh : ((h.toNat : Nat) : Int) = h := by omega
  have c := cnt_si (g := g) (f := h) (by omega)
  have ex : effX W g h = e2 := by
    unfold effX effN
    rw [hh, ← a2, ← x1]
    rcases x2 with ⟨y1, y2, y3⟩ | ⟨y1, y2, y3⟩
    · rw [if_pos (decide_eq_true y1), y3]
    · rw [if_neg (by simp only [decide_eq_true_eq]; omega), y3]
  have es := eff_s (W := W) (g := g) (h := h) (by omega)
  rw [ex] at es
  have all : ∀ (v : Int), v ≤ W 101 → v = e2 → (∀ x : Int, a ≤ x → x < h → effX W g x ≤ W 101) → ∀ x : Int, a ≤ x → x < h + 1 → effX W g x ≤ W 101 := by
    intro v v1 v2 q x q1 q2
    by_cases xe : x = h
    · rw [xe, ex, ← v2]; exact v1
    · exact q x q1 (by omega)
  refine ⟨by rw [show h + 1 - 1 = h by omega]; omega, ?_, ?_⟩
  · rw [show h + 1 - 1 = h by omega, es]
    rcases x4 with ⟨y1, y2⟩ | ⟨y1, y2⟩
    · rw [if_neg y1, y2]
    · rw [if_pos y1, y2]
  · rcases a3 with ⟨b1, b2⟩ | ⟨b1, b2, b3, b4⟩
    · rcases x3 with ⟨y1, y2, y3⟩ | ⟨y1, y2⟩
      · exact Or.inr ⟨by omega, by omega, by rw [y3, ex]; exact y2, fun x q1 q2 => b2 x q1 (by omega)⟩
      · exact Or.inl ⟨by omega, all e2 (by omega) rfl b2⟩
    · rcases x3 with ⟨y1, y2, y3⟩ | ⟨y1, y2⟩
      · omega
      · rw [y2]; exact Or.inr ⟨b1, by omega, b3, b4⟩
/-- the first of a row from a foot on -/
theorem FF_end {σ : tw_M} {o : Nat} {g q : PTG} {h k : Int} (H : RG o g q σ) (hk : 0 ≤ k ∧ k ≤ σ o 0) (h1 : 1 ≤ h) (a : ∀ j : Nat, k ≤ (j : Int) → (j : Int) < σ o 0 → h ≤ σ (o + 1) j) (b : k = 0 ∨ σ (o + 1) (k - 1).toNat < h) : k = cnt g (h - 1).toNat := by
  have up : cnt g (h - 1).toNat ≤ k := by
    by_cases z : k < σ o 0
    · have l := (not_congr (RG_le H (i := k.toNat) (h := (h - 1).toNat) (by omega))).mp (by have := a k.toNat (by omega) (by omega); omega)
      omega
    · have := RG_n H (h - 1).toNat; omega
  have dn : k ≤ cnt g (h - 1).toNat := by
    by_cases z : k = 0
    · have := (cnt_in g (h - 1).toNat).1; omega
    · have l := (RG_le H (i := (k - 1).toNat) (h := (h - 1).toNat) (by omega)).mp (by omega)
      omega
  omega
/-- whether the next of a row stands at a foot -/
theorem RG_here {σ : tw_M} {o : Nat} {g q : PTG} {h k : Int} (H : RG o g q σ) (h1 : 1 ≤ h) (hk : k = cnt g (h - 1).toNat) : (0 < g h.toNat ∧ k < σ o 0 ∧ σ (o + 1) k.toNat = h) ∨ (g h.toNat ≤ 0 ∧ ¬ (k < σ o 0 ∧ σ (o + 1) k.toNat = h)) := by
  have c := cnt_si (g := g) (f := h) h1
  have n := (cnt_in g (h - 1).toNat).1
  by_cases z : 0 < g h.toNat
  · have t := RG_at H z
    refine Or.inl ⟨z, by omega, ?_⟩
    rw [show k = cnt g h.toNat - 1 by omega, t.2.2.1]
    omega
  · refine Or.inr ⟨by omega, fun q => ?_⟩
    have t := RG_cnt H k.toNat (by omega)
    rw [q.2] at t
    omega
/-! WHAT THE REFERENCE KEEPS, by feet. -/
def gM (b : Int) (σ : tw_M) : PTG := fun f => if 1 ≤ f ∧ f ≤ 40 then σ 89 (b + (f : Int)).toNat else 0
theorem gM_at {b f : Int} {σ : tw_M} (h : 1 ≤ f ∧ f ≤ 40) : gM b σ f.toNat = σ 89 (b + f).toNat := by
  unfold gM
  rw [if_pos (by omega), show ((f.toNat : Nat) : Int) = f by omega]
theorem gM_F {b b' : Int} {σ τ : tw_M} (h : ∀ f : Int, 1 ≤ f → f ≤ 40 → τ 89 (b' + f).toNat = σ 89 (b + f).toNat) : gM b' τ = gM b σ := by
  funext f
  unfold gM
  by_cases q : 1 ≤ f ∧ f ≤ 40
  · rw [if_pos q, if_pos q]; exact h _ (by omega) (by omega)
  · rw [if_neg q, if_neg q]
/-- in the midst of a fall, looked at foot by foot -/
def FM (W g : PTG) (h good f k st ho pu po : Int) : Prop :=
  (ho = -4 ∧ st = 0 ∧ pu = 0 ∧ k = cnt g f.toNat - 1 ∧ fallG W g h good f.toNat po = fallG W g h good h.toNat 0) ∨ (¬ ho = -4 ∧ (st, ho, pu, po) = fallG W g h good h.toNat 0)
section FMS
variable {W g : PTG} {h good f k st ho pu po : Int}
theorem FM_n (I : FM W g h good f k st ho pu po) (h1 : 1 ≤ f) (hg : g f.toNat ≤ 0) : FM W g h good (f - 1) k st ho pu po := by
  rcases I with ⟨a, b, c, d, e⟩ | I
  · have s := cnt_si (g := g) h1
    refine Or.inl ⟨a, b, c, by omega, ?_⟩
    rw [← e, fallG_n (by omega) hg, show f.toNat - 1 = (f - 1).toNat by omega]
  · exact Or.inr I
theorem FM_h {u d s' : Int} (I : FM W g h good f k st ho pu po) (hn : ho = -4) (h1 : 1 ≤ f) (hg : 0 < g f.toNat) (hd : d = dropS W h f) (hu : u = pullS h d) (hb : ¬ bt good k = 0) (hp : u ≤ g f.toNat + W 107) (hs : s' = tw_w32 (h - d)) (f' k' : Int) : FM W g h good f' k' s' k u po := by
  rcases I with ⟨a, b, c, e, i⟩ | I
  · have hF : ((f.toNat : Nat) : Int) = f := by omega
    have s := cnt_si (g := g) h1
    have n := (cnt_in g (f - 1).toNat).1
    refine Or.inr ⟨by omega, ?_⟩
    rw [← i, fallG_h (by omega) hg (by rw [← e]; exact hb) (by rw [hF, ← hd, ← hu]; exact hp), hF, ← hd, ← hu, ← hs, ← e]
  · exact absurd hn I.1
theorem FM_p {u d po' : Int} (I : FM W g h good f k st ho pu po) (hn : ho = -4) (h1 : 1 ≤ f) (hg : 0 < g f.toNat) (hd : d = dropS W h f) (hu : u = pullS h d) (hb : bt good k = 0 ∨ g f.toNat + W 107 < u) (hs : po' = tw_or po (tw_shl 1 k)) : FM W g h good (f - 1) (k - 1) st ho pu po' := by
  rcases I with ⟨a, b, c, e, i⟩ | I
  · have hF : ((f.toNat : Nat) : Int) = f := by omega
    have s := cnt_si (g := g) h1
    refine Or.inl ⟨a, b, c, by omega, ?_⟩
    rw [← i, fallG_p (by omega) hg (by rw [← e, hF, ← hd, ← hu]; exact hb), ← e, ← hs, show f.toNat - 1 = (f - 1).toNat by omega]
  · exact absurd hn I.1
theorem FM_end (I : FM W g h good f k st ho pu po) (hx : f ≤ 0 ∨ ¬ ho = -4) : (st, ho, pu, po) = fallG W g h good h.toNat 0 := by
  rcases I with ⟨a, b, c, e, i⟩ | I
  · rw [← i, show f.toNat = 0 by omega, a, b, c]
    rfl
  · exact I.2
end FMS
theorem harS_of {W : PTG} {h s x r : Int} (hx : x = strS W h s) (h0 : 0 ≤ wB W h ∧ wB W h ≤ 40) (hr : (x = -4 ∧ r = 0) ∨ (¬ x = -4 ∧ (r = h - x ∨ x < -4 ∨ 40 < x))) : r = harS W h s := by
  unfold strS at hx
  unfold harS
  by_cases q : s ≤ wB W h
  · rw [if_pos q] at hx ⊢
    omega
  · rw [if_neg q] at hx ⊢
    omega
