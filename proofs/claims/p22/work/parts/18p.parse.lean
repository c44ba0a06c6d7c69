/-! PARSING, as both do it. A state of numbers: 0 where it reads, 1 where its token began, 2 the token's sort, 3 the number, 4 the fault, 5 the fault's place, 6 the rules told, 7 the highest foot told; 100.. the rules, 200.. the rack, 300 + 5 foot + what the feet, 600.. the feet told, 700.. the sizes told. A failed one shows its fault and place alone. -/
abbrev PTS : Type := Nat → Int
def pF (c w : Int) : PTS := fun n => if n = 4 then c else if n = 5 then w else 0
def ok (p s k v : Int) (D : PTS) : PTS := fun n => if n = 0 then p else if n = 1 then s else if n = 2 then k else if n = 3 then (if k = 2 then v else 0) else if n = 4 then 0 else if n = 5 then 0 else D n
def pu (D : PTS) (i : Nat) (v : Int) : PTS := fun n => if n = i then v else D n
/-- the byte at a place; -1 behind the last -/
def lk (len : Int) (B : Nat → Int) (p : Int) : Int := if 0 ≤ p ∧ p < len then B p.toNat else -1
def isS (c : Int) : Bool := decide (c = 32)
def isL (c : Int) : Bool := decide (97 ≤ c ∧ c ≤ 122)
def isG (c : Int) : Bool := decide (48 ≤ c ∧ c ≤ 57)
def runK (P : Int → Bool) (f : Int → Int) : Nat → Int → Int
  | 0, p => p
  | k + 1, p => if P (f p) = true then runK P f k (p + 1) else p
/-- the first place from p on whose byte isn't of a kind -/
def run (P : Int → Bool) (f : Int → Int) (p : Int) : Int := runK P f (401 - p).toNat p
theorem run_s {P : Int → Bool} {f : Int → Int} {p : Int} (h : P (f p) = true) (hp : p ≤ 400) : run P f p = run P f (p + 1) := by
  unfold run
  obtain ⟨k, hk⟩ : ∃ k : Nat, (401 - p).toNat = k + 1 := ⟨(400 - p).toNat, by omega⟩
  rw [hk, show (401 - (p + 1)).toNat = k by omega]
  simp only [runK, h, if_true]
theorem run_n {P : Int → Bool} {f : Int → Int} {p : Int} (h : P (f p) = false) : run P f p = p := by
  unfold run
  cases (401 - p).toNat with
  | zero => rfl
  | succ k => simp [runK, h]
/-- the number of the first three figures from s on, k of them read -/
def nv (f : Int → Int) (s : Int) : Nat → Int
  | 0 => 0
  | k + 1 => if k < 3 then 10 * nv f s k + f (s + (k : Int)) - 48 else nv f s k
theorem ok_0 {p s k v : Int} {D : PTS} : ok p s k v D 0 = p := rfl
theorem ok_1 {p s k v : Int} {D : PTS} : ok p s k v D 1 = s := rfl
theorem ok_2 {p s k v : Int} {D : PTS} : ok p s k v D 2 = k := rfl
theorem ok_3 {p s k v : Int} {D : PTS} : ok p s k v D 3 = if k = 2 then v else 0 := rfl
theorem ok_4 {p s k v : Int} {D : PTS} : ok p s k v D 4 = 0 := rfl
theorem pF_4 {c w : Int} : pF c w 4 = c := rfl
theorem ok_ge {p s k v : Int} {D : PTS} {n : Nat} (h : 6 ≤ n) : ok p s k v D n = D n := by
  unfold ok
  rw [if_neg (by omega), if_neg (by omega), if_neg (by omega), if_neg (by omega), if_neg (by omega), if_neg (by omega)]
theorem ok_ok {p s k v p' s' k' v' : Int} {D : PTS} : ok p s k v (ok p' s' k' v' D) = ok p s k v D := by
  funext n
  by_cases h : 6 ≤ n
  · rw [ok_ge h, ok_ge h, ok_ge h]
  · rcases (show n = 0 ∨ n = 1 ∨ n = 2 ∨ n = 3 ∨ n = 4 ∨ n = 5 by omega) with rfl | rfl | rfl | rfl | rfl | rfl <;> rfl
theorem ok_v {p s k v v' : Int} {D : PTS} (h : k ≠ 2) : ok p s k v D = ok p s k v' D := by
  funext n
  unfold ok
  rw [if_neg h, if_neg h]
/-- the next token -/
def tok (f : Int → Int) (S : PTS) : PTS :=
  if S 4 ≠ 0 then S
  else if f (run isS f (S 0)) < 0 then ok (run isS f (S 0)) (run isS f (S 0)) 0 0 S
  else if isL (f (run isS f (S 0))) = true then ok (run isL f (run isS f (S 0))) (run isS f (S 0)) 1 0 S
  else if isG (f (run isS f (S 0))) = true then
    (if run isG f (run isS f (S 0)) - run isS f (S 0) ≤ 3 then ok (run isG f (run isS f (S 0))) (run isS f (S 0)) 2 (nv f (run isS f (S 0)) (run isG f (run isS f (S 0)) - run isS f (S 0)).toNat) S else pF 1 (run isS f (S 0)))
  else if f (run isS f (S 0)) = 59 then ok (run isS f (S 0) + 1) (run isS f (S 0)) 3 0 S
  else pF 1 (run isS f (S 0))
theorem tok_pF {f : Int → Int} {S : PTS} (h : S 4 ≠ 0) : tok f S = S := if_pos h
theorem tok_end {f : Int → Int} {p s k v s' v' : Int} {D : PTS} (hs : s' = run isS f p) (h : f s' < 0) : tok f (ok p s k v D) = ok s' s' 0 v' D := by
  subst hs
  unfold tok
  rw [if_neg (by rw [ok_4]; exact fun h => h rfl), ok_0, if_pos h, ok_ok]
  exact ok_v (by decide)
theorem tok_name {f : Int → Int} {p s k v s' q v' : Int} {D : PTS} (hs : s' = run isS f p) (h : 97 ≤ f s' ∧ f s' ≤ 122) (hq : q = run isL f s') : tok f (ok p s k v D) = ok q s' 1 v' D := by
  subst hs; subst hq
  unfold tok
  rw [if_neg (by rw [ok_4]; exact fun h => h rfl), ok_0, if_neg (by omega), if_pos (show isL (f (run isS f p)) = true from decide_eq_true h), ok_ok]
  exact ok_v (by decide)
theorem tok_num {f : Int → Int} {p s k v s' q v' : Int} {D : PTS} (hs : s' = run isS f p) (h : 48 ≤ f s' ∧ f s' ≤ 57) (hq : q = run isG f s') (hv : v' = nv f s' (q - s').toNat) (h3 : q - s' ≤ 3) : tok f (ok p s k v D) = ok q s' 2 v' D := by
  subst hs; subst hq; subst hv
  unfold tok
  rw [if_neg (by rw [ok_4]; exact fun h => h rfl), ok_0, if_neg (by omega), if_neg (by unfold isL; rw [decide_eq_true_eq]; omega), if_pos (show isG (f (run isS f p)) = true from decide_eq_true h), if_pos h3, ok_ok]
theorem tok_long {f : Int → Int} {p s k v s' : Int} {D : PTS} (hs : s' = run isS f p) (h : 48 ≤ f s' ∧ f s' ≤ 57) (h3 : 3 < run isG f s' - s') : tok f (ok p s k v D) = pF 1 s' := by
  subst hs
  unfold tok
  rw [if_neg (by rw [ok_4]; exact fun h => h rfl), ok_0, if_neg (by omega), if_neg (by unfold isL; rw [decide_eq_true_eq]; omega), if_pos (show isG (f (run isS f p)) = true from decide_eq_true h), if_neg (by omega)]
theorem tok_stop {f : Int → Int} {p s k v s' v' : Int} {D : PTS} (hs : s' = run isS f p) (h : f s' = 59) : tok f (ok p s k v D) = ok (s' + 1) s' 3 v' D := by
  subst hs
  unfold tok
  rw [if_neg (by rw [ok_4]; exact fun h => h rfl), ok_0, if_neg (by omega), if_neg (by unfold isL; rw [decide_eq_true_eq]; omega), if_neg (by unfold isG; rw [decide_eq_true_eq]; omega), if_pos h, ok_ok]
  exact ok_v (by decide)
theorem tok_bad {f : Int → Int} {p s k v s' : Int} {D : PTS} (hs : s' = run isS f p) (h : 0 ≤ f s' ∧ ¬ (97 ≤ f s' ∧ f s' ≤ 122) ∧ ¬ (48 ≤ f s' ∧ f s' ≤ 57) ∧ ¬ f s' = 59) : tok f (ok p s k v D) = pF 1 s' := by
  subst hs
  unfold tok
  rw [if_neg (by rw [ok_4]; exact fun h => h rfl), ok_0, if_neg (by omega), if_neg (by unfold isL; rw [decide_eq_true_eq]; omega), if_neg (by unfold isG; rw [decide_eq_true_eq]; omega), if_neg (by omega)]
/-- a fault, the first that is -/
def fl (c w : Int) (S : PTS) : PTS := if S 4 ≠ 0 then S else pF c w
def need (g : Bool) (c : Int) (S : PTS) : PTS := if S 4 ≠ 0 then S else if g = true then S else pF c (S 1)
def wr (i : Nat) (v : Int) (S : PTS) : PTS := if S 4 ≠ 0 then S else pu S i v
def numS (lo hi : Int) (S : PTS) : PTS := need (decide (lo ≤ S 3 ∧ S 3 ≤ hi)) 3 (need (decide (S 2 = 2)) 2 S)
theorem fl_pF {c w : Int} {S : PTS} (h : S 4 ≠ 0) : fl c w S = S := if_pos h
theorem need_pF {g : Bool} {c : Int} {S : PTS} (h : S 4 ≠ 0) : need g c S = S := if_pos h
theorem wr_pF {i : Nat} {v : Int} {S : PTS} (h : S 4 ≠ 0) : wr i v S = S := if_pos h
theorem need_t {c : Int} {S : PTS} : need true c S = S := by unfold need; split <;> simp
theorem need_f {c : Int} {S : PTS} : need false c S = fl c (S 1) S := by unfold need fl; split <;> simp
theorem numS_pF {lo hi : Int} {S : PTS} (h : S 4 ≠ 0) : numS lo hi S = S := by
  unfold numS
  rw [need_pF (S := S) h, need_pF h]
theorem wr_ok {i : Nat} {p s k v x : Int} {D : PTS} (h : 6 ≤ i) : wr i x (ok p s k v D) = ok p s k v (pu D i x) := by
  unfold wr
  rw [if_neg (by rw [ok_4]; exact fun h => h rfl)]
  funext n
  unfold pu
  by_cases hn : n = i
  · subst hn
    rw [if_pos rfl, ok_ge h, if_pos rfl]
  · rw [if_neg hn]
    by_cases h6 : 6 ≤ n
    · rw [ok_ge h6, ok_ge h6, if_neg hn]
    · rcases (show n = 0 ∨ n = 1 ∨ n = 2 ∨ n = 3 ∨ n = 4 ∨ n = 5 by omega) with rfl | rfl | rfl | rfl | rfl | rfl <;> rfl
theorem num_ok {lo hi p s v : Int} {D : PTS} (h : lo ≤ v ∧ v ≤ hi) : numS lo hi (ok p s 2 v D) = ok p s 2 v D := by
  unfold numS
  rw [show decide ((ok p s 2 v D) 2 = 2) = true from rfl, need_t, show decide (lo ≤ (ok p s 2 v D) 3 ∧ (ok p s 2 v D) 3 ≤ hi) = true from decide_eq_true h, need_t]
theorem num_sort {lo hi p s k v : Int} {D : PTS} (h : ¬ k = 2) : numS lo hi (ok p s k v D) = pF 2 s := by
  unfold numS
  rw [show decide ((ok p s k v D) 2 = 2) = false from decide_eq_false h, need_f]
  rw [show fl 2 ((ok p s k v D) 1) (ok p s k v D) = pF 2 s from if_neg (fun q => q rfl)]
  exact need_pF (by rw [pF_4]; decide)
theorem num_out {lo hi p s v : Int} {D : PTS} (h : ¬ (lo ≤ v ∧ v ≤ hi)) : numS lo hi (ok p s 2 v D) = pF 3 s := by
  unfold numS
  rw [show decide ((ok p s 2 v D) 2 = 2) = true from rfl, need_t, show decide (lo ≤ (ok p s 2 v D) 3 ∧ (ok p s 2 v D) 3 ≤ hi) = false from decide_eq_false h, need_f]
  exact if_neg (fun q => q rfl)
-- loops whose measure falls
def itK {α : Type} (stop : α → Bool) (step : α → α) : Nat → α → α
  | 0, x => x
  | k + 1, x => if stop x = true then x else itK stop step k (step x)
theorem itK_eq {α : Type} {stop : α → Bool} {step : α → α} {mes : α → Nat} (H : ∀ x, stop x = false → stop (step x) = true ∨ mes (step x) < mes x) : ∀ (m : Nat) (x : α), mes x ≤ m → ∀ k k' : Nat, mes x + 1 ≤ k → mes x + 1 ≤ k' → itK stop step k x = itK stop step k' x := by
  intro m
  induction m with
  | zero =>
    intro x hx k k' hk hk'
    obtain ⟨a, rfl⟩ : ∃ a, k = a + 1 := ⟨k - 1, by omega⟩
    obtain ⟨b, rfl⟩ : ∃ b, k' = b + 1 := ⟨k' - 1, by omega⟩
    simp only [itK]
    cases hs : stop x with
    | true => rfl
    | false =>
      rcases H x hs with h | h
      · have key : ∀ c : Nat, itK stop step c (step x) = step x := fun c => by
          cases c with
          | zero => rfl
          | succ c => simp [itK, h]
        simp [key]
      · omega
  | succ m ih =>
    intro x hx k k' hk hk'
    obtain ⟨a, rfl⟩ : ∃ a, k = a + 1 := ⟨k - 1, by omega⟩
    obtain ⟨b, rfl⟩ : ∃ b, k' = b + 1 := ⟨k' - 1, by omega⟩
    simp only [itK]
    cases hs : stop x with
    | true => rfl
    | false =>
      rcases H x hs with h | h
      · have key : ∀ c : Nat, itK stop step c (step x) = step x := fun c => by
          cases c with
          | zero => rfl
          | succ c => simp [itK, h]
        simp [key]
      · have e := ih (step x) (by omega) a b (by omega) (by omega)
        simp [e]
def it {α : Type} (stop : α → Bool) (step : α → α) (mes : α → Nat) (x : α) : α := itK stop step (mes x + 1) x
theorem it_n {α : Type} {stop : α → Bool} {step : α → α} {mes : α → Nat} {x : α} (h : stop x = true) : it stop step mes x = x := by
  unfold it
  simp [itK, h]
theorem it_s {α : Type} {stop : α → Bool} {step : α → α} {mes : α → Nat} (H : ∀ x, stop x = false → stop (step x) = true ∨ mes (step x) < mes x) {x : α} (h : stop x = false) : it stop step mes x = it stop step mes (step x) := by
  unfold it
  rw [itK]
  simp only [h]
  rcases H x h with q | q
  · have key : ∀ c : Nat, itK stop step c (step x) = step x := fun c => by
      cases c with
      | zero => rfl
      | succ c => simp [itK, q]
    simp [key]
  · have e := itK_eq H (mes (step x)) (step x) (Nat.le_refl _) (mes x) (mes (step x) + 1) (by omega) (by omega)
    simp [e]
/-! THE LINES, as the class reads them. -/
theorem run_ge {P : Int → Bool} {f : Int → Int} : ∀ (k : Nat) (p : Int), p ≤ runK P f k p
  | 0, p => Int.le_refl p
  | k + 1, p => by
    unfold runK
    split
    · have := run_ge (P := P) (f := f) k (p + 1); omega
    · omega
theorem run_le {P : Int → Bool} {f : Int → Int} {p : Int} : p ≤ run P f p := run_ge _ _
theorem run_gt {P : Int → Bool} {f : Int → Int} {p : Int} (h : P (f p) = true) (hp : p ≤ 400) : p < run P f p := by
  rw [run_s h hp]
  have := run_le (P := P) (f := f) (p := p + 1)
  omega
/-- a text ends at four hundred -/
def FB (f : Int → Int) : Prop := ∀ p, (400 ≤ p → f p = -1) ∧ -1 ≤ f p
/-- a token is taken: it goes on, but at the end -/
theorem tok_go {f : Int → Int} (hf : FB f) {S : PTS} (h : (tok f S) 4 = 0) (h2 : ¬ (tok f S) 2 = 0) : S 0 < (tok f S) 0 ∧ S 0 < 400 := by
  by_cases h4 : S 4 = 0
  · have h0 := run_le (P := isS) (f := f) (p := S 0)
    have hb := hf (run isS f (S 0))
    unfold tok at h h2 ⊢
    rw [if_neg (fun q => q h4)] at h h2 ⊢
    by_cases a : f (run isS f (S 0)) < 0
    · rw [if_pos a, ok_2] at h2
      exact absurd rfl h2
    · rw [if_neg a] at h h2 ⊢
      have hp : run isS f (S 0) < 400 := by
        rcases Int.lt_or_le (run isS f (S 0)) 400 with q | q
        · exact q
        · have := hb.1 q; omega
      by_cases b : isL (f (run isS f (S 0))) = true
      · rw [if_pos b, ok_0]
        have := run_gt (P := isL) (f := f) b (by omega)
        omega
      · rw [if_neg b] at h h2 ⊢
        by_cases c : isG (f (run isS f (S 0))) = true
        · rw [if_pos c] at h h2 ⊢
          have := run_gt (P := isG) (f := f) c (by omega)
          by_cases d : run isG f (run isS f (S 0)) - run isS f (S 0) ≤ 3
          · rw [if_pos d, ok_0]
            omega
          · rw [if_neg d, pF_4] at h
            exact absurd h (by decide)
        · rw [if_neg c] at h h2 ⊢
          by_cases d : f (run isS f (S 0)) = 59
          · rw [if_pos d, ok_0]
            omega
          · rw [if_neg d, pF_4] at h
            exact absurd h (by decide)
  · rw [tok_pF h4] at h
    exact absurd h h4
theorem tok_le {f : Int → Int} {S : PTS} (h : (tok f S) 4 = 0) : S 0 ≤ (tok f S) 0 := by
  by_cases h4 : S 4 = 0
  · have h0 := run_le (P := isS) (f := f) (p := S 0)
    have h1 := run_le (P := isL) (f := f) (p := run isS f (S 0))
    have h2 := run_le (P := isG) (f := f) (p := run isS f (S 0))
    unfold tok at h ⊢
    rw [if_neg (fun q => q h4)] at h ⊢
    by_cases a : f (run isS f (S 0)) < 0
    · rw [if_pos a, ok_0]; omega
    · rw [if_neg a] at h ⊢
      by_cases b : isL (f (run isS f (S 0))) = true
      · rw [if_pos b, ok_0]; omega
      · rw [if_neg b] at h ⊢
        by_cases c : isG (f (run isS f (S 0))) = true
        · rw [if_pos c] at h ⊢
          by_cases d : run isG f (run isS f (S 0)) - run isS f (S 0) ≤ 3
          · rw [if_pos d, ok_0]; omega
          · rw [if_neg d, pF_4] at h; exact absurd h (by decide)
        · rw [if_neg c] at h ⊢
          by_cases d : f (run isS f (S 0)) = 59
          · rw [if_pos d, ok_0]; omega
          · rw [if_neg d, pF_4] at h; exact absurd h (by decide)
  · rw [tok_pF h4]; exact Int.le_refl _
/-- what is written while a token is taken -/
theorem tok_wr {f : Int → Int} {S : PTS} {i : Nat} {v : Int} (hi : 6 ≤ i) : tok f (wr i v S) = wr i v (tok f S) := by
  by_cases h4 : S 4 = 0
  · have e0 : (pu S i v) 0 = S 0 := if_neg (by omega)
    have e4 : (pu S i v) 4 = S 4 := if_neg (by omega)
    have hok : ∀ p s k x : Int, ok p s k x (pu S i v) = wr i v (ok p s k x S) := fun p s k x => by
      rw [wr_ok hi]
    have hpf : ∀ w : Int, pF 1 w = wr i v (pF 1 w) := fun w => (wr_pF (by rw [pF_4]; decide)).symm
    rw [show wr i v S = pu S i v from if_neg (fun q => q h4)]
    unfold tok
    simp only [e0, e4, h4, ne_eq, not_true_eq_false, ↓reduceIte]
    by_cases a : f (run isS f (S 0)) < 0
    · simp only [a, ↓reduceIte]; exact hok _ _ _ _
    · simp only [a, ↓reduceIte]
      by_cases b : isL (f (run isS f (S 0))) = true
      · simp only [b, ↓reduceIte]; exact hok _ _ _ _
      · simp only [b, ↓reduceIte]
        by_cases c : isG (f (run isS f (S 0))) = true
        · simp only [c, ↓reduceIte]
          by_cases d : run isG f (run isS f (S 0)) - run isS f (S 0) ≤ 3
          · simp only [d, ↓reduceIte]; exact hok _ _ _ _
          · simp only [d, ↓reduceIte]; exact hpf _
        · simp only [c, ↓reduceIte]
          by_cases d : f (run isS f (S 0)) = 59
          · simp only [d, ↓reduceIte]; exact hok _ _ _ _
          · simp only [d, ↓reduceIte]; exact hpf _
  · rw [wr_pF h4, tok_pF h4, wr_pF h4]
/-- a word of the texts: is it that which stands from s to e -/
def nm (f : Int → Int) (s e : Int) (t : Nat) : Int := if e - s = (tw_llen t : Int) ∧ (∀ i : Nat, i < tw_llen t → f (s + (i : Int)) = tw_lch t i) then 1 else 0
theorem nm_in (f : Int → Int) (s e : Int) (t : Nat) : nm f s e t = 0 ∨ nm f s e t = 1 := by
  unfold nm
  split
  · exact Or.inr rfl
  · exact Or.inl rfl
/-- a line's name: 0 to 8 a rule, 9 at, 10 rack, -1 none -/
def lnm (f : Int → Int) (k s e : Int) : Int :=
  if ¬ k = 1 then -1 else if nm f s e 0 = 1 then 9 else if nm f s e 1 = 1 then 10 else if nm f s e 2 = 1 then 0 else if nm f s e 3 = 1 then 1 else if nm f s e 4 = 1 then 2 else if nm f s e 5 = 1 then 3
  else if nm f s e 6 = 1 then 4 else if nm f s e 7 = 1 then 5 else if nm f s e 8 = 1 then 7 else if nm f s e 9 = 1 then 8 else -1
/-- what a foot has: 0 crack, 1 ledge, 2 rest, 3 side, -1 none -/
def wnm (f : Int → Int) (k s e : Int) : Int :=
  if ¬ k = 1 then -1 else if nm f s e 10 = 1 then 0 else if nm f s e 11 = 1 then 1 else if nm f s e 12 = 1 then 2 else if nm f s e 13 = 1 then 3 else -1
/-- a name, where the token may be none -/
def nmk (f : Int → Int) (k s e : Int) (t : Nat) : Int := if k = 1 then nm f s e t else 0
theorem nmk_t {f : Int → Int} {k s e : Int} {t : Nat} (h : k = 1) : nmk f k s e t = nm f s e t := if_pos h
theorem nmk_f {f : Int → Int} {k s e : Int} {t : Nat} (h : ¬ k = 1) : nmk f k s e t = 0 := if_neg h
theorem lnm_z {f : Int → Int} {k s e : Int} : lnm f k s e = if nmk f k s e 0 = 1 then 9 else if nmk f k s e 1 = 1 then 10 else if nmk f k s e 2 = 1 then 0 else if nmk f k s e 3 = 1 then 1 else if nmk f k s e 4 = 1 then 2 else if nmk f k s e 5 = 1 then 3 else if nmk f k s e 6 = 1 then 4 else if nmk f k s e 7 = 1 then 5 else if nmk f k s e 8 = 1 then 7 else if nmk f k s e 9 = 1 then 8 else -1 := by
  unfold lnm
  by_cases h : k = 1
  · rw [if_neg (fun q => q h), nmk_t (t := 0) h, nmk_t (t := 1) h, nmk_t (t := 2) h, nmk_t (t := 3) h, nmk_t (t := 4) h, nmk_t (t := 5) h, nmk_t (t := 6) h, nmk_t (t := 7) h, nmk_t (t := 8) h, nmk_t (t := 9) h]
  · rw [if_pos h, nmk_f (t := 0) h, nmk_f (t := 1) h, nmk_f (t := 2) h, nmk_f (t := 3) h, nmk_f (t := 4) h, nmk_f (t := 5) h, nmk_f (t := 6) h, nmk_f (t := 7) h, nmk_f (t := 8) h, nmk_f (t := 9) h]
    rfl
theorem wnm_z {f : Int → Int} {k s e : Int} : wnm f k s e = if nmk f k s e 10 = 1 then 0 else if nmk f k s e 11 = 1 then 1 else if nmk f k s e 12 = 1 then 2 else if nmk f k s e 13 = 1 then 3 else -1 := by
  unfold wnm
  by_cases h : k = 1
  · rw [if_neg (fun q => q h), nmk_t (t := 10) h, nmk_t (t := 11) h, nmk_t (t := 12) h, nmk_t (t := 13) h]
  · rw [if_pos h, nmk_f (t := 10) h, nmk_f (t := 11) h, nmk_f (t := 12) h, nmk_f (t := 13) h]
    rfl
def ci (base : Nat) (v : Int) : Nat := base + v.toNat
def rackX (f : Int → Int) (S : PTS) : PTS :=
  let S1 := numS 1 10 S
  let S2 := wr (ci 700 (S1 3)) 1 (need (decide (S1 (ci 700 (S1 3)) = 0)) 4 S1)
  let S4 := numS 0 5 (tok f S2)
  tok f (wr (ci 200 (S1 3)) (S4 3) S4)
def ruleX (f : Int → Int) (k : Int) (S : PTS) : PTS :=
  let S1 := wr 6 (tw_or (S 6) (tw_shl 1 k)) (need (decide (tw_and (tw_shr (S 6) k) 1 = 0)) 4 S)
  let S2 := numS (tw_least.getD k.toNat 0).toInt (tw_most.getD k.toNat 0).toInt (tok f S1)
  let S3 := tok f (wr (ci 100 k) (S2 3) S2)
  if k = 5 then (let S4 := numS 0 20 S3; tok f (wr 106 (S4 3) S4)) else S3
def withX (f : Int → Int) (h w : Int) (S : PTS) : PTS :=
  let S1 := tok f S
  if w = 1 then wr (ci 302 (5 * h)) 1 S1
  else if w = 2 then wr (ci 303 (5 * h)) 1 S1
  else if w = 0 then (let S2 := numS 1 10 S1; tok f (wr (ci 301 (5 * h)) (S2 3) S2))
  else (let S2 := numS 0 9 S1; tok f (wr (ci 304 (5 * h)) (S2 3) S2))
def wstopX (x : PTS × Int) : Bool := decide (¬ x.1 4 = 0 ∨ x.1 2 = 3)
def wstepX (f : Int → Int) (h : Int) (x : PTS × Int) : PTS × Int :=
  let w := wnm f (x.1 2) (x.1 1) (x.1 0)
  if w < 0 then (need false 2 x.1, x.2)
  else (if tw_and (tw_shr x.2 w) 1 = 0 then withX f h w x.1 else need false 4 x.1, tw_or x.2 (tw_shl 1 w))
def wmes (x : PTS × Int) : Nat := 2 * (401 - x.1 0).toNat + (if x.1 2 = 1 then 1 else 0)
def footX (f : Int → Int) (S : PTS) : PTS :=
  let S1 := numS 1 40 S
  let h := S1 3
  let S2 := need (decide (S1 (ci 600 h) = 0)) 4 S1
  let S3 := wr 7 (if S2 7 < h then h else S2 7) (wr (ci 600 h) 1 S2)
  let S4 := numS 0 9 (tok f S3)
  (it wstopX (wstepX f h) wmes (tok f (wr (ci 300 (5 * h)) (S4 3) S4), 0)).1
def lineX (f : Int → Int) (S : PTS) : PTS :=
  let k := lnm f (S 2) (S 1) (S 0)
  let S1 := if k < 0 then need false 2 S else if k = 9 then footX f (tok f S) else if k = 10 then rackX f (tok f S) else ruleX f k S
  tok f (need (decide (S1 2 = 3)) 2 S1)
/-! THE LINES, as the reference reads them: what is read is written when the next token stands. -/
def rackM (f : Int → Int) (S : PTS) : PTS :=
  let S1 := numS 1 10 S
  let S2 := wr (ci 700 (S1 3)) 1 (need (decide (S1 (ci 700 (S1 3)) = 0)) 4 S1)
  let S4 := numS 0 5 (tok f S2)
  wr (ci 200 (S1 3)) (S4 3) (tok f S4)
def ruleM (f : Int → Int) (k : Int) (S : PTS) : PTS :=
  let S2 := numS (tw_least.getD k.toNat 0).toInt (tw_most.getD k.toNat 0).toInt S
  let S3 := wr (ci 100 k) (S2 3) (tok f S2)
  if k = 5 then (let S4 := numS 0 20 S3; wr 106 (S4 3) (tok f S4)) else S3
def withM (f : Int → Int) (h w : Int) (S : PTS) : PTS :=
  let S1 := tok f S
  if w = 0 then (let S2 := numS 1 10 S1; wr (ci 301 (5 * h)) (S2 3) (tok f S2))
  else if w = 3 then (let S2 := numS 0 9 S1; wr (ci 304 (5 * h)) (S2 3) (tok f S2))
  else if w = 1 then wr (ci 302 (5 * h)) 1 S1
  else wr (ci 303 (5 * h)) 1 S1
def wstopM (x : PTS × Int) : Bool := decide (¬ x.1 4 = 0 ∨ ¬ x.1 2 = 1)
def wstepM (f : Int → Int) (h : Int) (x : PTS × Int) : PTS × Int :=
  let w := wnm f (x.1 2) (x.1 1) (x.1 0)
  if w < 0 then (need false 2 x.1, x.2)
  else (withM f h w (need (decide (tw_and (tw_shr x.2 w) 1 = 0)) 4 x.1), tw_or x.2 (tw_shl 1 w))
def footM (f : Int → Int) (S : PTS) : PTS :=
  let S1 := numS 1 40 S
  let h := S1 3
  let S2 := need (decide (S1 (ci 600 h) = 0)) 4 S1
  let S3 := wr 7 (if S2 7 < h then h else S2 7) (wr (ci 600 h) 1 S2)
  let S4 := numS 0 9 (tok f S3)
  (it wstopM (wstepM f h) wmes (wr (ci 300 (5 * h)) (S4 3) (tok f S4), 0)).1
def lineM (f : Int → Int) (S : PTS) : PTS :=
  let k := lnm f (S 2) (S 1) (S 0)
  let S1 := need (decide (0 ≤ k)) 2 S
  let S2 := if k < 9 then wr 6 (tw_or (S1 6) (tw_shl 1 k)) (need (decide (tw_and (tw_shr (S1 6) k) 1 = 0)) 4 S1) else S1
  let S3 := tok f S2
  if ¬ S3 4 = 0 then S3
  else (let S4 := if k = 9 then footM f S3 else if k = 10 then rackM f S3 else ruleM f k S3
        tok f (need (decide (S4 2 = 3)) 2 S4))
/-! BOTH READ ALIKE. -/
theorem need_4 {g : Bool} {c : Int} {S : PTS} (hc : c ≠ 0) : (need g c S) 4 = 0 → S 4 = 0 ∧ need g c S = S := by
  intro h
  by_cases h4 : S 4 = 0
  · refine ⟨h4, ?_⟩
    unfold need at h ⊢
    rw [if_neg (fun q => q h4)] at h ⊢
    by_cases hg : g = true
    · rw [if_pos hg]
    · rw [if_neg hg, pF_4] at h
      exact absurd h hc
  · rw [need_pF h4] at h
    exact absurd h h4
theorem wr_4 {i : Nat} {v : Int} {S : PTS} (hi : 6 ≤ i) : (wr i v S) 4 = S 4 := by
  unfold wr
  split
  · rfl
  · exact if_neg (by omega)
theorem wr_lo {i n : Nat} {v : Int} {S : PTS} (hi : 6 ≤ i) (hn : n < 6) : (wr i v S) n = S n := by
  unfold wr
  split
  · rfl
  · exact if_neg (by omega)
theorem ci_ge {b : Nat} {v : Int} (h : 6 ≤ b) : 6 ≤ ci b v := by unfold ci; omega
theorem rack_XM {f : Int → Int} {S : PTS} : rackX f S = rackM f S := by
  unfold rackX rackM
  simp only
  rw [tok_wr (ci_ge (by decide))]
theorem rule_XM {f : Int → Int} {k : Int} {S : PTS} : ruleX f k S = ruleM f k (tok f (wr 6 (tw_or (S 6) (tw_shl 1 k)) (need (decide (tw_and (tw_shr (S 6) k) 1 = 0)) 4 S))) := by
  unfold ruleX ruleM
  simp only
  rw [tok_wr (ci_ge (by decide)), tok_wr (by decide)]
theorem with_XM {f : Int → Int} {h w : Int} {S : PTS} (hw : 0 ≤ w ∧ w ≤ 3) : withX f h w S = withM f h w S := by
  unfold withX withM
  simp only
  rcases (show w = 0 ∨ w = 1 ∨ w = 2 ∨ w = 3 by omega) with rfl | rfl | rfl | rfl
  · rw [if_neg (by decide), if_neg (by decide), if_pos rfl, if_pos rfl, tok_wr (ci_ge (by decide))]
  · rw [if_pos rfl, if_neg (by decide), if_neg (by decide), if_pos rfl]
  · rw [if_neg (by decide), if_pos rfl, if_neg (by decide), if_neg (by decide), if_neg (by decide)]
  · rw [if_neg (by decide), if_neg (by decide), if_neg (by decide), if_neg (by decide), if_pos rfl, tok_wr (ci_ge (by decide))]
theorem withM_pF {f : Int → Int} {h w : Int} {S : PTS} (h4 : S 4 ≠ 0) : withM f h w S = S := by
  unfold withM
  simp only
  rw [tok_pF h4]
  split
  · rw [numS_pF h4, tok_pF h4, wr_pF h4]
  · split
    · rw [numS_pF h4, tok_pF h4, wr_pF h4]
    · split
      · rw [wr_pF h4]
      · rw [wr_pF h4]
theorem wnm_in (f : Int → Int) (k s e : Int) : wnm f k s e = -1 ∨ (0 ≤ wnm f k s e ∧ wnm f k s e ≤ 3 ∧ k = 1) := by
  unfold wnm
  by_cases hk : k = 1
  · rw [if_neg (fun q => q hk)]
    split
    · exact Or.inr ⟨by decide, by decide, hk⟩
    · split
      · exact Or.inr ⟨by decide, by decide, hk⟩
      · split
        · exact Or.inr ⟨by decide, by decide, hk⟩
        · split
          · exact Or.inr ⟨by decide, by decide, hk⟩
          · exact Or.inl rfl
  · rw [if_pos hk]
    exact Or.inl rfl
theorem wstep_XM {f : Int → Int} {h : Int} {x : PTS × Int} (h4 : x.1 4 = 0) : wstepX f h x = wstepM f h x := by
  unfold wstepX wstepM
  simp only
  rcases wnm_in f (x.1 2) (x.1 1) (x.1 0) with hw | hw
  · rw [if_pos (by omega), if_pos (by omega)]
  · have hn : ¬ wnm f (x.1 2) (x.1 1) (x.1 0) < 0 := by omega
    rw [if_neg hn, if_neg hn]
    by_cases hb : tw_and (tw_shr x.2 (wnm f (x.1 2) (x.1 1) (x.1 0))) 1 = 0
    · rw [if_pos hb, decide_eq_true hb, need_t, with_XM ⟨hw.1, hw.2.1⟩]
    · rw [if_neg hb, decide_eq_false hb, need_f]
      rw [withM_pF (by unfold fl; rw [if_neg (fun q => q h4), pF_4]; decide)]
/-- a step of the words of a foot goes on -/
theorem with_go {f : Int → Int} (hf : FB f) {h w : Int} {S : PTS} (h4 : (withM f h w S) 4 = 0) : S 0 ≤ (withM f h w S) 0 ∧ (¬ (withM f h w S) 2 = 0 → S 0 < (withM f h w S) 0 ∧ S 0 < 401) := by
  have key : ∀ {T : PTS} {lo hi : Int} {i : Nat}, 6 ≤ i → (wr i ((numS lo hi (tok f T)) 3) (tok f (numS lo hi (tok f T)))) 4 = 0 → T 0 ≤ (wr i ((numS lo hi (tok f T)) 3) (tok f (numS lo hi (tok f T)))) 0 ∧ (¬ (wr i ((numS lo hi (tok f T)) 3) (tok f (numS lo hi (tok f T)))) 2 = 0 → T 0 < (wr i ((numS lo hi (tok f T)) 3) (tok f (numS lo hi (tok f T)))) 0 ∧ T 0 < 401) := by
    intro T lo hi i hi6 q
    rw [wr_4 hi6] at q
    rw [wr_lo hi6 (by decide), wr_lo hi6 (by decide)]
    have n4 : (numS lo hi (tok f T)) 4 = 0 := by
      by_cases z : (numS lo hi (tok f T)) 4 = 0
      · exact z
      · rw [tok_pF z] at q; exact q
    have n1 := need_4 (c := 3) (by decide) n4
    have n2 := need_4 (c := 2) (by decide) n1.1
    have e : numS lo hi (tok f T) = tok f T := n1.2.trans n2.2
    rw [e] at q ⊢
    have a1 := tok_le n2.1
    have a2 := tok_le q
    refine ⟨by omega, fun z => ?_⟩
    have a3 := tok_go hf q z
    omega
  unfold withM at h4 ⊢
  simp only at h4 ⊢
  have fin : ∀ {i : Nat}, 6 ≤ i → (wr i 1 (tok f S)) 4 = 0 → S 0 ≤ (wr i 1 (tok f S)) 0 ∧ (¬ (wr i 1 (tok f S)) 2 = 0 → S 0 < (wr i 1 (tok f S)) 0 ∧ S 0 < 401) := by
    intro i hi q
    rw [wr_4 hi] at q
    rw [wr_lo hi (by decide), wr_lo hi (by decide)]
    refine ⟨tok_le q, fun z => ?_⟩
    have a3 := tok_go hf q z
    omega
  by_cases w0 : w = 0
  · rw [if_pos w0] at h4 ⊢
    exact key (ci_ge (by decide)) h4
  · rw [if_neg w0] at h4 ⊢
    by_cases w3 : w = 3
    · rw [if_pos w3] at h4 ⊢
      exact key (ci_ge (by decide)) h4
    · rw [if_neg w3] at h4 ⊢
      by_cases w1 : w = 1
      · rw [if_pos w1] at h4 ⊢
        exact fin (ci_ge (by decide)) h4
      · rw [if_neg w1] at h4 ⊢
        exact fin (ci_ge (by decide)) h4
theorem wstepM_go {f : Int → Int} (hf : FB f) {h : Int} (x : PTS × Int) (hs : wstopM x = false) : wstopM (wstepM f h x) = true ∨ wmes (wstepM f h x) < wmes x := by
  have hs2 : x.1 4 = 0 ∧ x.1 2 = 1 := by
    unfold wstopM at hs
    rw [decide_eq_false_iff_not] at hs
    omega
  unfold wstepM
  simp only
  rcases wnm_in f (x.1 2) (x.1 1) (x.1 0) with hw | hw
  · rw [if_pos (by omega)]
    left
    unfold wstopM
    rw [decide_eq_true_eq]
    left
    show ¬ (need false 2 x.1) 4 = 0
    rw [need_f, show fl 2 (x.1 1) x.1 = pF 2 (x.1 1) from if_neg (fun q => q hs2.1), pF_4]
    decide
  · rw [if_neg (by omega)]
    by_cases h4 : (withM f h (wnm f (x.1 2) (x.1 1) (x.1 0)) (need (decide (tw_and (tw_shr x.2 (wnm f (x.1 2) (x.1 1) (x.1 0))) 1 = 0)) 4 x.1)) 4 = 0
    · have g := with_go hf h4
      have n4 : (need (decide (tw_and (tw_shr x.2 (wnm f (x.1 2) (x.1 1) (x.1 0))) 1 = 0)) 4 x.1) 4 = 0 := by
        by_cases z : (need (decide (tw_and (tw_shr x.2 (wnm f (x.1 2) (x.1 1) (x.1 0))) 1 = 0)) 4 x.1) 4 = 0
        · exact z
        · rw [withM_pF z] at h4; exact absurd h4 z
      have e := (need_4 (c := 4) (by decide) n4).2
      rw [e] at g h4 ⊢
      by_cases z : (withM f h (wnm f (x.1 2) (x.1 1) (x.1 0)) x.1) 2 = 1
      · right
        have g2 := g.2 (by omega)
        unfold wmes
        simp only
        rw [if_pos z, if_pos hs2.2]
        omega
      · left
        unfold wstopM
        rw [decide_eq_true_eq]
        exact Or.inr z
    · left
      unfold wstopM
      rw [decide_eq_true_eq]
      exact Or.inl h4
theorem wstepX_f {f : Int → Int} {h : Int} {x : PTS × Int} (h4 : x.1 4 = 0) (h2 : ¬ x.1 2 = 1) : wstepX f h x = (pF 2 (x.1 1), x.2) := by
  unfold wstepX
  simp only
  rw [if_pos (by rcases wnm_in f (x.1 2) (x.1 1) (x.1 0) with q | q; omega; exact absurd q.2.2 h2), need_f, show fl 2 (x.1 1) x.1 = pF 2 (x.1 1) from if_neg (fun q => q h4)]
theorem wstepX_go {f : Int → Int} (hf : FB f) {h : Int} (x : PTS × Int) (hs : wstopX x = false) : wstopX (wstepX f h x) = true ∨ wmes (wstepX f h x) < wmes x := by
  have hs2 : x.1 4 = 0 ∧ ¬ x.1 2 = 3 := by
    unfold wstopX at hs
    rw [decide_eq_false_iff_not] at hs
    omega
  by_cases h1 : x.1 2 = 1
  · rw [wstep_XM hs2.1]
    have hm : wstopM x = false := by
      unfold wstopM
      rw [decide_eq_false_iff_not]
      omega
    unfold wstepM
    simp only
    rcases wnm_in f (x.1 2) (x.1 1) (x.1 0) with hw | hw
    · rw [if_pos (by omega)]
      left
      unfold wstopX
      rw [decide_eq_true_eq]
      left
      show ¬ (need false 2 x.1) 4 = 0
      rw [need_f, show fl 2 (x.1 1) x.1 = pF 2 (x.1 1) from if_neg (fun q => q hs2.1), pF_4]
      decide
    · rw [if_neg (by omega)]
      by_cases h4 : (withM f h (wnm f (x.1 2) (x.1 1) (x.1 0)) (need (decide (tw_and (tw_shr x.2 (wnm f (x.1 2) (x.1 1) (x.1 0))) 1 = 0)) 4 x.1)) 4 = 0
      · have g := with_go hf h4
        have n4 : (need (decide (tw_and (tw_shr x.2 (wnm f (x.1 2) (x.1 1) (x.1 0))) 1 = 0)) 4 x.1) 4 = 0 := by
          by_cases z : (need (decide (tw_and (tw_shr x.2 (wnm f (x.1 2) (x.1 1) (x.1 0))) 1 = 0)) 4 x.1) 4 = 0
          · exact z
          · rw [withM_pF z] at h4; exact absurd h4 z
        have e := (need_4 (c := 4) (by decide) n4).2
        rw [e] at g h4 ⊢
        right
        unfold wmes
        simp only
        rw [if_pos h1]
        by_cases z : (withM f h (wnm f (x.1 2) (x.1 1) (x.1 0)) x.1) 2 = 1
        · have g2 := g.2 (by omega)
          rw [if_pos z]
          omega
        · rw [if_neg z]
          omega
      · left
        unfold wstopX
        rw [decide_eq_true_eq]
        exact Or.inl h4
  · rw [wstepX_f hs2.1 h1]
    left
    unfold wstopX
    rw [decide_eq_true_eq]
    left
    show ¬ (pF 2 (x.1 1)) 4 = 0
    rw [pF_4]
    decide
theorem withs_stop {f : Int → Int} (hf : FB f) {h : Int} {x : PTS × Int} (hs : wstopM x = true) :
    need (decide ((it wstopX (wstepX f h) wmes x).1 2 = 3)) 2 (it wstopX (wstepX f h) wmes x).1 = need (decide ((it wstopM (wstepM f h) wmes x).1 2 = 3)) 2 (it wstopM (wstepM f h) wmes x).1 := by
  rw [it_n hs]
  by_cases hx : wstopX x = true
  · rw [it_n hx]
  · have hx2 : wstopX x = false := by simpa using hx
    have h3 : x.1 4 = 0 ∧ ¬ x.1 2 = 3 := by
      unfold wstopX at hx2
      rw [decide_eq_false_iff_not] at hx2
      omega
    have h1 : ¬ x.1 2 = 1 := by
      unfold wstopM at hs
      rw [decide_eq_true_eq] at hs
      omega
    have e : it wstopX (wstepX f h) wmes x = (pF 2 (x.1 1), x.2) := by
      rw [it_s (wstepX_go hf) hx2, wstepX_f h3.1 h1]
      exact it_n (by unfold wstopX; rw [decide_eq_true_eq]; left; show ¬ (pF 2 (x.1 1)) 4 = 0; rw [pF_4]; decide)
    rw [e, decide_eq_false h3.2, need_f, show fl 2 (x.1 1) x.1 = pF 2 (x.1 1) from if_neg (fun q => q h3.1)]
    exact need_pF (S := pF 2 (x.1 1)) (by rw [pF_4]; decide)
/-- behind the words of a foot, and a stop wanted: both stand alike -/
theorem withs_XM {f : Int → Int} (hf : FB f) {h : Int} : ∀ (m : Nat) (x : PTS × Int), wmes x ≤ m →
    need (decide ((it wstopX (wstepX f h) wmes x).1 2 = 3)) 2 (it wstopX (wstepX f h) wmes x).1 = need (decide ((it wstopM (wstepM f h) wmes x).1 2 = 3)) 2 (it wstopM (wstepM f h) wmes x).1 := by
  intro m
  induction m with
  | zero =>
    intro x hx
    by_cases hs : wstopM x = true
    · exact withs_stop hf hs
    · have hs2 : wstopM x = false := by simpa using hs
      have h2 : x.1 4 = 0 ∧ x.1 2 = 1 := by
        unfold wstopM at hs2
        rw [decide_eq_false_iff_not] at hs2
        omega
      unfold wmes at hx
      rw [if_pos h2.2] at hx
      omega
  | succ m ih =>
    intro x hx
    by_cases hs : wstopM x = true
    · exact withs_stop hf hs
    · have hs2 : wstopM x = false := by simpa using hs
      have h2 : x.1 4 = 0 ∧ x.1 2 = 1 := by
        unfold wstopM at hs2
        rw [decide_eq_false_iff_not] at hs2
        omega
      have hx2 : wstopX x = false := by
        unfold wstopX
        rw [decide_eq_false_iff_not]
        omega
      rw [it_s (wstepX_go hf) hx2, it_s (wstepM_go hf) hs2, wstep_XM h2.1]
      rcases wstepM_go hf x hs2 with g | g
      · exact withs_stop hf g
      · exact ih _ (by omega)
theorem lnm_in (f : Int → Int) (k s e : Int) : lnm f k s e = -1 ∨ (0 ≤ lnm f k s e ∧ lnm f k s e ≤ 10 ∧ k = 1) := by
  unfold lnm
  by_cases hk : k = 1
  · rw [if_neg (fun q => q hk)]
    repeat' split
    all_goals first | exact Or.inl rfl | exact Or.inr ⟨by decide, by decide, hk⟩
  · rw [if_pos hk]
    exact Or.inl rfl
theorem footM_pF {f : Int → Int} {S : PTS} (h4 : S 4 ≠ 0) : footM f S = S := by
  unfold footM
  simp only
  rw [numS_pF h4, need_pF h4, wr_pF h4, wr_pF h4, tok_pF h4, numS_pF h4, tok_pF h4, wr_pF h4]
  rw [it_n (by unfold wstopM; rw [decide_eq_true_eq]; exact Or.inl h4)]
theorem rackM_pF {f : Int → Int} {S : PTS} (h4 : S 4 ≠ 0) : rackM f S = S := by
  unfold rackM
  simp only
  rw [numS_pF h4, need_pF h4, wr_pF h4, tok_pF h4, numS_pF h4, tok_pF h4, wr_pF h4]
theorem ruleM_pF {f : Int → Int} {k : Int} {S : PTS} (h4 : S 4 ≠ 0) : ruleM f k S = S := by
  unfold ruleM
  simp only
  rw [numS_pF h4, tok_pF h4, wr_pF h4]
  split
  · rw [numS_pF h4, tok_pF h4, wr_pF h4]
  · rfl
theorem foot_XM {f : Int → Int} (hf : FB f) {S : PTS} : need (decide ((footX f S) 2 = 3)) 2 (footX f S) = need (decide ((footM f S) 2 = 3)) 2 (footM f S) := by
  unfold footX footM
  simp only
  rw [tok_wr (ci_ge (by decide))]
  exact withs_XM hf _ _ (Nat.le_refl _)
/-- BOTH READ A LINE ALIKE -/
theorem line_XM {f : Int → Int} (hf : FB f) {S : PTS} : lineX f S = lineM f S := by
  unfold lineX lineM
  simp only
  rcases lnm_in f (S 2) (S 1) (S 0) with hk | hk
  · have e4 : (need false 2 S) 4 ≠ 0 := by
      rw [need_f]
      unfold fl
      by_cases h4 : S 4 = 0
      · rw [if_neg (fun q => q h4), pF_4]; decide
      · rw [if_pos h4]; exact h4
    have e5 : ¬ (need false 2 S) 4 = 0 := e4
    rw [hk, if_pos (show (-1 : Int) < 0 by decide), if_pos (show (-1 : Int) < 9 by decide), show decide ((0 : Int) ≤ -1) = false from rfl]
    rw [need_pF (S := need false 2 S) (c := 2) e4, need_pF (S := need false 2 S) (c := 4) e4, wr_pF e4, tok_pF e4, if_pos e5]
  · have n0 : ¬ lnm f (S 2) (S 1) (S 0) < 0 := by omega
    rw [if_neg n0, decide_eq_true hk.1, need_t]
    by_cases h9 : lnm f (S 2) (S 1) (S 0) = 9
    · have n9 : ¬ lnm f (S 2) (S 1) (S 0) < 9 := by omega
      rw [if_pos h9, if_neg n9, if_pos h9]
      by_cases h4 : (tok f S) 4 = 0
      · have h5 : ¬ ¬ (tok f S) 4 = 0 := fun q => q h4
        rw [if_neg h5, foot_XM hf]
      · have e := foot_XM hf (S := tok f S)
        rw [if_pos h4, e, footM_pF h4, need_pF h4, tok_pF h4]
    · rw [if_neg h9, if_neg h9]
      by_cases h10 : lnm f (S 2) (S 1) (S 0) = 10
      · have n9 : ¬ lnm f (S 2) (S 1) (S 0) < 9 := by omega
        rw [if_pos h10, if_neg n9, if_pos h10]
        by_cases h4 : (tok f S) 4 = 0
        · have h5 : ¬ ¬ (tok f S) 4 = 0 := fun q => q h4
          rw [if_neg h5, rack_XM]
        · rw [if_pos h4, rack_XM, rackM_pF h4, need_pF h4, tok_pF h4]
      · have p9 : lnm f (S 2) (S 1) (S 0) < 9 := by omega
        rw [if_neg h10, if_neg h10, if_pos p9, rule_XM]
        by_cases h4 : (tok f (wr 6 (tw_or (S 6) (tw_shl 1 (lnm f (S 2) (S 1) (S 0)))) (need (decide (tw_and (tw_shr (S 6) (lnm f (S 2) (S 1) (S 0))) 1 = 0)) 4 S))) 4 = 0
        · have h5 : ¬ ¬ (tok f (wr 6 (tw_or (S 6) (tw_shl 1 (lnm f (S 2) (S 1) (S 0)))) (need (decide (tw_and (tw_shr (S 6) (lnm f (S 2) (S 1) (S 0))) 1 = 0)) 4 S))) 4 = 0 := fun q => q h4
          rw [if_neg h5]
        · rw [if_pos h4, ruleM_pF h4, need_pF h4, tok_pF h4]
