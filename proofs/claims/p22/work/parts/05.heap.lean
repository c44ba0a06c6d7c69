/-! THE ROWS OF J: fields, rows of numbers, what stands outside, calls, ends. -/
def tw_at (G : tw_G) (o ci : Nat) (sl : List Nat) : Prop := o ∈ gks G ∧ tw_lay o = tO ci sl
def tw_ar (G : tw_G) (o : Nat) (t : FieldType) (n : Nat) : Prop := o ∈ gks G ∧ tw_lay o = tA t n ∧ (gca G t, t) ∈ gty G
def tw_sr (G : tw_G) (o : Nat) (l : List Nat) : Prop := o ∈ gks G ∧ tw_lay o = tS l ∧ (gca G (.object RX8), FieldType.object RX8) ∈ gty G
def tw_fl (own : String) (ix ci k : Nat) : Prop := ∃ (C : String) (T : u_T) (N : Nat), tw_cl[ci]? = some (C, T, N) ∧ k < N ∧ (∀ w ∈ u_ws C T N, w ∈ tw_ws) ∧ Cond.fieldLink own ix (T k).1 (T k).2.1 (T k).2.2.1 ∈ tw_ws
def tw_fp (ci k : Nat) (ty : FieldType) : Prop := ∃ (C : String) (T : u_T) (N : Nat) (t0 : Nat → FieldType), tw_cl[ci]? = some (C, T, N) ∧ (∀ k, k < N → parseFieldDescriptor (T k).2.2.1 = some (t0 k)) ∧ (∀ a, a < N → ∀ b, b < N → a ≠ b → (T a).2.1 ≠ (T b).2.1) ∧ t0 k = ty ∧ (T k).2.2.2 = false
section JH
variable {G : tw_G} {M : tw_T} {E : List Frame → Array Value → State → State → Prop} {pc : Nat} {ls : List (Nat × tw_V)} {st : List tw_V} {σ : tw_M}
theorem tw_e_obj {o ci : Nat} {sl : List Nat} (h : tw_lay o = tO ci sl) : tw_e G σ o = .inr (ci, tw_f G σ o 0 sl) := by simp [tw_e, h]
theorem tw_e_arr {o n : Nat} {t : FieldType} (h : tw_lay o = tA t n) : tw_e G σ o = .inl (gca G t, (n, .inl (fun j => Int32.ofInt (σ o j)))) := by simp [tw_e, h]
theorem tw_e_row {o : Nat} {l : List Nat} (h : tw_lay o = tS l) : tw_e G σ o = .inl (gca G (.object RX8), (l.length, .inr (.inr (.inr (.inr (fun j => (l[j]?).map (gad G))))))) := by simp [tw_e, h]
theorem tw_obj {o ci : Nat} {sl : List Nat} (h : tw_at G o ci sl) : ∃ q : Nat, (gks G)[q]? = some o ∧ (tw_w G σ)[q]? = some (gad G o, .inr (ci, tw_f G σ o 0 sl)) := by
  obtain ⟨q, hq⟩ := tw_idx h.1
  exact ⟨q, hq, by rw [tw_w_get hq, tw_e_obj h.2]⟩
theorem tw_arr {o n : Nat} {t : FieldType} (h : tw_ar G o t n) : ∃ q t0 : Nat, (gks G)[q]? = some o ∧ (tw_w G σ)[q]? = some (gad G o, .inl (gca G t, (n, .inl (fun j => Int32.ofInt (σ o j))))) ∧ (gty G)[t0]? = some (gca G t, t) := by
  obtain ⟨q, hq⟩ := tw_idx h.1
  obtain ⟨t0, ht⟩ := tw_idx h.2.2
  exact ⟨q, t0, hq, by rw [tw_w_get hq, tw_e_arr h.2.1], ht⟩
theorem j_getAny {ix ci k o c0 : Nat} {sl : List Nat} {v : tw_V} (hf : tw_fl (mo M) ix ci k) (hd : decode (mb M) pc = .ok (.getfield ix, 3)) (ho : tw_at G o ci sl) (hs : sl[k]? = some c0) (hv : tw_s G σ o k c0 = tw_v G v)
    (kk : tw_J G M E (pc + 3) ls (v :: st) σ) : tw_J G M E pc ls (vR o :: st) σ := by
  intro p e s m args below meth c H locs la X hP hS hl
  obtain ⟨C, T, N, h1, h2, h3, h4⟩ := hf
  obtain ⟨q, hq, hw⟩ := tw_obj (σ := σ) ho
  exact va_get X.1 X.2.1 X.2.2.2.2.2.1 h3 X.2.2.2.2.1 X.2.2.2.2.2.2.2.1 hP q hw h1 k h2 (X.2.2.2.2.2.1 _ h4) (fun _ h => h) (v := tw_v G v) (by rw [tw_f_get, hs, Nat.zero_add, ← hv]; rfl) hd (kk p e s m args below meth c H locs la X hP hS hl)
theorem j_getI {ix ci k o : Nat} {sl : List Nat} (hf : tw_fl (mo M) ix ci k) (hd : decode (mb M) pc = .ok (.getfield ix, 3)) (ho : tw_at G o ci sl) (hs : sl[k]? = some 0)
    (kk : tw_J G M E (pc + 3) ls (vI (σ o k) :: st) σ) : tw_J G M E pc ls (vR o :: st) σ := j_getAny hf hd ho hs rfl kk
theorem j_getL {ix ci k o : Nat} {sl : List Nat} (hf : tw_fl (mo M) ix ci k) (hd : decode (mb M) pc = .ok (.getfield ix, 3)) (ho : tw_at G o ci sl) (hs : sl[k]? = some 1)
    (kk : tw_J G M E (pc + 3) ls (vL (σ o k) :: st) σ) : tw_J G M E pc ls (vR o :: st) σ := j_getAny hf hd ho hs rfl kk
theorem j_getR {ix ci k o r : Nat} {sl : List Nat} (hf : tw_fl (mo M) ix ci k) (hd : decode (mb M) pc = .ok (.getfield ix, 3)) (ho : tw_at G o ci sl) (hs : sl[k]? = some (r + 2))
    (kk : tw_J G M E (pc + 3) ls (vR r :: st) σ) : tw_J G M E pc ls (vR o :: st) σ := j_getAny hf hd ho hs rfl kk
theorem j_putAny {ix ci k o c0 : Nat} {sl : List Nat} {v : tw_V} {x : Int} {ty : FieldType} (hf : tw_fl (mo M) ix ci k) (hp : tw_fp ci k ty) (hd : decode (mb M) pc = .ok (.putfield ix, 3)) (ho : tw_at G o ci sl) (hs : sl[k]? = some c0) (hv : tw_s G (tw_up σ o k x) o k c0 = tw_v G v)
    (hn : narrow ty (tw_v G v) = tw_v G v) (hfit : fits ty (tw_v G v) = true) (kk : tw_J G M E (pc + 3) ls st (tw_up σ o k x)) : tw_J G M E pc ls (v :: vR o :: st) σ := by
  intro p e s m args below meth c H locs la X hP hS hl
  obtain ⟨C, T, N, h1, h2, h3, h4⟩ := hf
  obtain ⟨C', T', N', t0, g1, g2, g3, g4, g5⟩ := hp
  rw [h1] at g1
  cases g1
  obtain ⟨q, hq, hw⟩ := tw_obj (σ := σ) ho
  have hok := X.2.2.2.2.2.2.2.2.1
  have hset := tw_w_set (σ := σ) (v := x) (j := k) (e := .inr (ci, (tw_f G σ o 0 sl).set k (tw_v G v))) hok.1 hq (by rw [tw_e_obj ho.2, tw_f_set hs hv])
  exact va_put X.1 X.2.1 X.2.2.2.2.2.1 h3 t0 g2 g3 X.2.2.2.2.1 X.2.2.2.2.2.2.2.1 hP (tw_dd hok σ) hS q hw h1 k h2 (X.2.2.2.2.2.1 _ h4) (fun _ h => h) g5 (by rw [← g4]; exact g2 k h2) hn hfit (by rw [tw_f_len]; exact (List.getElem?_eq_some_iff.mp hs).1) hd
    (fun H1 locs1 hP1 hD1 hS1 => kk p e s m args below meth c H1 locs1 la X (by rw [← hset]; exact hP1) hS1 hl)
theorem tw_up_self (σ : tw_M) (o k : Nat) (x : Int) : tw_up σ o k x o k = x := by simp [tw_up]
theorem j_putI {ix ci k o : Nat} {sl : List Nat} {x : Int} (hf : tw_fl (mo M) ix ci k) (hp : tw_fp ci k .int) (hd : decode (mb M) pc = .ok (.putfield ix, 3)) (ho : tw_at G o ci sl) (hs : sl[k]? = some 0)
    (kk : tw_J G M E (pc + 3) ls st (tw_up σ o k x)) : tw_J G M E pc ls (vI x :: vR o :: st) σ := j_putAny hf hp hd ho hs (by show Value.int _ = Value.int _; rw [tw_up_self]) rfl rfl kk
theorem j_putL {ix ci k o : Nat} {sl : List Nat} {x : Int} (hf : tw_fl (mo M) ix ci k) (hp : tw_fp ci k .long) (hd : decode (mb M) pc = .ok (.putfield ix, 3)) (ho : tw_at G o ci sl) (hs : sl[k]? = some 1)
    (kk : tw_J G M E (pc + 3) ls st (tw_up σ o k x)) : tw_J G M E pc ls (vL x :: vR o :: st) σ := j_putAny hf hp hd ho hs (by show Value.long _ = Value.long _; rw [tw_up_self]) rfl rfl kk
theorem j_putZ {ix ci k o : Nat} {sl : List Nat} {x : Int} (hx : x = 0 ∨ x = 1) (hf : tw_fl (mo M) ix ci k) (hp : tw_fp ci k .boolean) (hd : decode (mb M) pc = .ok (.putfield ix, 3)) (ho : tw_at G o ci sl) (hs : sl[k]? = some 0)
    (kk : tw_J G M E (pc + 3) ls st (tw_up σ o k x)) : tw_J G M E pc ls (vI x :: vR o :: st) σ := j_putAny hf hp hd ho hs (by show Value.int _ = Value.int _; rw [tw_up_self]) (by rcases hx with rfl | rfl <;> rfl) (by rcases hx with rfl | rfl <;> rfl) kk
theorem tw_ix {i : Int} {n : Nat} (h1 : 0 ≤ i) (h2 : i < n) (hn : n ≤ 2147483647) : vp_in (Int32.ofInt i) n ∧ (Int32.ofInt i).toNatClampNeg = i.toNat := by
  have e : (Int32.ofInt i).toInt = i := w32_eq (by omega) (by omega)
  refine ⟨vp_in_iff.mpr ⟨by rw [e]; exact h1, by rw [e]; exact h2⟩, ?_⟩
  show (Int32.ofInt i).toInt.toNat = i.toNat
  rw [e]
theorem j_iald {o n : Nat} {i : Int} (hd : decode (mb M) pc = .ok (.iaload, 1)) (ho : tw_ar G o .int n) (h1 : 0 ≤ i) (h2 : i < n) (hn : n ≤ 2147483647 := by decide)
    (kk : tw_J G M E (pc + 1) ls (vI (σ o i.toNat) :: st) σ) : tw_J G M E pc ls (vI i :: vR o :: st) σ := by
  intro p e s m args below meth c H locs la X hP hS hl
  obtain ⟨q, t0, hq, hw, ht⟩ := tw_arr (σ := σ) ho
  obtain ⟨g1, g2⟩ := tw_ix h1 h2 hn
  refine va_iald X.1 X.2.1 X.2.2.2.2.2.2.2.1 hP q t0 hw ht g1 hd ?_
  rw [g2]
  exact kk p e s m args below meth c H locs la X hP hS hl
theorem j_bald {o n : Nat} {i : Int} (hd : decode (mb M) pc = .ok (.baload, 1)) (ho : tw_ar G o .byte n) (h1 : 0 ≤ i) (h2 : i < n) (hn : n ≤ 2147483647 := by decide)
    (kk : tw_J G M E (pc + 1) ls (vI (σ o i.toNat) :: st) σ) : tw_J G M E pc ls (vI i :: vR o :: st) σ := by
  intro p e s m args below meth c H locs la X hP hS hl
  obtain ⟨q, t0, hq, hw, ht⟩ := tw_arr (σ := σ) ho
  obtain ⟨g1, g2⟩ := tw_ix h1 h2 hn
  refine va_bald X.1 X.2.1 X.2.2.2.2.2.2.2.1 hP q t0 hw ht g1 hd ?_
  rw [g2]
  exact kk p e s m args below meth c H locs la X hP hS hl
theorem j_zald {o n : Nat} {i : Int} (hd : decode (mb M) pc = .ok (.baload, 1)) (ho : tw_ar G o .boolean n) (h1 : 0 ≤ i) (h2 : i < n) (hn : n ≤ 2147483647 := by decide)
    (kk : tw_J G M E (pc + 1) ls (vI (σ o i.toNat) :: st) σ) : tw_J G M E pc ls (vI i :: vR o :: st) σ := by
  intro p e s m args below meth c H locs la X hP hS hl
  obtain ⟨q, t0, hq, hw, ht⟩ := tw_arr (σ := σ) ho
  obtain ⟨g1, g2⟩ := tw_ix h1 h2 hn
  refine va_zald X.1 X.2.1 X.2.2.2.2.2.2.2.1 hP q t0 hw ht g1 hd ?_
  rw [g2]
  exact kk p e s m args below meth c H locs la X hP hS hl
theorem tw_upd {o j : Nat} {x : Int} {y : Int32} (h : Int32.ofInt x = y) : upd (fun j => Int32.ofInt (σ o j)) j y = (fun i => Int32.ofInt (tw_up σ o j x o i)) := by
  funext i
  unfold upd tw_up
  by_cases hi : i = j
  · simp [hi, h]
  · simp [hi]
theorem j_iast {o n : Nat} {i x : Int} (hd : decode (mb M) pc = .ok (.iastore, 1)) (ho : tw_ar G o .int n) (h1 : 0 ≤ i) (h2 : i < n) (hn : n ≤ 2147483647 := by decide)
    (kk : tw_J G M E (pc + 1) ls st (tw_up σ o i.toNat x)) : tw_J G M E pc ls (vI x :: vI i :: vR o :: st) σ := by
  intro p e s m args below meth c H locs la X hP hS hl
  obtain ⟨q, t0, hq, hw, ht⟩ := tw_arr (σ := σ) ho
  obtain ⟨g1, g2⟩ := tw_ix h1 h2 hn
  have hok := X.2.2.2.2.2.2.2.2.1
  have hset := tw_w_set (σ := σ) (v := x) (j := i.toNat) (e := .inl (gca G .int, (n, .inl (upd (fun j => Int32.ofInt (σ o j)) i.toNat (Int32.ofInt x))))) hok.1 hq (by rw [tw_e_arr ho.2.1, tw_upd rfl])
  refine va_iast X.1 X.2.1 X.2.2.2.2.2.2.2.1 hP (tw_dd hok σ) hS q t0 hw ht g1 hd (fun H1 locs1 hP1 hD1 hS1 => ?_)
  rw [g2, hset] at hP1
  exact kk p e s m args below meth c H1 locs1 la X hP1 hS1 hl
theorem j_bast {o n : Nat} {i x : Int} (hd : decode (mb M) pc = .ok (.bastore, 1)) (ho : tw_ar G o .byte n) (h1 : 0 ≤ i) (h2 : i < n) (hn : n ≤ 2147483647 := by decide)
    (kk : tw_J G M E (pc + 1) ls st (tw_up σ o i.toNat (tw_i2b x))) : tw_J G M E pc ls (vI x :: vI i :: vR o :: st) σ := by
  intro p e s m args below meth c H locs la X hP hS hl
  obtain ⟨q, t0, hq, hw, ht⟩ := tw_arr (σ := σ) ho
  obtain ⟨g1, g2⟩ := tw_ix h1 h2 hn
  have hok := X.2.2.2.2.2.2.2.2.1
  have hset := tw_w_set (σ := σ) (v := tw_i2b x) (j := i.toNat) (e := .inl (gca G .byte, (n, .inl (upd (fun j => Int32.ofInt (σ o j)) i.toNat (vp_nar .byte (Int32.ofInt x)))))) hok.1 hq (by rw [tw_e_arr ho.2.1, tw_upd (x := tw_i2b x) (by rw [vp_nar_byte]; exact Int32.ofInt_toInt _)])
  refine va_bast X.1 X.2.1 X.2.2.2.2.2.2.2.1 hP (tw_dd hok σ) hS q t0 hw ht g1 hd (fun H1 locs1 hP1 hD1 hS1 => ?_)
  rw [g2, hset] at hP1
  exact kk p e s m args below meth c H1 locs1 la X hP1 hS1 hl
theorem j_zast {o n : Nat} {i x : Int} (hx : x = 0 ∨ x = 1) (hd : decode (mb M) pc = .ok (.bastore, 1)) (ho : tw_ar G o .boolean n) (h1 : 0 ≤ i) (h2 : i < n) (hn : n ≤ 2147483647 := by decide)
    (kk : tw_J G M E (pc + 1) ls st (tw_up σ o i.toNat x)) : tw_J G M E pc ls (vI x :: vI i :: vR o :: st) σ := by
  intro p e s m args below meth c H locs la X hP hS hl
  obtain ⟨q, t0, hq, hw, ht⟩ := tw_arr (σ := σ) ho
  obtain ⟨g1, g2⟩ := tw_ix h1 h2 hn
  have hok := X.2.2.2.2.2.2.2.2.1
  have hset := tw_w_set (σ := σ) (v := x) (j := i.toNat) (e := .inl (gca G .boolean, (n, .inl (upd (fun j => Int32.ofInt (σ o j)) i.toNat (vp_nar .boolean (Int32.ofInt x)))))) hok.1 hq (by rw [tw_e_arr ho.2.1, tw_upd (x := x) (by rcases hx with rfl | rfl <;> rfl)])
  refine va_zast X.1 X.2.1 X.2.2.2.2.2.2.2.1 hP (tw_dd hok σ) hS q t0 hw ht g1 hd (fun H1 locs1 hP1 hD1 hS1 => ?_)
  rw [g2, hset] at hP1
  exact kk p e s m args below meth c H1 locs1 la X hP1 hS1 hl
theorem j_alen {o n : Nat} {t : FieldType} (hd : decode (mb M) pc = .ok (.arraylength, 1)) (ho : tw_ar G o t n)
    (kk : tw_J G M E (pc + 1) ls (vI (n : Int) :: st) σ) : tw_J G M E pc ls (vR o :: st) σ := by
  intro p e s m args below meth c H locs la X hP hS hl
  obtain ⟨q, t0, hq, hw, ht⟩ := tw_arr (σ := σ) ho
  exact va_alen X.1 X.2.1 X.2.2.2.2.2.2.2.1 hP q t0 hw ht (v := Int32.ofInt (n : Int)) rfl hd (kk p e s m args below meth c H locs la X hP hS hl)
theorem tw_srow {o : Nat} {l : List Nat} (h : tw_sr G o l) : ∃ q t0 : Nat, (gks G)[q]? = some o ∧ (tw_w G σ)[q]? = some (gad G o, .inl (gca G (.object RX8), (l.length, .inr (.inr (.inr (.inr (fun j => (l[j]?).map (gad G)))))))) ∧ (gty G)[t0]? = some (gca G (.object RX8), .object RX8) := by
  obtain ⟨q, hq⟩ := tw_idx h.1
  obtain ⟨t0, ht⟩ := tw_idx h.2.2
  exact ⟨q, t0, hq, by rw [tw_w_get hq, tw_e_row h.2.1], ht⟩
theorem j_alenS {o : Nat} {l : List Nat} (hd : decode (mb M) pc = .ok (.arraylength, 1)) (ho : tw_sr G o l)
    (kk : tw_J G M E (pc + 1) ls (vI (l.length : Int) :: st) σ) : tw_J G M E pc ls (vR o :: st) σ := by
  intro p e s m args below meth c H locs la X hP hS hl
  obtain ⟨q, t0, hq, hw, ht⟩ := tw_srow (σ := σ) ho
  exact va_alen X.1 X.2.1 X.2.2.2.2.2.2.2.1 hP q t0 hw ht (v := Int32.ofInt (l.length : Int)) rfl hd (kk p e s m args below meth c H locs la X hP hS hl)
theorem j_aald {o r : Nat} {l : List Nat} {i : Int} (hd : decode (mb M) pc = .ok (.aaload, 1)) (ho : tw_sr G o l) (h1 : 0 ≤ i) (h2 : i < l.length) (hr : l[i.toNat]? = some r) (hn : l.length ≤ 2147483647 := by decide)
    (kk : tw_J G M E (pc + 1) ls (vR r :: st) σ) : tw_J G M E pc ls (vI i :: vR o :: st) σ := by
  intro p e s m args below meth c H locs la X hP hS hl
  obtain ⟨q, t0, hq, hw, ht⟩ := tw_srow (σ := σ) ho
  obtain ⟨g1, g2⟩ := tw_ix h1 h2 hn
  refine va_aldq X.1 X.2.1 X.2.2.2.2.2.2.2.1 hP q t0 hw ht g1 hd ?_
  rw [g2, hr]
  exact kk p e s m args below meth c H locs la X hP hS hl
-- what stands outside
theorem j_getsFirst {ix : Nat} (hw : Cond.fieldLink (mo M) ix RX10 "FIRST" "[I" ∈ tw_ws) (hd : decode (mb M) pc = .ok (.getstatic ix, 3)) (kk : tw_J G M E (pc + 3) ls (vR 240 :: st) σ) : tw_J G M E pc ls st σ := by
  intro p e s m args below meth c H locs la X hP hS hl
  exact va_gets X.1 X.2.1 X.2.2.2.2.2.2.2.2.2.1.1.1 hS X.2.2.2.2.1 (X.2.2.2.2.2.1 _ hw) (fun _ h => h) hd (kk p e s m args below meth c H locs la X hP hS hl)
theorem j_getsLeast {ix : Nat} (hw : Cond.fieldLink (mo M) ix RX9 "LEAST" "[I" ∈ tw_ws) (hd : decode (mb M) pc = .ok (.getstatic ix, 3)) (kk : tw_J G M E (pc + 3) ls (vR 241 :: st) σ) : tw_J G M E pc ls st σ := by
  intro p e s m args below meth c H locs la X hP hS hl
  exact va_gets X.1 X.2.1 X.2.2.2.2.2.2.2.2.2.1.2.1.1 hS X.2.2.2.2.1 (X.2.2.2.2.2.1 _ hw) (fun _ h => h) hd (kk p e s m args below meth c H locs la X hP hS hl)
theorem j_getsMost {ix : Nat} (hw : Cond.fieldLink (mo M) ix RX9 "MOST" "[I" ∈ tw_ws) (hd : decode (mb M) pc = .ok (.getstatic ix, 3)) (kk : tw_J G M E (pc + 3) ls (vR 242 :: st) σ) : tw_J G M E pc ls st σ := by
  intro p e s m args below meth c H locs la X hP hS hl
  exact va_gets X.1 X.2.1 X.2.2.2.2.2.2.2.2.2.1.2.2.1.1 hS X.2.2.2.2.1 (X.2.2.2.2.2.1 _ hw) (fun _ h => h) hd (kk p e s m args below meth c H locs la X hP hS hl)
theorem j_tFirst {i : Int} (hd : decode (mb M) pc = .ok (.iaload, 1)) (h1 : 0 ≤ i) (h2 : i < 9) (kk : tw_J G M E (pc + 1) ls (vI (tw_first.getD i.toNat 0).toInt :: st) σ) : tw_J G M E pc ls (vI i :: vR 240 :: st) σ := by
  intro p e s m args below meth c H locs la X hP hS hl
  obtain ⟨g1, g2⟩ := tw_ix (n := 9) h1 h2 (by decide)
  refine va_ti X.1 X.2.1 X.2.2.2.2.2.2.2.2.2.1.1.2 hS g1 (v := tw_v G (vI (tw_first.getD i.toNat 0).toInt)) ?_ hd (kk p e s m args below meth c H locs la X hP hS hl)
  rw [g2]
  show Value.int _ = Value.int _
  rw [Int32.ofInt_toInt]
theorem j_tLeast {i : Int} (hd : decode (mb M) pc = .ok (.iaload, 1)) (h1 : 0 ≤ i) (h2 : i < 9) (kk : tw_J G M E (pc + 1) ls (vI (tw_least.getD i.toNat 0).toInt :: st) σ) : tw_J G M E pc ls (vI i :: vR 241 :: st) σ := by
  intro p e s m args below meth c H locs la X hP hS hl
  obtain ⟨g1, g2⟩ := tw_ix (n := 9) h1 h2 (by decide)
  refine va_ti X.1 X.2.1 X.2.2.2.2.2.2.2.2.2.1.2.1.2 hS g1 (v := tw_v G (vI (tw_least.getD i.toNat 0).toInt)) ?_ hd (kk p e s m args below meth c H locs la X hP hS hl)
  rw [g2]
  show Value.int _ = Value.int _
  rw [Int32.ofInt_toInt]
theorem j_tMost {i : Int} (hd : decode (mb M) pc = .ok (.iaload, 1)) (h1 : 0 ≤ i) (h2 : i < 9) (kk : tw_J G M E (pc + 1) ls (vI (tw_most.getD i.toNat 0).toInt :: st) σ) : tw_J G M E pc ls (vI i :: vR 242 :: st) σ := by
  intro p e s m args below meth c H locs la X hP hS hl
  obtain ⟨g1, g2⟩ := tw_ix (n := 9) h1 h2 (by decide)
  refine va_ti X.1 X.2.1 X.2.2.2.2.2.2.2.2.2.1.2.2.1.2 hS g1 (v := tw_v G (vI (tw_most.getD i.toNat 0).toInt)) ?_ hd (kk p e s m args below meth c H locs la X hP hS hl)
  rw [g2]
  show Value.int _ = Value.int _
  rw [Int32.ofInt_toInt]
theorem j_getsCompact {ix : Nat} (hw : Cond.fieldLink (mo M) ix RJ0 "COMPACT_STRINGS" "Z" ∈ tw_ws) (hd : decode (mb M) pc = .ok (.getstatic ix, 3)) (kk : tw_J G M E (pc + 3) ls (vI 1 :: st) σ) : tw_J G M E pc ls st σ := by
  intro p e s m args below meth c H locs la X hP hS hl
  exact va_gets X.1 X.2.1 X.2.2.2.2.2.2.2.2.2.1.2.2.2.1 hS X.2.2.2.2.1 (X.2.2.2.2.2.1 _ hw) (fun _ h => h) hd (kk p e s m args below meth c H locs la X hP hS hl)
theorem j_getsForm {ix : Nat} (hw : Cond.fieldLink (mo M) ix RJ3 "SIOOBE_FORMATTER" "Ljava/util/function/BiFunction;" ∈ tw_ws) (hd : decode (mb M) pc = .ok (.getstatic ix, 3)) (k1 : tw_J G M E (pc + 3) ls (vV .null :: st) σ) (k2 : ∀ t : Nat, tw_J G M E (pc + 3) ls (vV (.ref t) :: st) σ) : tw_J G M E pc ls st σ := by
  intro p e s m args below meth c H locs la X hP hS hl
  rcases X.2.2.2.2.2.2.2.2.2.1.2.2.2.2.1 with h | ⟨t, h⟩
  · exact va_gets X.1 X.2.1 h hS X.2.2.2.2.1 (X.2.2.2.2.2.1 _ hw) (fun _ h => h) hd (k1 p e s m args below meth c H locs la X hP hS hl)
  · exact va_gets X.1 X.2.1 h hS X.2.2.2.2.1 (X.2.2.2.2.2.1 _ hw) (fun _ h => h) hd (k2 t p e s m args below meth c H locs la X hP hS hl)
theorem j_ldcS {ix i : Nat} {q : Nat × String × List Int32} (ho : mo M = RX9) (hi : tw_lit[i]? = some q) (hx : q.1 = ix) (hd : decode (mb M) pc = .ok (.ldc ix, 2)) (kk : tw_J G M E (pc + 2) ls (vR (200 + i) :: st) σ) : tw_J G M E pc ls st σ := by
  intro p e s m args below meth c H locs la X hP hS hl
  subst hx
  exact va_ldcS X.1 X.2.1 X.2.2.2.2.1 (by rw [ho]; exact X.2.2.2.2.2.2.2.2.2.1.2.2.2.2.2.2.1 i q hi) hd (kk p e s m args below meth c H locs la X hP hS hl)
theorem j_strCoder {ix i : Nat} (hi : i < tw_lit.length) (hw : Cond.fieldLink (mo M) ix "java/lang/String" "coder" "B" ∈ tw_ws) (hd : decode (mb M) pc = .ok (.getfield ix, 3)) (kk : tw_J G M E (pc + 3) ls (vI 0 :: st) σ) : tw_J G M E pc ls (vR (200 + i) :: st) σ := by
  intro p e s m args below meth c H locs la X hP hS hl
  exact vk_getf X.1 X.2.1 (X.2.2.2.2.2.2.2.2.2.1.2.2.2.2.2.1.1 i hi).2.1 hS X.2.2.2.2.1 (X.2.2.2.2.2.1 _ hw) (fun _ h => h) hd (kk p e s m args below meth c H locs la X hP hS hl)
theorem j_strValue {ix i : Nat} (hi : i < tw_lit.length) (hw : Cond.fieldLink (mo M) ix "java/lang/String" "value" "[B" ∈ tw_ws) (hd : decode (mb M) pc = .ok (.getfield ix, 3)) (kk : tw_J G M E (pc + 3) ls (vR (220 + i) :: st) σ) : tw_J G M E pc ls (vR (200 + i) :: st) σ := by
  intro p e s m args below meth c H locs la X hP hS hl
  exact vk_getf X.1 X.2.1 (X.2.2.2.2.2.2.2.2.2.1.2.2.2.2.2.1.1 i hi).2.2.1 hS X.2.2.2.2.1 (X.2.2.2.2.2.1 _ hw) (fun _ h => h) hd (kk p e s m args below meth c H locs la X hP hS hl)
def tw_llen (i : Nat) : Nat := (tw_lit.map (fun q => q.2.2.length)).getD i 0
def tw_lch (i j : Nat) : Int := (((tw_lit.map (fun q : Nat × String × List Int32 => q.2.2)).getD i []).getD j 0).toInt
theorem j_strLen {i : Nat} (hi : i < tw_lit.length) (hd : decode (mb M) pc = .ok (.arraylength, 1)) (kk : tw_J G M E (pc + 1) ls (vI (tw_llen i : Int) :: st) σ) : tw_J G M E pc ls (vR (220 + i) :: st) σ := by
  intro p e s m args below meth c H locs la X hP hS hl
  exact va_tlen X.1 X.2.1 (X.2.2.2.2.2.2.2.2.2.1.2.2.2.2.2.1.1 i hi).2.2.2 hS (v := Int32.ofInt (tw_llen i : Int)) rfl hd (kk p e s m args below meth c H locs la X hP hS hl)
theorem j_strAt {i : Nat} {j : Int} (hi : i < tw_lit.length) (hd : decode (mb M) pc = .ok (.baload, 1)) (h1 : 0 ≤ j) (h2 : j < tw_llen i) (h3 : tw_llen i ≤ 2147483647) (kk : tw_J G M E (pc + 1) ls (vI (tw_lch i j.toNat) :: st) σ) : tw_J G M E pc ls (vI j :: vR (220 + i) :: st) σ := by
  intro p e s m args below meth c H locs la X hP hS hl
  obtain ⟨g1, g2⟩ := tw_ix (n := tw_llen i) h1 h2 h3
  refine va_tb X.1 X.2.1 (X.2.2.2.2.2.2.2.2.2.1.2.2.2.2.2.1.1 i hi).2.2.2 hS g1 (v := tw_v G (vI (tw_lch i j.toNat))) ?_ hd (kk p e s m args below meth c H locs la X hP hS hl)
  rw [g2]
  show Value.int _ = Value.int _
  rw [tw_lch, Int32.ofInt_toInt]
theorem j_scrLen (hd : decode (mb M) pc = .ok (.arraylength, 1)) (kk : tw_J G M E (pc + 1) ls (vI (gN G : Int) :: st) σ) : tw_J G M E pc ls (vR 300 :: st) σ := by
  intro p e s m args below meth c H locs la X hP hS hl
  have h := X.2.2.2.2.2.2.2.2.2.1.2.2.2.2.2.2.2
  exact va_slen X.1 X.2.1 h.1 h.2.1 h.2.2 hS hd (kk p e s m args below meth c H locs la X hP hS hl)
theorem j_scrAt {i : Int} (hd : decode (mb M) pc = .ok (.iaload, 1)) (h1 : 0 ≤ i) (h2 : i < gN G) (h3 : gN G ≤ 2147483647) (kk : tw_J G M E (pc + 1) ls (vI (gxs G i.toNat).toInt :: st) σ) : tw_J G M E pc ls (vI i :: vR 300 :: st) σ := by
  intro p e s m args below meth c H locs la X hP hS hl
  have h := X.2.2.2.2.2.2.2.2.2.1.2.2.2.2.2.2.2
  obtain ⟨g1, g2⟩ := tw_ix h1 h2 h3
  refine va_sld X.1 X.2.1 h.1 h.2.1 h.2.2 hS g1 hd ?_
  have k2 := kk p e s m args below meth c H locs la X hP hS hl
  rw [g2]
  have e0 : Int32.ofInt (gxs G i.toNat).toInt = gxs G i.toNat := Int32.ofInt_toInt _
  rw [← e0]
  exact k2
-- ends
theorem j_ret {Q : Option tw_V → tw_M → Prop} {t : State} {H : Heap} {locs : List Loc} {s : State} {args : Array Value} (r : Option tw_V) (hQ : Q r σ) (hP : va_P (gD G) tw_cl (tw_w G σ) H) (hS : va_S (tw_A G) s.heap H locs) (ht : t.heap = H) : tw_Q G Q args s (.returned (r.map (tw_v G))) t :=
  ⟨⟨r, σ, rfl, hQ, by rw [ht]; exact hP⟩, hS.F ht⟩
theorem j_iret {Q : Option tw_V → tw_M → Prop} {a : Int} (h0 : mC M = 0 ∧ mS M = 0) (hd : decode (mb M) pc = .ok (.ireturn, 1)) (hr : mret M = some .int) (hQ : Q (some (vI a)) σ) : tw_J G M (tw_E G Q) pc ls [vI a] σ := by
  intro p e s m args below meth c H locs la X hP hS hl
  rw [h0.1, h0.2]
  exact W.iret X.1 X.2.1 (X.2.2.2.1.trans hr) (fun t ht hW => j_ret (some (vI a)) hQ hP hS ht) hS.2.2 hd X.2.2.2.2.2.2.1
theorem j_zret {Q : Option tw_V → tw_M → Prop} {a : Int} {ty : FieldType} (h0 : mC M = 0 ∧ mS M = 0) (hd : decode (mb M) pc = .ok (.ireturn, 1)) (hr : mret M = some ty) (hn : narrow ty (.int (Int32.ofInt a)) = .int (Int32.ofInt a)) (hQ : Q (some (vI a)) σ) : tw_J G M (tw_E G Q) pc ls [vI a] σ := by
  intro p e s m args below meth c H locs la X hP hS hl
  rw [h0.1, h0.2]
  exact W.zret X.1 X.2.1 (X.2.2.2.1.trans hr) hn (fun t ht hW => j_ret (some (vI a)) hQ hP hS ht) hS.2.2 hd X.2.2.2.2.2.2.1
theorem j_lret {Q : Option tw_V → tw_M → Prop} {a : Int} (h0 : mC M = 0 ∧ mS M = 0) (hd : decode (mb M) pc = .ok (.lreturn, 1)) (hr : mret M = some .long) (hQ : Q (some (vL a)) σ) : tw_J G M (tw_E G Q) pc ls [vL a] σ := by
  intro p e s m args below meth c H locs la X hP hS hl
  rw [h0.1, h0.2]
  exact W.lret X.1 X.2.1 (X.2.2.2.1.trans hr) (fun t ht hW => j_ret (some (vL a)) hQ hP hS ht) hS.2.2 hd X.2.2.2.2.2.2.1
theorem j_vret {Q : Option tw_V → tw_M → Prop} (h0 : mC M = 0 ∧ mS M = 0) (hd : decode (mb M) pc = .ok (.return_, 1)) (hr : mret M = none) (hQ : Q none σ) : tw_J G M (tw_E G Q) pc ls [] σ := by
  intro p e s m args below meth c H locs la X hP hS hl
  rw [h0.1, h0.2]
  exact W.vret X.1 X.2.1 (X.2.2.2.1.trans hr) (fun t ht hW => j_ret none hQ hP hS ht) hS.2.2 hd X.2.2.2.2.2.2.1
end JH
