/-! THE ROWS OF J. -/
section JR
variable {G : tw_G} {M : tw_T} {E : List Frame → Array Value → State → State → Prop} {pc : Nat} {ls : List (Nat × tw_V)} {st : List tw_V} {σ : tw_M}
def tw_w32 (a : Int) : Int := (Int32.ofInt a).toInt
def tw_w64 (a : Int) : Int := (Int64.ofInt a).toInt
theorem w32_eq {a : Int} (h1 : -2147483648 ≤ a) (h2 : a ≤ 2147483647) : tw_w32 a = a := Int32.toInt_ofInt_of_le (by omega) (by omega)
theorem w64_eq {a : Int} (h1 : -9223372036854775808 ≤ a) (h2 : a ≤ 9223372036854775807) : tw_w64 a = a := Int64.toInt_ofInt_of_le (by omega) (by omega)
theorem i32_in (x : Int32) : -2147483648 ≤ x.toInt ∧ x.toInt ≤ 2147483647 := by
  have h1 := x.le_toInt
  have h2 := x.toInt_lt
  omega
theorem i64_in (x : Int64) : -9223372036854775808 ≤ x.toInt ∧ x.toInt ≤ 9223372036854775807 := by
  have h1 := x.le_toInt
  have h2 := x.toInt_lt
  omega
theorem w32_in (a : Int) : -2147483648 ≤ tw_w32 a ∧ tw_w32 a ≤ 2147483647 := i32_in _
theorem w64_in (a : Int) : -9223372036854775808 ≤ tw_w64 a ∧ tw_w64 a ≤ 9223372036854775807 := i64_in _
def tw_get (ls : List (Nat × tw_V)) (i : Nat) : Option tw_V := match ls with
  | [] => none
  | q :: r => if q.1 = i then some q.2 else tw_get r i
theorem tw_get_in {i : Nat} {v : tw_V} : ∀ {ls : List (Nat × tw_V)}, tw_get ls i = some v → (i, v) ∈ ls
  | [], h => by cases h
  | q :: r, h => by
    unfold tw_get at h
    split at h
    · rename_i e
      cases h
      subst e
      exact List.mem_cons_self
    · exact List.mem_cons_of_mem _ (tw_get_in h)
theorem tw_la {la : Array Slot} {n i : Nat} {v : tw_V} (h : lv_has la n (tw_l G ls)) (hl : tw_get ls i = some v) : la[i]? = some (.val (tw_v G v)) := h.2.2 (i, tw_v G v) (List.mem_map.mpr ⟨(i, v), tw_get_in hl, rfl⟩)
def tw_two : tw_V → Bool
  | .inr (.inl _) => true
  | _ => false
def tw_one : tw_V → Bool
  | .inl _ => true
  | .inr (.inr (.inl _)) => true
  | _ => false
theorem tw_one_c {v : tw_V} (h : tw_one v = true) : (tw_v G v).category = 1 := by
  match v with
  | .inl a => rfl
  | .inr (.inl a) => cases h
  | .inr (.inr (.inl k)) => rfl
  | .inr (.inr (.inr w)) => cases h
theorem tw_two_c {v : tw_V} (h : tw_two v = true) : (tw_v G v).category = 2 := by
  match v with
  | .inl a => cases h
  | .inr (.inl a) => rfl
  | .inr (.inr (.inl k)) => cases h
  | .inr (.inr (.inr w)) => cases h
-- stores: what is kept of the locals; then a choice of them, in an order of one's own
def tw_keep1 (i : Nat) (ls : List (Nat × tw_V)) : List (Nat × tw_V) := ls.filter (fun q => !(q.1 == i) && !(q.1 + 1 == i && tw_two q.2))
def tw_keep2 (i : Nat) (ls : List (Nat × tw_V)) : List (Nat × tw_V) := ls.filter (fun q => !(q.1 == i) && (!(q.1 == i + 1) && !(q.1 + 1 == i && tw_two q.2)))
def tw_raw : tw_V → Bool
  | .inr (.inr (.inr _)) => true
  | _ => false
theorem tw_two_eq {v : tw_V} (h : tw_raw v = false) : ((tw_v G v).category == 2) = tw_two v := by
  match v with
  | .inl a => rfl
  | .inr (.inl a) => rfl
  | .inr (.inr (.inl k)) => rfl
  | .inr (.inr (.inr w)) => cases h
def tw_rawless (ls : List (Nat × tw_V)) : Bool := ls.all (fun q => !tw_raw q.2)
theorem tw_keep1_l {i : Nat} (hr : tw_rawless ls = true) : (tw_l G ls).filter (fun q => !(q.1 == i) && !(q.1 + 1 == i && q.2.category == 2)) = tw_l G (tw_keep1 i ls) := by
  unfold tw_l tw_keep1
  rw [List.filter_map]
  congr 1
  apply List.filter_congr
  intro q hq
  have h1 := List.all_eq_true.mp hr q hq
  have h2 : tw_raw q.2 = false := by simpa using h1
  simp only [Function.comp]
  rw [tw_two_eq h2]
theorem tw_keep2_l {i : Nat} (hr : tw_rawless ls = true) : (tw_l G ls).filter (fun q => !(q.1 == i) && (!(q.1 == i + 1) && !(q.1 + 1 == i && q.2.category == 2))) = tw_l G (tw_keep2 i ls) := by
  unfold tw_l tw_keep2
  rw [List.filter_map]
  congr 1
  apply List.filter_congr
  intro q hq
  have h1 := List.all_eq_true.mp hr q hq
  have h2 : tw_raw q.2 = false := by simpa using h1
  simp only [Function.comp]
  rw [tw_two_eq h2]
def tw_pick (l : List (Nat × tw_V)) (ks : List Nat) : List (Nat × tw_V) := ks.filterMap (fun k => l[k]?)
theorem tw_pick_l {l l' : List (Nat × tw_V)} {ks : List Nat} {la : Array Slot} {n : Nat} (h : lv_has la n (tw_l G l)) (hp : tw_pick l ks = l') : lv_has la n (tw_l G l') := by
  refine ⟨h.1, h.2.1, fun q hq => ?_⟩
  subst hp
  obtain ⟨x, hx, rfl⟩ := List.mem_map.mp hq
  obtain ⟨k, -, hk⟩ := List.mem_filterMap.mp hx
  exact h.2.2 _ (List.mem_map.mpr ⟨x, List.mem_of_getElem? hk, rfl⟩)
/-- fewer locals, in another order -/
theorem j_ls {ls' : List (Nat × tw_V)} (ks : List Nat) (hp : tw_pick ls ks = ls') (k : tw_J G M E pc ls' st σ) : tw_J G M E pc ls st σ := by
  intro p e s m args below meth c H locs la X hP hS hl
  exact k p e s m args below meth c H locs la X hP hS (tw_pick_l hl hp)
theorem j_eq {pc' : Nat} {ls' : List (Nat × tw_V)} {st' : List tw_V} {σ' : tw_M} (k : tw_J G M E pc' ls' st' σ') (h1 : pc = pc') (h2 : ls = ls') (h3 : st = st') (h4 : σ = σ') : tw_J G M E pc ls st σ := by subst h1; subst h2; subst h3; subst h4; exact k

theorem j_iconst {n : Int} (hd : decode (mb M) pc = .ok (.iconst n, 1)) 
    (k : tw_J G M E (pc + 1) ls (vI n :: st) σ) : tw_J G M E pc ls (st) σ := by
  intro p e s m args below meth c H locs la X hP hS hl
  exact lv_iconst X.1 X.2.1 hd rfl (k p e s m args below meth c H locs la X hP hS hl)

theorem j_bipush {n : Int} (hd : decode (mb M) pc = .ok (.bipush n, 2)) (hn : (Int8.ofInt n).toInt32 = Int32.ofInt n)
    (k : tw_J G M E (pc + 2) ls (vI n :: st) σ) : tw_J G M E pc ls (st) σ := by
  intro p e s m args below meth c H locs la X hP hS hl
  exact lv_bipush X.1 X.2.1 hd hn (k p e s m args below meth c H locs la X hP hS hl)

theorem j_sipush {n : Int} (hd : decode (mb M) pc = .ok (.sipush n, 3)) (hn : (Int16.ofInt n).toInt32 = Int32.ofInt n)
    (k : tw_J G M E (pc + 3) ls (vI n :: st) σ) : tw_J G M E pc ls (st) σ := by
  intro p e s m args below meth c H locs la X hP hS hl
  exact lv_sipush X.1 X.2.1 hd hn (k p e s m args below meth c H locs la X hP hS hl)

theorem j_lconst {n : Fin 2} {z : Int} (hd : decode (mb M) pc = .ok (.lconst n, 1)) (hn : Int64.ofNat (n : Nat) = Int64.ofInt z)
    (k : tw_J G M E (pc + 1) ls (vL z :: st) σ) : tw_J G M E pc ls (st) σ := by
  intro p e s m args below meth c H locs la X hP hS hl
  exact lv_lconst X.1 X.2.1 hd hn (k p e s m args below meth c H locs la X hP hS hl)

theorem j_ldc2 {ix : Nat} {z : Int} (hd : decode (mb M) pc = .ok (.ldc2_w ix, 3)) (hw : Cond.constantLong (mo M) ix (Int64.ofInt z) ∈ tw_ws)
    (k : tw_J G M E (pc + 3) ls (vL z :: st) σ) : tw_J G M E pc ls (st) σ := by
  intro p e s m args below meth c H locs la X hP hS hl
  exact lv_ldc2 X.1 X.2.1 X.2.2.2.2.1 (X.2.2.2.2.2.1 _ hw) hd (k p e s m args below meth c H locs la X hP hS hl)

theorem j_iload_n {q : Fin 4} {i : Nat} {a : Int} (hd : decode (mb M) pc = .ok (.iload_n q, 1)) (hi : (q : Nat) = i) (hg : tw_get ls i = some (vI a))
    (k : tw_J G M E (pc + 1) ls (vI a :: st) σ) : tw_J G M E pc ls (st) σ := by
  intro p e s m args below meth c H locs la X hP hS hl
  exact lv_iload_n X.1 X.2.1 hd hi (tw_la hl hg) (k p e s m args below meth c H locs la X hP hS hl)

theorem j_iload {i : Nat} {a : Int} (hd : decode (mb M) pc = .ok (.iload i, 2)) (hg : tw_get ls i = some (vI a))
    (k : tw_J G M E (pc + 2) ls (vI a :: st) σ) : tw_J G M E pc ls (st) σ := by
  intro p e s m args below meth c H locs la X hP hS hl
  exact lv_iload X.1 X.2.1 hd (tw_la hl hg) (k p e s m args below meth c H locs la X hP hS hl)

theorem j_lload_n {q : Fin 4} {i : Nat} {a : Int} (hd : decode (mb M) pc = .ok (.lload_n q, 1)) (hi : (q : Nat) = i) (hg : tw_get ls i = some (vL a))
    (k : tw_J G M E (pc + 1) ls (vL a :: st) σ) : tw_J G M E pc ls (st) σ := by
  intro p e s m args below meth c H locs la X hP hS hl
  exact lv_lload_n X.1 X.2.1 hd hi (tw_la hl hg) (k p e s m args below meth c H locs la X hP hS hl)

theorem j_lload {i : Nat} {a : Int} (hd : decode (mb M) pc = .ok (.lload i, 2)) (hg : tw_get ls i = some (vL a))
    (k : tw_J G M E (pc + 2) ls (vL a :: st) σ) : tw_J G M E pc ls (st) σ := by
  intro p e s m args below meth c H locs la X hP hS hl
  exact lv_lload X.1 X.2.1 hd (tw_la hl hg) (k p e s m args below meth c H locs la X hP hS hl)

theorem j_aload_n {q : Fin 4} {i : Nat} {a : Nat} (hd : decode (mb M) pc = .ok (.aload_n q, 1)) (hi : (q : Nat) = i) (hg : tw_get ls i = some (vR a))
    (k : tw_J G M E (pc + 1) ls (vR a :: st) σ) : tw_J G M E pc ls (st) σ := by
  intro p e s m args below meth c H locs la X hP hS hl
  exact lv_aload_n X.1 X.2.1 hd hi (tw_la hl hg) (k p e s m args below meth c H locs la X hP hS hl)

theorem j_aload {i : Nat} {a : Nat} (hd : decode (mb M) pc = .ok (.aload i, 2)) (hg : tw_get ls i = some (vR a))
    (k : tw_J G M E (pc + 2) ls (vR a :: st) σ) : tw_J G M E pc ls (st) σ := by
  intro p e s m args below meth c H locs la X hP hS hl
  exact lv_aload X.1 X.2.1 hd (tw_la hl hg) (k p e s m args below meth c H locs la X hP hS hl)

theorem j_istore_n {q : Fin 4} {i : Nat} {a : Int} {ls' : List (Nat × tw_V)} (ks : List Nat) (hd : decode (mb M) pc = .ok (.istore_n q, 1)) (hi : (q : Nat) = i) (hn : i < mL M) (hr : tw_rawless ls = true) (hp : tw_pick ((i, vI a) :: tw_keep1 i ls) ks = ls')
    (k : tw_J G M E (pc + 1) ls' st σ) : tw_J G M E pc ls (vI a :: st) σ := by
  intro p e s m args below meth c H locs la X hP hS hl
  exact lv_istore_n (lv' := tw_l G ((i, vI a) :: tw_keep1 i ls)) X.1 X.2.1 hd hi hl hn (by rw [tw_keep1_l hr]; rfl) (fun la' hl' => k p e s m args below meth c H locs la' X hP hS (tw_pick_l hl' hp))

theorem j_istore {i : Nat} {a : Int} {ls' : List (Nat × tw_V)} (ks : List Nat) (hd : decode (mb M) pc = .ok (.istore i, 2))  (hn : i < mL M) (hr : tw_rawless ls = true) (hp : tw_pick ((i, vI a) :: tw_keep1 i ls) ks = ls')
    (k : tw_J G M E (pc + 2) ls' st σ) : tw_J G M E pc ls (vI a :: st) σ := by
  intro p e s m args below meth c H locs la X hP hS hl
  exact lv_istore (lv' := tw_l G ((i, vI a) :: tw_keep1 i ls)) X.1 X.2.1 hd  hl hn (by rw [tw_keep1_l hr]; rfl) (fun la' hl' => k p e s m args below meth c H locs la' X hP hS (tw_pick_l hl' hp))

theorem j_lstore_n {q : Fin 4} {i : Nat} {a : Int} {ls' : List (Nat × tw_V)} (ks : List Nat) (hd : decode (mb M) pc = .ok (.lstore_n q, 1)) (hi : (q : Nat) = i) (hn : i + 1 < mL M) (hr : tw_rawless ls = true) (hp : tw_pick ((i, vL a) :: tw_keep2 i ls) ks = ls')
    (k : tw_J G M E (pc + 1) ls' st σ) : tw_J G M E pc ls (vL a :: st) σ := by
  intro p e s m args below meth c H locs la X hP hS hl
  exact lv_lstore_n (lv' := tw_l G ((i, vL a) :: tw_keep2 i ls)) X.1 X.2.1 hd hi hl hn (by rw [tw_keep2_l hr]; rfl) (fun la' hl' => k p e s m args below meth c H locs la' X hP hS (tw_pick_l hl' hp))

theorem j_lstore {i : Nat} {a : Int} {ls' : List (Nat × tw_V)} (ks : List Nat) (hd : decode (mb M) pc = .ok (.lstore i, 2))  (hn : i + 1 < mL M) (hr : tw_rawless ls = true) (hp : tw_pick ((i, vL a) :: tw_keep2 i ls) ks = ls')
    (k : tw_J G M E (pc + 2) ls' st σ) : tw_J G M E pc ls (vL a :: st) σ := by
  intro p e s m args below meth c H locs la X hP hS hl
  exact lv_lstore (lv' := tw_l G ((i, vL a) :: tw_keep2 i ls)) X.1 X.2.1 hd  hl hn (by rw [tw_keep2_l hr]; rfl) (fun la' hl' => k p e s m args below meth c H locs la' X hP hS (tw_pick_l hl' hp))

theorem j_astore_n {q : Fin 4} {i : Nat} {a : Nat} {ls' : List (Nat × tw_V)} (ks : List Nat) (hd : decode (mb M) pc = .ok (.astore_n q, 1)) (hi : (q : Nat) = i) (hn : i < mL M) (hr : tw_rawless ls = true) (hp : tw_pick ((i, vR a) :: tw_keep1 i ls) ks = ls')
    (k : tw_J G M E (pc + 1) ls' st σ) : tw_J G M E pc ls (vR a :: st) σ := by
  intro p e s m args below meth c H locs la X hP hS hl
  exact lv_astore_n (lv' := tw_l G ((i, vR a) :: tw_keep1 i ls)) X.1 X.2.1 hd hi hl hn (by rw [tw_keep1_l hr]; rfl) (fun la' hl' => k p e s m args below meth c H locs la' X hP hS (tw_pick_l hl' hp))

theorem j_astore {i : Nat} {a : Nat} {ls' : List (Nat × tw_V)} (ks : List Nat) (hd : decode (mb M) pc = .ok (.astore i, 2))  (hn : i < mL M) (hr : tw_rawless ls = true) (hp : tw_pick ((i, vR a) :: tw_keep1 i ls) ks = ls')
    (k : tw_J G M E (pc + 2) ls' st σ) : tw_J G M E pc ls (vR a :: st) σ := by
  intro p e s m args below meth c H locs la X hP hS hl
  exact lv_astore (lv' := tw_l G ((i, vR a) :: tw_keep1 i ls)) X.1 X.2.1 hd  hl hn (by rw [tw_keep1_l hr]; rfl) (fun la' hl' => k p e s m args below meth c H locs la' X hP hS (tw_pick_l hl' hp))

theorem j_iinc {i : Nat} {n a : Int} {ls' : List (Nat × tw_V)} (ks : List Nat) (hd : decode (mb M) pc = .ok (.iinc i n, 3)) (hg : tw_get ls i = some (vI a)) (hn : i < mL M) (hr : tw_rawless ls = true) (hp : tw_pick ((i, vI (a + n)) :: tw_keep1 i ls) ks = ls')
    (k : tw_J G M E (pc + 3) ls' st σ) : tw_J G M E pc ls st σ := by
  intro p e s m args below meth c H locs la X hP hS hl
  obtain ⟨x, hx⟩ := tw_idx (List.mem_map.mpr ⟨(i, vI a), tw_get_in hg, rfl⟩ : (i, tw_v G (vI a)) ∈ tw_l G ls)
  exact lv_iinc (lv' := tw_l G ((i, vI (a + n)) :: tw_keep1 i ls)) (v := Int32.ofInt (a + n)) X.1 X.2.1 hd hl hx (Int32.ofInt_add a n).symm hn (by rw [tw_keep1_l hr]; rfl) (fun la' hl' => k p e s m args below meth c H locs la' X hP hS (tw_pick_l hl' hp))

theorem j_iadd {a b : Int} (hd : decode (mb M) pc = .ok (.iadd, 1)) (k : tw_J G M E (pc + 1) ls (vI (a + b) :: st) σ) : tw_J G M E pc ls (vI b :: vI a :: st) σ := by
  intro p e s m args below meth c H locs la X hP hS hl
  have k2 := k p e s m args below meth c H locs la X hP hS hl
  refine lv_iadd (x := Int32.ofInt a) (y := Int32.ofInt b) X.1 X.2.1 hd ?_
  rw [← Int32.ofInt_add]
  exact k2

theorem j_ladd {a b : Int} (hd : decode (mb M) pc = .ok (.ladd, 1)) (k : tw_J G M E (pc + 1) ls (vL (a + b) :: st) σ) : tw_J G M E pc ls (vL b :: vL a :: st) σ := by
  intro p e s m args below meth c H locs la X hP hS hl
  have k2 := k p e s m args below meth c H locs la X hP hS hl
  refine lv_ladd (x := Int64.ofInt a) (y := Int64.ofInt b) X.1 X.2.1 hd ?_
  rw [← Int64.ofInt_add]
  exact k2

theorem j_isub {a b : Int} (hd : decode (mb M) pc = .ok (.isub, 1)) (k : tw_J G M E (pc + 1) ls (vI (a - b) :: st) σ) : tw_J G M E pc ls (vI b :: vI a :: st) σ := by
  intro p e s m args below meth c H locs la X hP hS hl
  have k2 := k p e s m args below meth c H locs la X hP hS hl
  refine lv_isub (x := Int32.ofInt a) (y := Int32.ofInt b) X.1 X.2.1 hd ?_
  rw [← Int32.ofInt_sub]
  exact k2

theorem j_lsub {a b : Int} (hd : decode (mb M) pc = .ok (.lsub, 1)) (k : tw_J G M E (pc + 1) ls (vL (a - b) :: st) σ) : tw_J G M E pc ls (vL b :: vL a :: st) σ := by
  intro p e s m args below meth c H locs la X hP hS hl
  have k2 := k p e s m args below meth c H locs la X hP hS hl
  refine lv_lsub (x := Int64.ofInt a) (y := Int64.ofInt b) X.1 X.2.1 hd ?_
  rw [← Int64.ofInt_sub]
  exact k2

theorem j_imul {a b : Int} (hd : decode (mb M) pc = .ok (.imul, 1)) (k : tw_J G M E (pc + 1) ls (vI (a * b) :: st) σ) : tw_J G M E pc ls (vI b :: vI a :: st) σ := by
  intro p e s m args below meth c H locs la X hP hS hl
  have k2 := k p e s m args below meth c H locs la X hP hS hl
  refine lv_imul (x := Int32.ofInt a) (y := Int32.ofInt b) X.1 X.2.1 hd ?_
  rw [← Int32.ofInt_mul]
  exact k2

theorem j_lmul {a b : Int} (hd : decode (mb M) pc = .ok (.lmul, 1)) (k : tw_J G M E (pc + 1) ls (vL (a * b) :: st) σ) : tw_J G M E pc ls (vL b :: vL a :: st) σ := by
  intro p e s m args below meth c H locs la X hP hS hl
  have k2 := k p e s m args below meth c H locs la X hP hS hl
  refine lv_lmul (x := Int64.ofInt a) (y := Int64.ofInt b) X.1 X.2.1 hd ?_
  rw [← Int64.ofInt_mul]
  exact k2

def tw_and (a b : Int) : Int := (Int32.ofInt a &&& Int32.ofInt b).toInt
def tw_or (a b : Int) : Int := (Int32.ofInt a ||| Int32.ofInt b).toInt
def tw_xor (a b : Int) : Int := (Int32.ofInt a ^^^ Int32.ofInt b).toInt
def tw_div (a b : Int) : Int := (Int32.ofInt a / Int32.ofInt b).toInt
def tw_rem (a b : Int) : Int := (Int32.ofInt a - Int32.ofInt a / Int32.ofInt b * Int32.ofInt b).toInt
def tw_shl (a b : Int) : Int := (Int32.ofInt a <<< (Int32.ofInt b &&& 31)).toInt
def tw_shr (a b : Int) : Int := (Int32.ofInt a >>> (Int32.ofInt b &&& 31)).toInt
def tw_ushr (a b : Int) : Int := ((Int32.ofInt a).toUInt32 >>> ((Int32.ofInt b).toUInt32 &&& Int32.toUInt32 31)).toInt32.toInt
def tw_landL (a b : Int) : Int := (Int64.ofInt a &&& Int64.ofInt b).toInt
def tw_lorL (a b : Int) : Int := (Int64.ofInt a ||| Int64.ofInt b).toInt
def tw_ldivL (a b : Int) : Int := (Int64.ofInt a / Int64.ofInt b).toInt
def tw_lremL (a b : Int) : Int := (Int64.ofInt a - Int64.ofInt a / Int64.ofInt b * Int64.ofInt b).toInt
def tw_lshlL (a b : Int) : Int := (Int64.ofInt a <<< ((Int32.ofInt b).toInt64 &&& 63)).toInt
def tw_lshrL (a b : Int) : Int := (Int64.ofInt a >>> ((Int32.ofInt b).toInt64 &&& 63)).toInt
def tw_lushrL (a b : Int) : Int := ((Int64.ofInt a).toUInt64 >>> ((Int32.ofInt b).toInt64.toUInt64 &&& Int64.toUInt64 63)).toInt64.toInt
def tw_i2b (a : Int) : Int := (Int32.ofInt a).toInt8.toInt32.toInt
def tw_i2s (a : Int) : Int := (Int32.ofInt a).toInt16.toInt32.toInt
def tw_i2c (a : Int) : Int := ((Int32.ofInt a).toUInt32 % 65536).toInt32.toInt
def tw_l2i (a : Int) : Int := (Int64.ofInt a).toInt32.toInt
def tw_cmp (a b : Int) : Int := (lg_cmp (Int64.ofInt a) (Int64.ofInt b)).toInt
theorem w32_0 {a : Int} : Int32.ofInt a = 0 ↔ tw_w32 a = 0 := by
  rw [← Int32.toInt_inj]
  rfl
theorem w64_0 {a : Int} : Int64.ofInt a = 0 ↔ tw_w64 a = 0 := by
  rw [← Int64.toInt_inj]
  rfl

theorem j_iand {a b : Int} (hd : decode (mb M) pc = .ok (.iand, 1)) (k : ∀ z : Int, z = tw_and a b → tw_J G M E (pc + 1) ls (vI z :: st) σ) : tw_J G M E pc ls (vI b :: vI a :: st) σ := by
  intro p e s m args below meth c H locs la X hP hS hl
  have k2 := k _ rfl p e s m args below meth c H locs la X hP hS hl
  have e0 : Int32.ofInt (tw_and a b) = Int32.ofInt a &&& Int32.ofInt b := Int32.ofInt_toInt _
  refine lv_iand X.1 X.2.1 hd ?_
  rw [← e0]
  exact k2

theorem j_ior {a b : Int} (hd : decode (mb M) pc = .ok (.ior, 1)) (k : ∀ z : Int, z = tw_or a b → tw_J G M E (pc + 1) ls (vI z :: st) σ) : tw_J G M E pc ls (vI b :: vI a :: st) σ := by
  intro p e s m args below meth c H locs la X hP hS hl
  have k2 := k _ rfl p e s m args below meth c H locs la X hP hS hl
  have e0 : Int32.ofInt (tw_or a b) = Int32.ofInt a ||| Int32.ofInt b := Int32.ofInt_toInt _
  refine lv_ior X.1 X.2.1 hd ?_
  rw [← e0]
  exact k2

theorem j_ixor {a b : Int} (hd : decode (mb M) pc = .ok (.ixor, 1)) (k : ∀ z : Int, z = tw_xor a b → tw_J G M E (pc + 1) ls (vI z :: st) σ) : tw_J G M E pc ls (vI b :: vI a :: st) σ := by
  intro p e s m args below meth c H locs la X hP hS hl
  have k2 := k _ rfl p e s m args below meth c H locs la X hP hS hl
  have e0 : Int32.ofInt (tw_xor a b) = Int32.ofInt a ^^^ Int32.ofInt b := Int32.ofInt_toInt _
  refine lv_ixor X.1 X.2.1 hd ?_
  rw [← e0]
  exact k2

theorem j_idiv {a b : Int} (hd : decode (mb M) pc = .ok (.idiv, 1)) (hne : ¬ tw_w32 b = 0) (k : ∀ z : Int, z = tw_div a b → tw_J G M E (pc + 1) ls (vI z :: st) σ) : tw_J G M E pc ls (vI b :: vI a :: st) σ := by
  intro p e s m args below meth c H locs la X hP hS hl
  have k2 := k _ rfl p e s m args below meth c H locs la X hP hS hl
  have e0 : Int32.ofInt (tw_div a b) = Int32.ofInt a / Int32.ofInt b := Int32.ofInt_toInt _
  refine lv_idiv X.1 X.2.1 hd (fun h => hne (w32_0.mp h)) ?_
  rw [← e0]
  exact k2

theorem j_irem {a b : Int} (hd : decode (mb M) pc = .ok (.irem, 1)) (hne : ¬ tw_w32 b = 0) (k : ∀ z : Int, z = tw_rem a b → tw_J G M E (pc + 1) ls (vI z :: st) σ) : tw_J G M E pc ls (vI b :: vI a :: st) σ := by
  intro p e s m args below meth c H locs la X hP hS hl
  have k2 := k _ rfl p e s m args below meth c H locs la X hP hS hl
  have e0 : Int32.ofInt (tw_rem a b) = Int32.ofInt a - Int32.ofInt a / Int32.ofInt b * Int32.ofInt b := Int32.ofInt_toInt _
  refine lv_irem X.1 X.2.1 hd (fun h => hne (w32_0.mp h)) ?_
  rw [← e0]
  exact k2

theorem j_ishl {a b : Int} (hd : decode (mb M) pc = .ok (.ishl, 1)) (k : ∀ z : Int, z = tw_shl a b → tw_J G M E (pc + 1) ls (vI z :: st) σ) : tw_J G M E pc ls (vI b :: vI a :: st) σ := by
  intro p e s m args below meth c H locs la X hP hS hl
  have k2 := k _ rfl p e s m args below meth c H locs la X hP hS hl
  have e0 : Int32.ofInt (tw_shl a b) = Int32.ofInt a <<< (Int32.ofInt b &&& 31) := Int32.ofInt_toInt _
  refine lv_ishl X.1 X.2.1 hd ?_
  rw [← e0]
  exact k2

theorem j_ishr {a b : Int} (hd : decode (mb M) pc = .ok (.ishr, 1)) (k : ∀ z : Int, z = tw_shr a b → tw_J G M E (pc + 1) ls (vI z :: st) σ) : tw_J G M E pc ls (vI b :: vI a :: st) σ := by
  intro p e s m args below meth c H locs la X hP hS hl
  have k2 := k _ rfl p e s m args below meth c H locs la X hP hS hl
  have e0 : Int32.ofInt (tw_shr a b) = Int32.ofInt a >>> (Int32.ofInt b &&& 31) := Int32.ofInt_toInt _
  refine lv_ishr X.1 X.2.1 hd ?_
  rw [← e0]
  exact k2

theorem j_iushr {a b : Int} (hd : decode (mb M) pc = .ok (.iushr, 1)) (k : ∀ z : Int, z = tw_ushr a b → tw_J G M E (pc + 1) ls (vI z :: st) σ) : tw_J G M E pc ls (vI b :: vI a :: st) σ := by
  intro p e s m args below meth c H locs la X hP hS hl
  have k2 := k _ rfl p e s m args below meth c H locs la X hP hS hl
  have e0 : Int32.ofInt (tw_ushr a b) = ((Int32.ofInt a).toUInt32 >>> ((Int32.ofInt b).toUInt32 &&& Int32.toUInt32 31)).toInt32 := Int32.ofInt_toInt _
  refine lv_iushr X.1 X.2.1 hd e0.symm ?_
  exact k2

theorem j_land {a b : Int} (hd : decode (mb M) pc = .ok (.land, 1)) (k : ∀ z : Int, z = tw_landL a b → tw_J G M E (pc + 1) ls (vL z :: st) σ) : tw_J G M E pc ls (vL b :: vL a :: st) σ := by
  intro p e s m args below meth c H locs la X hP hS hl
  have k2 := k _ rfl p e s m args below meth c H locs la X hP hS hl
  have e0 : Int64.ofInt (tw_landL a b) = Int64.ofInt a &&& Int64.ofInt b := Int64.ofInt_toInt _
  refine lv_land X.1 X.2.1 hd ?_
  rw [← e0]
  exact k2

theorem j_lor {a b : Int} (hd : decode (mb M) pc = .ok (.lor, 1)) (k : ∀ z : Int, z = tw_lorL a b → tw_J G M E (pc + 1) ls (vL z :: st) σ) : tw_J G M E pc ls (vL b :: vL a :: st) σ := by
  intro p e s m args below meth c H locs la X hP hS hl
  have k2 := k _ rfl p e s m args below meth c H locs la X hP hS hl
  have e0 : Int64.ofInt (tw_lorL a b) = Int64.ofInt a ||| Int64.ofInt b := Int64.ofInt_toInt _
  refine lv_lor X.1 X.2.1 hd ?_
  rw [← e0]
  exact k2

theorem j_ldiv {a b : Int} (hd : decode (mb M) pc = .ok (.ldiv, 1)) (hne : ¬ tw_w64 b = 0) (k : ∀ z : Int, z = tw_ldivL a b → tw_J G M E (pc + 1) ls (vL z :: st) σ) : tw_J G M E pc ls (vL b :: vL a :: st) σ := by
  intro p e s m args below meth c H locs la X hP hS hl
  have k2 := k _ rfl p e s m args below meth c H locs la X hP hS hl
  have e0 : Int64.ofInt (tw_ldivL a b) = Int64.ofInt a / Int64.ofInt b := Int64.ofInt_toInt _
  refine lv_ldiv X.1 X.2.1 hd (fun h => hne (w64_0.mp h)) ?_
  rw [← e0]
  exact k2

theorem j_lrem {a b : Int} (hd : decode (mb M) pc = .ok (.lrem, 1)) (hne : ¬ tw_w64 b = 0) (k : ∀ z : Int, z = tw_lremL a b → tw_J G M E (pc + 1) ls (vL z :: st) σ) : tw_J G M E pc ls (vL b :: vL a :: st) σ := by
  intro p e s m args below meth c H locs la X hP hS hl
  have k2 := k _ rfl p e s m args below meth c H locs la X hP hS hl
  have e0 : Int64.ofInt (tw_lremL a b) = Int64.ofInt a - Int64.ofInt a / Int64.ofInt b * Int64.ofInt b := Int64.ofInt_toInt _
  refine lv_lrem X.1 X.2.1 hd (fun h => hne (w64_0.mp h)) ?_
  rw [← e0]
  exact k2

theorem j_lshl {a b : Int} (hd : decode (mb M) pc = .ok (.lshl, 1)) (k : ∀ z : Int, z = tw_lshlL a b → tw_J G M E (pc + 1) ls (vL z :: st) σ) : tw_J G M E pc ls (vI b :: vL a :: st) σ := by
  intro p e s m args below meth c H locs la X hP hS hl
  have k2 := k _ rfl p e s m args below meth c H locs la X hP hS hl
  have e0 : Int64.ofInt (tw_lshlL a b) = Int64.ofInt a <<< ((Int32.ofInt b).toInt64 &&& 63) := Int64.ofInt_toInt _
  refine lv_lshl X.1 X.2.1 hd e0.symm ?_
  exact k2

theorem j_lshr {a b : Int} (hd : decode (mb M) pc = .ok (.lshr, 1)) (k : ∀ z : Int, z = tw_lshrL a b → tw_J G M E (pc + 1) ls (vL z :: st) σ) : tw_J G M E pc ls (vI b :: vL a :: st) σ := by
  intro p e s m args below meth c H locs la X hP hS hl
  have k2 := k _ rfl p e s m args below meth c H locs la X hP hS hl
  have e0 : Int64.ofInt (tw_lshrL a b) = Int64.ofInt a >>> ((Int32.ofInt b).toInt64 &&& 63) := Int64.ofInt_toInt _
  refine lv_lshr X.1 X.2.1 hd e0.symm ?_
  exact k2

theorem j_lushr {a b : Int} (hd : decode (mb M) pc = .ok (.lushr, 1)) (k : ∀ z : Int, z = tw_lushrL a b → tw_J G M E (pc + 1) ls (vL z :: st) σ) : tw_J G M E pc ls (vI b :: vL a :: st) σ := by
  intro p e s m args below meth c H locs la X hP hS hl
  have k2 := k _ rfl p e s m args below meth c H locs la X hP hS hl
  have e0 : Int64.ofInt (tw_lushrL a b) = ((Int64.ofInt a).toUInt64 >>> ((Int32.ofInt b).toInt64.toUInt64 &&& Int64.toUInt64 63)).toInt64 := Int64.ofInt_toInt _
  refine lv_lushr X.1 X.2.1 hd e0.symm ?_
  exact k2

theorem j_lcmp {a b : Int} (hd : decode (mb M) pc = .ok (.lcmp, 1)) (k : ∀ z : Int, z = tw_cmp a b → tw_J G M E (pc + 1) ls (vI z :: st) σ) : tw_J G M E pc ls (vL b :: vL a :: st) σ := by
  intro p e s m args below meth c H locs la X hP hS hl
  have k2 := k _ rfl p e s m args below meth c H locs la X hP hS hl
  have e0 : Int32.ofInt (tw_cmp a b) = lg_cmp (Int64.ofInt a) (Int64.ofInt b) := Int32.ofInt_toInt _
  refine W.lcmp X.1 X.2.1 hd ?_
  rw [← e0]
  exact k2

theorem j_i2b {a : Int} (hd : decode (mb M) pc = .ok (.i2b, 1)) (k : ∀ z : Int, z = tw_i2b a → tw_J G M E (pc + 1) ls (vI z :: st) σ) : tw_J G M E pc ls (vI a :: st) σ := by
  intro p e s m args below meth c H locs la X hP hS hl
  have k2 := k _ rfl p e s m args below meth c H locs la X hP hS hl
  have e0 : Int32.ofInt (tw_i2b a) = (Int32.ofInt a).toInt8.toInt32 := Int32.ofInt_toInt _
  refine lv_i2b X.1 X.2.1 hd e0.symm ?_
  exact k2

theorem j_i2s {a : Int} (hd : decode (mb M) pc = .ok (.i2s, 1)) (k : ∀ z : Int, z = tw_i2s a → tw_J G M E (pc + 1) ls (vI z :: st) σ) : tw_J G M E pc ls (vI a :: st) σ := by
  intro p e s m args below meth c H locs la X hP hS hl
  have k2 := k _ rfl p e s m args below meth c H locs la X hP hS hl
  have e0 : Int32.ofInt (tw_i2s a) = (Int32.ofInt a).toInt16.toInt32 := Int32.ofInt_toInt _
  refine lv_i2s X.1 X.2.1 hd e0.symm ?_
  exact k2

theorem j_i2c {a : Int} (hd : decode (mb M) pc = .ok (.i2c, 1)) (k : ∀ z : Int, z = tw_i2c a → tw_J G M E (pc + 1) ls (vI z :: st) σ) : tw_J G M E pc ls (vI a :: st) σ := by
  intro p e s m args below meth c H locs la X hP hS hl
  have k2 := k _ rfl p e s m args below meth c H locs la X hP hS hl
  have e0 : Int32.ofInt (tw_i2c a) = ((Int32.ofInt a).toUInt32 % 65536).toInt32 := Int32.ofInt_toInt _
  refine lv_i2c X.1 X.2.1 hd e0.symm ?_
  exact k2

theorem j_l2i {a : Int} (hd : decode (mb M) pc = .ok (.l2i, 1)) (k : ∀ z : Int, z = tw_l2i a → tw_J G M E (pc + 1) ls (vI z :: st) σ) : tw_J G M E pc ls (vL a :: st) σ := by
  intro p e s m args below meth c H locs la X hP hS hl
  have k2 := k _ rfl p e s m args below meth c H locs la X hP hS hl
  have e0 : Int32.ofInt (tw_l2i a) = (Int64.ofInt a).toInt32 := Int32.ofInt_toInt _
  refine lv_l2i X.1 X.2.1 hd e0.symm ?_
  exact k2

theorem j_i2l {a : Int} (hd : decode (mb M) pc = .ok (.i2l, 1)) (k : tw_J G M E (pc + 1) ls (vL (tw_w32 a) :: st) σ) : tw_J G M E pc ls (vI a :: st) σ := by
  intro p e s m args below meth c H locs la X hP hS hl
  refine lv_i2l X.1 X.2.1 hd ?_ (k p e s m args below meth c H locs la X hP hS hl)
  apply Int64.toInt_inj.mp
  rw [show (Int64.ofInt (tw_w32 a)).toInt = tw_w64 (tw_w32 a) from rfl, w64_eq (by have := (w32_in a).1; omega) (by have := (w32_in a).2; omega)]
  simp [tw_w32]
theorem j_ineg {a : Int} (hd : decode (mb M) pc = .ok (.ineg, 1)) (k : tw_J G M E (pc + 1) ls (vI (-a) :: st) σ) : tw_J G M E pc ls (vI a :: st) σ := by
  intro p e s m args below meth c H locs la X hP hS hl
  have k2 := k p e s m args below meth c H locs la X hP hS hl
  refine lv_ineg (x := Int32.ofInt a) X.1 X.2.1 hd ?_
  rw [← Int32.ofInt_neg]
  exact k2

theorem j_dup {v : tw_V} (hd : decode (mb M) pc = .ok (.dup, 1)) (h1 : tw_one v = true)
    (k : tw_J G M E (pc + 1) ls (v :: v :: st) σ) : tw_J G M E pc ls (v :: st) σ := by
  intro p e s m args below meth c H locs la X hP hS hl
  exact lv_dup X.1 X.2.1 hd (tw_one_c h1) (k p e s m args below meth c H locs la X hP hS hl)

theorem j_pop {v : tw_V} (hd : decode (mb M) pc = .ok (.pop, 1)) (h1 : tw_one v = true)
    (k : tw_J G M E (pc + 1) ls (st) σ) : tw_J G M E pc ls (v :: st) σ := by
  intro p e s m args below meth c H locs la X hP hS hl
  exact lv_pop X.1 X.2.1 hd (tw_one_c h1) (k p e s m args below meth c H locs la X hP hS hl)

theorem j_pop2 {v : tw_V} (hd : decode (mb M) pc = .ok (.pop2, 1)) (h1 : tw_two v = true)
    (k : tw_J G M E (pc + 1) ls (st) σ) : tw_J G M E pc ls (v :: st) σ := by
  intro p e s m args below meth c H locs la X hP hS hl
  exact lv_pop2_2 X.1 X.2.1 hd (tw_two_c h1) (k p e s m args below meth c H locs la X hP hS hl)

theorem j_dup_x1 {v w : tw_V} (hd : decode (mb M) pc = .ok (.dup_x1, 1)) (h1 : tw_one v = true) (h2 : tw_one w = true)
    (k : tw_J G M E (pc + 1) ls (v :: w :: v :: st) σ) : tw_J G M E pc ls (v :: w :: st) σ := by
  intro p e s m args below meth c H locs la X hP hS hl
  exact lv_dup_x1 X.1 X.2.1 hd (tw_one_c h1) (tw_one_c h2) (k p e s m args below meth c H locs la X hP hS hl)

theorem j_dup_x2 {v w x : tw_V} (hd : decode (mb M) pc = .ok (.dup_x2, 1)) (h1 : tw_one v = true) (h2 : tw_one w = true) (h3 : tw_one x = true)
    (k : tw_J G M E (pc + 1) ls (v :: w :: x :: v :: st) σ) : tw_J G M E pc ls (v :: w :: x :: st) σ := by
  intro p e s m args below meth c H locs la X hP hS hl
  exact lv_dup_x2 X.1 X.2.1 hd (tw_one_c h1) (tw_one_c h2) (tw_one_c h3) (k p e s m args below meth c H locs la X hP hS hl)

theorem j_dup2 {v w : tw_V} (hd : decode (mb M) pc = .ok (.dup2, 1)) (h1 : tw_one v = true) (h2 : tw_one w = true)
    (k : tw_J G M E (pc + 1) ls (v :: w :: v :: w :: st) σ) : tw_J G M E pc ls (v :: w :: st) σ := by
  intro p e s m args below meth c H locs la X hP hS hl
  exact lv_dup2_11 X.1 X.2.1 hd (tw_one_c h1) (tw_one_c h2) (k p e s m args below meth c H locs la X hP hS hl)

theorem j_dup2L {v : tw_V} (hd : decode (mb M) pc = .ok (.dup2, 1)) (h1 : tw_two v = true)
    (k : tw_J G M E (pc + 1) ls (v :: v :: st) σ) : tw_J G M E pc ls (v :: st) σ := by
  intro p e s m args below meth c H locs la X hP hS hl
  exact lv_dup2_2 X.1 X.2.1 hd (tw_two_c h1) (k p e s m args below meth c H locs la X hP hS hl)

theorem j_goto {off : Int} {tgt : Nat} (hd : decode (mb M) pc = .ok (.goto off, 3)) (ht : (pc : Int) + off = (tgt : Int)) (k : tw_J G M E tgt ls st σ) : tw_J G M E pc ls st σ := by
  intro p e s m args below meth c H locs la X hP hS hl
  exact lv_goto X.1 X.2.1 hd ht (k p e s m args below meth c H locs la X hP hS hl)
theorem w32_lt {a b : Int} : Int32.ofInt a < Int32.ofInt b ↔ tw_w32 a < tw_w32 b := Int32.lt_iff_toInt_lt
theorem w32_le {a b : Int} : Int32.ofInt a ≤ Int32.ofInt b ↔ tw_w32 a ≤ tw_w32 b := Int32.le_iff_toInt_le
theorem w32_ee {a b : Int} : Int32.ofInt a = Int32.ofInt b ↔ tw_w32 a = tw_w32 b := Int32.toInt_inj.symm
theorem w32_lt0 {a : Int} : Int32.ofInt a < 0 ↔ tw_w32 a < 0 := Int32.lt_iff_toInt_lt
theorem w32_0lt {a : Int} : 0 < Int32.ofInt a ↔ 0 < tw_w32 a := Int32.lt_iff_toInt_lt
theorem w32_le0 {a : Int} : Int32.ofInt a ≤ 0 ↔ tw_w32 a ≤ 0 := Int32.le_iff_toInt_le
theorem w32_0le {a : Int} : 0 ≤ Int32.ofInt a ↔ 0 ≤ tw_w32 a := Int32.le_iff_toInt_le

theorem j_icmp_eq {a b off : Int} {tgt : Nat} (hd : decode (mb M) pc = .ok (.if_icmp .eq off, 3)) (ht : (pc : Int) + off = (tgt : Int)) (kt : tw_w32 a = tw_w32 b → tw_J G M E tgt ls st σ) (kf : ¬ tw_w32 a = tw_w32 b → tw_J G M E (pc + 3) ls st σ) : tw_J G M E pc ls (vI b :: vI a :: st) σ := by
  intro p e s m args below meth c H locs la X hP hS hl
  exact lv_icmp_eq (x := Int32.ofInt a) (y := Int32.ofInt b) X.1 X.2.1 hd ht (fun hh => kt (w32_ee.mp hh) p e s m args below meth c H locs la X hP hS hl) (fun hh => kf (fun q => hh (w32_ee.mpr q)) p e s m args below meth c H locs la X hP hS hl)
theorem j_if_eq {a off : Int} {tgt : Nat} (hd : decode (mb M) pc = .ok (.ifCond .eq off, 3)) (ht : (pc : Int) + off = (tgt : Int)) (kt : tw_w32 a = 0 → tw_J G M E tgt ls st σ) (kf : ¬ tw_w32 a = 0 → tw_J G M E (pc + 3) ls st σ) : tw_J G M E pc ls (vI a :: st) σ := by
  intro p e s m args below meth c H locs la X hP hS hl
  exact lv_if_eq (x := Int32.ofInt a) X.1 X.2.1 hd ht (fun hh => kt (w32_0.mp hh) p e s m args below meth c H locs la X hP hS hl) (fun hh => kf (fun q => hh (w32_0.mpr q)) p e s m args below meth c H locs la X hP hS hl)

/-- both numbers within -/
theorem j_icmpR_eq {a b off : Int} {tgt : Nat} (ha : -2147483648 ≤ a ∧ a ≤ 2147483647) (hb : -2147483648 ≤ b ∧ b ≤ 2147483647) (hd : decode (mb M) pc = .ok (.if_icmp .eq off, 3)) (ht : (pc : Int) + off = (tgt : Int)) (kt : a = b → tw_J G M E tgt ls st σ) (kf : ¬ a = b → tw_J G M E (pc + 3) ls st σ) : tw_J G M E pc ls (vI b :: vI a :: st) σ :=
  j_icmp_eq hd ht (fun h => kt (by rw [w32_eq ha.1 ha.2, w32_eq hb.1 hb.2] at h; omega)) (fun h => kf (by rw [w32_eq ha.1 ha.2, w32_eq hb.1 hb.2] at h; omega))
theorem j_ifR_eq {a off : Int} {tgt : Nat} (ha : -2147483648 ≤ a ∧ a ≤ 2147483647) (hd : decode (mb M) pc = .ok (.ifCond .eq off, 3)) (ht : (pc : Int) + off = (tgt : Int)) (kt : a = 0 → tw_J G M E tgt ls st σ) (kf : ¬ a = 0 → tw_J G M E (pc + 3) ls st σ) : tw_J G M E pc ls (vI a :: st) σ :=
  j_if_eq hd ht (fun h => kt (by rw [w32_eq ha.1 ha.2] at h; omega)) (fun h => kf (by rw [w32_eq ha.1 ha.2] at h; omega))

theorem j_icmp_ne {a b off : Int} {tgt : Nat} (hd : decode (mb M) pc = .ok (.if_icmp .ne off, 3)) (ht : (pc : Int) + off = (tgt : Int)) (kt : ¬ tw_w32 a = tw_w32 b → tw_J G M E tgt ls st σ) (kf : tw_w32 a = tw_w32 b → tw_J G M E (pc + 3) ls st σ) : tw_J G M E pc ls (vI b :: vI a :: st) σ := by
  intro p e s m args below meth c H locs la X hP hS hl
  exact lv_icmp_ne (x := Int32.ofInt a) (y := Int32.ofInt b) X.1 X.2.1 hd ht (fun hh => kt (fun q => hh (w32_ee.mpr q)) p e s m args below meth c H locs la X hP hS hl) (fun hh => kf (w32_ee.mp hh) p e s m args below meth c H locs la X hP hS hl)
theorem j_if_ne {a off : Int} {tgt : Nat} (hd : decode (mb M) pc = .ok (.ifCond .ne off, 3)) (ht : (pc : Int) + off = (tgt : Int)) (kt : ¬ tw_w32 a = 0 → tw_J G M E tgt ls st σ) (kf : tw_w32 a = 0 → tw_J G M E (pc + 3) ls st σ) : tw_J G M E pc ls (vI a :: st) σ := by
  intro p e s m args below meth c H locs la X hP hS hl
  exact lv_if_ne (x := Int32.ofInt a) X.1 X.2.1 hd ht (fun hh => kt (fun q => hh (w32_0.mpr q)) p e s m args below meth c H locs la X hP hS hl) (fun hh => kf (w32_0.mp hh) p e s m args below meth c H locs la X hP hS hl)

/-- both numbers within -/
theorem j_icmpR_ne {a b off : Int} {tgt : Nat} (ha : -2147483648 ≤ a ∧ a ≤ 2147483647) (hb : -2147483648 ≤ b ∧ b ≤ 2147483647) (hd : decode (mb M) pc = .ok (.if_icmp .ne off, 3)) (ht : (pc : Int) + off = (tgt : Int)) (kt : ¬ a = b → tw_J G M E tgt ls st σ) (kf : a = b → tw_J G M E (pc + 3) ls st σ) : tw_J G M E pc ls (vI b :: vI a :: st) σ :=
  j_icmp_ne hd ht (fun h => kt (by rw [w32_eq ha.1 ha.2, w32_eq hb.1 hb.2] at h; omega)) (fun h => kf (by rw [w32_eq ha.1 ha.2, w32_eq hb.1 hb.2] at h; omega))
theorem j_ifR_ne {a off : Int} {tgt : Nat} (ha : -2147483648 ≤ a ∧ a ≤ 2147483647) (hd : decode (mb M) pc = .ok (.ifCond .ne off, 3)) (ht : (pc : Int) + off = (tgt : Int)) (kt : ¬ a = 0 → tw_J G M E tgt ls st σ) (kf : a = 0 → tw_J G M E (pc + 3) ls st σ) : tw_J G M E pc ls (vI a :: st) σ :=
  j_if_ne hd ht (fun h => kt (by rw [w32_eq ha.1 ha.2] at h; omega)) (fun h => kf (by rw [w32_eq ha.1 ha.2] at h; omega))

theorem j_icmp_lt {a b off : Int} {tgt : Nat} (hd : decode (mb M) pc = .ok (.if_icmp .lt off, 3)) (ht : (pc : Int) + off = (tgt : Int)) (kt : tw_w32 a < tw_w32 b → tw_J G M E tgt ls st σ) (kf : ¬ tw_w32 a < tw_w32 b → tw_J G M E (pc + 3) ls st σ) : tw_J G M E pc ls (vI b :: vI a :: st) σ := by
  intro p e s m args below meth c H locs la X hP hS hl
  exact lv_icmp_lt (x := Int32.ofInt a) (y := Int32.ofInt b) X.1 X.2.1 hd ht (fun hh => kt (w32_lt.mp hh) p e s m args below meth c H locs la X hP hS hl) (fun hh => kf (fun q => hh (w32_lt.mpr q)) p e s m args below meth c H locs la X hP hS hl)
theorem j_if_lt {a off : Int} {tgt : Nat} (hd : decode (mb M) pc = .ok (.ifCond .lt off, 3)) (ht : (pc : Int) + off = (tgt : Int)) (kt : tw_w32 a < 0 → tw_J G M E tgt ls st σ) (kf : ¬ tw_w32 a < 0 → tw_J G M E (pc + 3) ls st σ) : tw_J G M E pc ls (vI a :: st) σ := by
  intro p e s m args below meth c H locs la X hP hS hl
  exact lv_if_lt (x := Int32.ofInt a) X.1 X.2.1 hd ht (fun hh => kt (w32_lt0.mp hh) p e s m args below meth c H locs la X hP hS hl) (fun hh => kf (fun q => hh (w32_lt0.mpr q)) p e s m args below meth c H locs la X hP hS hl)

/-- both numbers within -/
theorem j_icmpR_lt {a b off : Int} {tgt : Nat} (ha : -2147483648 ≤ a ∧ a ≤ 2147483647) (hb : -2147483648 ≤ b ∧ b ≤ 2147483647) (hd : decode (mb M) pc = .ok (.if_icmp .lt off, 3)) (ht : (pc : Int) + off = (tgt : Int)) (kt : a < b → tw_J G M E tgt ls st σ) (kf : b ≤ a → tw_J G M E (pc + 3) ls st σ) : tw_J G M E pc ls (vI b :: vI a :: st) σ :=
  j_icmp_lt hd ht (fun h => kt (by rw [w32_eq ha.1 ha.2, w32_eq hb.1 hb.2] at h; omega)) (fun h => kf (by rw [w32_eq ha.1 ha.2, w32_eq hb.1 hb.2] at h; omega))
theorem j_ifR_lt {a off : Int} {tgt : Nat} (ha : -2147483648 ≤ a ∧ a ≤ 2147483647) (hd : decode (mb M) pc = .ok (.ifCond .lt off, 3)) (ht : (pc : Int) + off = (tgt : Int)) (kt : a < 0 → tw_J G M E tgt ls st σ) (kf : 0 ≤ a → tw_J G M E (pc + 3) ls st σ) : tw_J G M E pc ls (vI a :: st) σ :=
  j_if_lt hd ht (fun h => kt (by rw [w32_eq ha.1 ha.2] at h; omega)) (fun h => kf (by rw [w32_eq ha.1 ha.2] at h; omega))

theorem j_icmp_ge {a b off : Int} {tgt : Nat} (hd : decode (mb M) pc = .ok (.if_icmp .ge off, 3)) (ht : (pc : Int) + off = (tgt : Int)) (kt : tw_w32 b ≤ tw_w32 a → tw_J G M E tgt ls st σ) (kf : ¬ tw_w32 b ≤ tw_w32 a → tw_J G M E (pc + 3) ls st σ) : tw_J G M E pc ls (vI b :: vI a :: st) σ := by
  intro p e s m args below meth c H locs la X hP hS hl
  exact lv_icmp_ge (x := Int32.ofInt a) (y := Int32.ofInt b) X.1 X.2.1 hd ht (fun hh => kt (w32_le.mp hh) p e s m args below meth c H locs la X hP hS hl) (fun hh => kf (fun q => hh (w32_le.mpr q)) p e s m args below meth c H locs la X hP hS hl)
theorem j_if_ge {a off : Int} {tgt : Nat} (hd : decode (mb M) pc = .ok (.ifCond .ge off, 3)) (ht : (pc : Int) + off = (tgt : Int)) (kt : 0 ≤ tw_w32 a → tw_J G M E tgt ls st σ) (kf : ¬ 0 ≤ tw_w32 a → tw_J G M E (pc + 3) ls st σ) : tw_J G M E pc ls (vI a :: st) σ := by
  intro p e s m args below meth c H locs la X hP hS hl
  exact lv_if_ge (x := Int32.ofInt a) X.1 X.2.1 hd ht (fun hh => kt (w32_0le.mp hh) p e s m args below meth c H locs la X hP hS hl) (fun hh => kf (fun q => hh (w32_0le.mpr q)) p e s m args below meth c H locs la X hP hS hl)

/-- both numbers within -/
theorem j_icmpR_ge {a b off : Int} {tgt : Nat} (ha : -2147483648 ≤ a ∧ a ≤ 2147483647) (hb : -2147483648 ≤ b ∧ b ≤ 2147483647) (hd : decode (mb M) pc = .ok (.if_icmp .ge off, 3)) (ht : (pc : Int) + off = (tgt : Int)) (kt : b ≤ a → tw_J G M E tgt ls st σ) (kf : a < b → tw_J G M E (pc + 3) ls st σ) : tw_J G M E pc ls (vI b :: vI a :: st) σ :=
  j_icmp_ge hd ht (fun h => kt (by rw [w32_eq ha.1 ha.2, w32_eq hb.1 hb.2] at h; omega)) (fun h => kf (by rw [w32_eq ha.1 ha.2, w32_eq hb.1 hb.2] at h; omega))
theorem j_ifR_ge {a off : Int} {tgt : Nat} (ha : -2147483648 ≤ a ∧ a ≤ 2147483647) (hd : decode (mb M) pc = .ok (.ifCond .ge off, 3)) (ht : (pc : Int) + off = (tgt : Int)) (kt : 0 ≤ a → tw_J G M E tgt ls st σ) (kf : a < 0 → tw_J G M E (pc + 3) ls st σ) : tw_J G M E pc ls (vI a :: st) σ :=
  j_if_ge hd ht (fun h => kt (by rw [w32_eq ha.1 ha.2] at h; omega)) (fun h => kf (by rw [w32_eq ha.1 ha.2] at h; omega))

theorem j_icmp_gt {a b off : Int} {tgt : Nat} (hd : decode (mb M) pc = .ok (.if_icmp .gt off, 3)) (ht : (pc : Int) + off = (tgt : Int)) (kt : tw_w32 b < tw_w32 a → tw_J G M E tgt ls st σ) (kf : ¬ tw_w32 b < tw_w32 a → tw_J G M E (pc + 3) ls st σ) : tw_J G M E pc ls (vI b :: vI a :: st) σ := by
  intro p e s m args below meth c H locs la X hP hS hl
  exact lv_icmp_gt (x := Int32.ofInt a) (y := Int32.ofInt b) X.1 X.2.1 hd ht (fun hh => kt (w32_lt.mp hh) p e s m args below meth c H locs la X hP hS hl) (fun hh => kf (fun q => hh (w32_lt.mpr q)) p e s m args below meth c H locs la X hP hS hl)
theorem j_if_gt {a off : Int} {tgt : Nat} (hd : decode (mb M) pc = .ok (.ifCond .gt off, 3)) (ht : (pc : Int) + off = (tgt : Int)) (kt : 0 < tw_w32 a → tw_J G M E tgt ls st σ) (kf : ¬ 0 < tw_w32 a → tw_J G M E (pc + 3) ls st σ) : tw_J G M E pc ls (vI a :: st) σ := by
  intro p e s m args below meth c H locs la X hP hS hl
  exact lv_if_gt (x := Int32.ofInt a) X.1 X.2.1 hd ht (fun hh => kt (w32_0lt.mp hh) p e s m args below meth c H locs la X hP hS hl) (fun hh => kf (fun q => hh (w32_0lt.mpr q)) p e s m args below meth c H locs la X hP hS hl)

/-- both numbers within -/
theorem j_icmpR_gt {a b off : Int} {tgt : Nat} (ha : -2147483648 ≤ a ∧ a ≤ 2147483647) (hb : -2147483648 ≤ b ∧ b ≤ 2147483647) (hd : decode (mb M) pc = .ok (.if_icmp .gt off, 3)) (ht : (pc : Int) + off = (tgt : Int)) (kt : b < a → tw_J G M E tgt ls st σ) (kf : a ≤ b → tw_J G M E (pc + 3) ls st σ) : tw_J G M E pc ls (vI b :: vI a :: st) σ :=
  j_icmp_gt hd ht (fun h => kt (by rw [w32_eq ha.1 ha.2, w32_eq hb.1 hb.2] at h; omega)) (fun h => kf (by rw [w32_eq ha.1 ha.2, w32_eq hb.1 hb.2] at h; omega))
theorem j_ifR_gt {a off : Int} {tgt : Nat} (ha : -2147483648 ≤ a ∧ a ≤ 2147483647) (hd : decode (mb M) pc = .ok (.ifCond .gt off, 3)) (ht : (pc : Int) + off = (tgt : Int)) (kt : 0 < a → tw_J G M E tgt ls st σ) (kf : a ≤ 0 → tw_J G M E (pc + 3) ls st σ) : tw_J G M E pc ls (vI a :: st) σ :=
  j_if_gt hd ht (fun h => kt (by rw [w32_eq ha.1 ha.2] at h; omega)) (fun h => kf (by rw [w32_eq ha.1 ha.2] at h; omega))

theorem j_icmp_le {a b off : Int} {tgt : Nat} (hd : decode (mb M) pc = .ok (.if_icmp .le off, 3)) (ht : (pc : Int) + off = (tgt : Int)) (kt : tw_w32 a ≤ tw_w32 b → tw_J G M E tgt ls st σ) (kf : ¬ tw_w32 a ≤ tw_w32 b → tw_J G M E (pc + 3) ls st σ) : tw_J G M E pc ls (vI b :: vI a :: st) σ := by
  intro p e s m args below meth c H locs la X hP hS hl
  exact lv_icmp_le (x := Int32.ofInt a) (y := Int32.ofInt b) X.1 X.2.1 hd ht (fun hh => kt (w32_le.mp hh) p e s m args below meth c H locs la X hP hS hl) (fun hh => kf (fun q => hh (w32_le.mpr q)) p e s m args below meth c H locs la X hP hS hl)
theorem j_if_le {a off : Int} {tgt : Nat} (hd : decode (mb M) pc = .ok (.ifCond .le off, 3)) (ht : (pc : Int) + off = (tgt : Int)) (kt : tw_w32 a ≤ 0 → tw_J G M E tgt ls st σ) (kf : ¬ tw_w32 a ≤ 0 → tw_J G M E (pc + 3) ls st σ) : tw_J G M E pc ls (vI a :: st) σ := by
  intro p e s m args below meth c H locs la X hP hS hl
  exact lv_if_le (x := Int32.ofInt a) X.1 X.2.1 hd ht (fun hh => kt (w32_le0.mp hh) p e s m args below meth c H locs la X hP hS hl) (fun hh => kf (fun q => hh (w32_le0.mpr q)) p e s m args below meth c H locs la X hP hS hl)

/-- both numbers within -/
theorem j_icmpR_le {a b off : Int} {tgt : Nat} (ha : -2147483648 ≤ a ∧ a ≤ 2147483647) (hb : -2147483648 ≤ b ∧ b ≤ 2147483647) (hd : decode (mb M) pc = .ok (.if_icmp .le off, 3)) (ht : (pc : Int) + off = (tgt : Int)) (kt : a ≤ b → tw_J G M E tgt ls st σ) (kf : b < a → tw_J G M E (pc + 3) ls st σ) : tw_J G M E pc ls (vI b :: vI a :: st) σ :=
  j_icmp_le hd ht (fun h => kt (by rw [w32_eq ha.1 ha.2, w32_eq hb.1 hb.2] at h; omega)) (fun h => kf (by rw [w32_eq ha.1 ha.2, w32_eq hb.1 hb.2] at h; omega))
theorem j_ifR_le {a off : Int} {tgt : Nat} (ha : -2147483648 ≤ a ∧ a ≤ 2147483647) (hd : decode (mb M) pc = .ok (.ifCond .le off, 3)) (ht : (pc : Int) + off = (tgt : Int)) (kt : a ≤ 0 → tw_J G M E tgt ls st σ) (kf : 0 < a → tw_J G M E (pc + 3) ls st σ) : tw_J G M E pc ls (vI a :: st) σ :=
  j_if_le hd ht (fun h => kt (by rw [w32_eq ha.1 ha.2] at h; omega)) (fun h => kf (by rw [w32_eq ha.1 ha.2] at h; omega))

/-- a table switch: outside, and at each of its places -/
theorem j_tsOut {a dflt lo hi : Int} {offs : Array Int} {len tgt : Nat} (hd : decode (mb M) pc = .ok (.tableswitch dflt lo hi offs, len)) (ha : -2147483648 ≤ a ∧ a ≤ 2147483647) (h : a < lo ∨ hi < a) (ht : (pc : Int) + dflt = (tgt : Int)) (k : tw_J G M E tgt ls st σ) : tw_J G M E pc ls (vI a :: st) σ := by
  intro p e s m args below meth c H locs la X hP hS hl
  have ea : (Int32.ofInt a).toInt = a := w32_eq ha.1 ha.2
  exact lv_tableOut (x := Int32.ofInt a) X.1 X.2.1 hd (by rw [ea]; exact h) ht (k p e s m args below meth c H locs la X hP hS hl)
theorem j_tsIn {a dflt lo hi off : Int} {offs : Array Int} {len tgt : Nat} (i : Nat) (hd : decode (mb M) pc = .ok (.tableswitch dflt lo hi offs, len)) (h : a = lo + i) (h2 : lo + i ≤ hi) (h3 : -2147483648 ≤ lo ∧ hi ≤ 2147483647) (ho : offs[i]? = some off) (ht : (pc : Int) + off = (tgt : Int)) (k : tw_J G M E tgt ls st σ) : tw_J G M E pc ls (vI a :: st) σ := by
  intro p e s m args below meth c H locs la X hP hS hl
  have ea : (Int32.ofInt a).toInt = a := w32_eq (by omega) (by omega)
  exact lv_tableIn (x := Int32.ofInt a) X.1 X.2.1 hd (by rw [ea]; omega) (by rw [ea]; omega) (by rw [ea, h, show (lo + (i : Int) - lo).toNat = i by omega]; exact ho) ht (k p e s m args below meth c H locs la X hP hS hl)

end JR
