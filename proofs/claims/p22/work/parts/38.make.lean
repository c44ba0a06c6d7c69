/-! MAKING. Cells are made one after another: place k lies k behind the base. A world half made: the places up to n, those in the making as they stand. -/
abbrev tw_R : Type := Nat → Option va_E
def tw_x (G : tw_G) (σ : tw_M) (ρ : tw_R) (k : Nat) : va_E := match ρ k with
  | none => tw_e G σ k
  | some e => e
def tw_y (G : tw_G) (σ : tw_M) (ρ : tw_R) (n : Nat) : va_W := (List.range n).map (fun k => (gad G k, tw_x G σ ρ k))
def tw_r (ρ : tw_R) (o : Nat) (e : va_E) : tw_R := fun k => if k = o then some e else ρ k
abbrev tw_ro (G : tw_G) (ρ : tw_R) (o ci : Nat) (fs : List tw_V) : tw_R := tw_r ρ o (.inr (ci, fs.map (tw_v G)))
def tw_AA (G : tw_G) : Nat → Prop := fun q => gad G 0 ≤ q
def tw_sq (G : tw_G) : Prop := ∀ k, k < 107 → gad G k = gad G 0 + k
def tw_gt (G : tw_G) : Prop := (gca G .int, FieldType.int) ∈ gty G ∧ (gca G .byte, FieldType.byte) ∈ gty G ∧ (gca G .boolean, FieldType.boolean) ∈ gty G ∧ (gca G (.object RX8), FieldType.object RX8) ∈ gty G
def tw_Y (G : tw_G) (M : tw_T) (p : Program) (s : State) (m : MethodId) (args : Array Value) (meth : Method) (c : Code) : Prop :=
  p.tables.exec = Jvm.exec ∧ c.code = mb M ∧ c.maxLocals = mL M ∧ meth.sig.returnType = mret M ∧ s.vm.findClass (mo M) = some m.cls ∧ (∀ w ∈ tw_ws, w.before args s = true) ∧ meth.locks = false ∧
  va_K (gD G) tw_cl (gty G) s ∧ tw_sq G ∧ tw_St G (tw_AA G) s s.heap ∧ s.heap.size = gad G 0 + mC M ∧ tw_gt G ∧ (mret M = none → meth.name = "<init>") ∧ va_AO RX8 s
def tw_L (G : tw_G) (M : tw_T) (E : List Frame → Array Value → State → State → Prop) (pc : Nat) (ls : List (Nat × tw_V)) (st : List tw_V) (σ : tw_M) (ρ : tw_R) (n ss : Nat) : Prop :=
  ∀ (p : Program) (e : Env) (s : State) (m : MethodId) (args : Array Value) (below : List Frame) (meth : Method) (c : Code) (H : Heap) (locs : List Loc) (la : Array Slot),
    tw_Y G M p s m args meth c → va_P (gD G) tw_cl (tw_y G σ ρ n) H → va_S (tw_AA G) s.heap H locs → lv_has la (mL M) (tw_l G ls) →
    W p (gl G) e (mR M) s m args below meth c H locs (n - mC M) ss (E below args s) (F0 m pc la (st.map (tw_v G)))
theorem tw_y_s {G : tw_G} {σ : tw_M} {ρ : tw_R} {n : Nat} : tw_y G σ ρ (n + 1) = tw_y G σ ρ n ++ [(gad G n, tw_x G σ ρ n)] := by simp [tw_y, List.range_succ]
theorem tw_y_get {G : tw_G} {σ : tw_M} {ρ : tw_R} {n k : Nat} (h : k < n) : (tw_y G σ ρ n)[k]? = some (gad G k, tw_x G σ ρ k) := by simp [tw_y, h]
theorem tw_y_of {G : tw_G} {σ : tw_M} {ρ : tw_R} {n k : Nat} {q : Nat × va_E} (h : (tw_y G σ ρ n)[k]? = some q) : k < n ∧ q = (gad G k, tw_x G σ ρ k) := by
  have hk : k < n := by
    have := (List.getElem?_eq_some_iff.mp h).1
    simpa [tw_y] using this
  rw [tw_y_get hk] at h
  exact ⟨hk, (Option.some.inj h).symm⟩
theorem tw_r_at {ρ : tw_R} {o : Nat} {e : va_E} : tw_r ρ o e o = some e := by simp [tw_r]
theorem tw_r_ne {ρ : tw_R} {o k : Nat} {e : va_E} (h : k ≠ o) : tw_r ρ o e k = ρ k := by simp [tw_r, h]
theorem tw_x_at {G : tw_G} {σ : tw_M} {ρ : tw_R} {o : Nat} {e : va_E} : tw_x G σ (tw_r ρ o e) o = e := by simp [tw_x, tw_r_at]
theorem tw_x_ne {G : tw_G} {σ : tw_M} {ρ : tw_R} {o k : Nat} {e : va_E} (h : k ≠ o) : tw_x G σ (tw_r ρ o e) k = tw_x G σ ρ k := by simp [tw_x, tw_r_ne h]
theorem tw_x_no {G : tw_G} {σ : tw_M} {ρ : tw_R} {k : Nat} (h : ρ k = none) : tw_x G σ ρ k = tw_e G σ k := by simp [tw_x, h]
theorem tw_x_raw {G : tw_G} {σ : tw_M} {ρ : tw_R} {k : Nat} {e : va_E} (h : ρ k = some e) : tw_x G σ ρ k = e := by simp [tw_x, h]
theorem tw_y_r {G : tw_G} {σ : tw_M} {ρ : tw_R} {o n : Nat} {e : va_E} (h : n ≤ o) : tw_y G σ (tw_r ρ o e) n = tw_y G σ ρ n := by
  unfold tw_y
  refine List.map_congr_left (fun k hk => ?_)
  have := List.mem_range.mp hk
  rw [tw_x_ne (by omega)]
theorem tw_y_set {G : tw_G} {σ : tw_M} {ρ : tw_R} {o n : Nat} {e e' : va_E} (h : o < n) : (tw_y G σ (tw_r ρ o e) n).set o (gad G o, e') = tw_y G σ (tw_r ρ o e') n := by
  apply List.ext_getElem?
  intro i
  by_cases hi : i = o
  · subst hi
    rw [List.getElem?_set_self (by simpa [tw_y] using h), tw_y_get h, tw_x_at]
  · rw [List.getElem?_set_ne (Ne.symm hi)]
    by_cases hn : i < n
    · rw [tw_y_get hn, tw_y_get hn, tw_x_ne hi, tw_x_ne hi]
    · rw [List.getElem?_eq_none (by simp [tw_y]; omega), List.getElem?_eq_none (by simp [tw_y]; omega)]
theorem tw_e_cg {G : tw_G} {σ τ : tw_M} {k : Nat} (h : ∀ j, τ k j = σ k j) : tw_e G τ k = tw_e G σ k := by
  have ef : ∀ (l : List Nat) (i : Nat), tw_f G τ k i l = tw_f G σ k i l := by
    intro l i
    apply List.ext_getElem?
    intro a
    rw [tw_f_get, tw_f_get]
    cases l[a]? with
    | none => rfl
    | some c =>
      simp only [Option.map_some]
      congr 1
      match c with
      | 0 => simp [tw_s, h]
      | 1 => simp [tw_s, h]
      | r + 2 => simp [tw_s]
  unfold tw_e
  split <;> simp [h, ef]
theorem tw_y_cg {G : tw_G} {σ τ : tw_M} {ρ : tw_R} {n : Nat} (h : ∀ k, k < n → ∀ j, τ k j = σ k j) : tw_y G τ ρ n = tw_y G σ ρ n := by
  unfold tw_y
  refine List.map_congr_left (fun k hk => ?_)
  have hk2 := List.mem_range.mp hk
  unfold tw_x
  rw [tw_e_cg (h k hk2)]
theorem tw_y_cr {G : tw_G} {σ : tw_M} {ρ ρ' : tw_R} {n : Nat} (h : ∀ k, k < n → ρ' k = ρ k) : tw_y G σ ρ' n = tw_y G σ ρ n := by
  unfold tw_y
  refine List.map_congr_left (fun k hk => ?_)
  unfold tw_x
  rw [h k (List.mem_range.mp hk)]
theorem tw_y_dd {G : tw_G} {σ : tw_M} {ρ : tw_R} {n : Nat} (hq : tw_sq G) (hn : n ≤ 107) : va_D (tw_AA G) (tw_y G σ ρ n) := by
  refine ⟨fun i j p q hi hj e => ?_, fun i p hp => ?_⟩
  · obtain ⟨h1, rfl⟩ := tw_y_of hi
    obtain ⟨h2, rfl⟩ := tw_y_of hj
    have e1 := hq i (by omega)
    have e2 := hq j (by omega)
    simp only at e
    omega
  · obtain ⟨h1, rfl⟩ := tw_y_of hp
    have e1 := hq i (by omega)
    show gad G 0 ≤ gad G i
    omega
theorem tw_withT {p : Program} {l : Launch} {e : Env} {R : Room} {s : State} {m : MethodId} {args : Array Value} {below : List Frame} {meth : Method} {c : Code} {H : Heap} {locs : List Loc} {cells slots : Nat} {Q : State → Prop} {g : JFrame}
    (k : ∀ T : State, T.heap = H → Stand p l e R s m args below meth c T locs cells slots → W p l e R s m args below meth c H locs cells slots Q g) : W p l e R s m args below meth c H locs cells slots Q g := fun T hT X => k T hT X T hT X
section LH
variable {G : tw_G} {M : tw_T} {E : List Frame → Array Value → State → State → Prop} {pc : Nat} {ls : List (Nat × tw_V)} {st : List tw_V} {σ : tw_M} {ρ : tw_R} {n ss : Nat}
/-- how large the heap is: just what was made -/
theorem l_hsz {p : Program} {l : Launch} {e : Env} {R : Room} {s : State} {m : MethodId} {args : Array Value} {below : List Frame} {meth : Method} {c : Code} {H : Heap} {locs : List Loc} {T : State} (Y : tw_Y G M p s m args meth c) (hP : va_P (gD G) tw_cl (tw_y G σ ρ n) H) (hS : va_S (tw_AA G) s.heap H locs)
    (hT : T.heap = H) (X : Stand p l e R s m args below meth c T locs (n - mC M) ss) (hn : mC M ≤ n) (hn2 : n ≤ 107) : H.size = gad G 0 + n := by
  have h1 := X.same.2.2.1
  have h2 : T.heap.size ≤ s.heap.size + (n - mC M) := h1
  have h3 := Y.2.2.2.2.2.2.2.2.2.2.1
  have h4 := hS.1
  rw [hT] at h2
  by_cases h0 : n = mC M
  · omega
  · obtain ⟨k, rfl⟩ : ∃ k, n = k + 1 := ⟨n - 1, by omega⟩
    have h5 := (hP k _ (tw_y_get (by omega))).lt
    have h6 := Y.2.2.2.2.2.2.2.2.1 k (by omega)
    simp only at h5
    omega
theorem l_ls {ls' : List (Nat × tw_V)} (ks : List Nat) (hp : tw_pick ls ks = ls') (k : tw_L G M E pc ls' st σ ρ n ss) : tw_L G M E pc ls st σ ρ n ss := by
  intro p e s m args below meth c H locs la X hP hS hl
  exact k p e s m args below meth c H locs la X hP hS (tw_pick_l hl hp)
theorem l_iconst {z : Int} (hd : decode (mb M) pc = .ok (.iconst z, 1)) (k : tw_L G M E (pc + 1) ls (vI z :: st) σ ρ n ss) : tw_L G M E pc ls st σ ρ n ss := by
  intro p e s m args below meth c H locs la X hP hS hl
  exact lv_iconst X.1 X.2.1 hd rfl (k p e s m args below meth c H locs la X hP hS hl)
theorem l_bipush {z : Int} (hd : decode (mb M) pc = .ok (.bipush z, 2)) (hn : (Int8.ofInt z).toInt32 = Int32.ofInt z) (k : tw_L G M E (pc + 2) ls (vI z :: st) σ ρ n ss) : tw_L G M E pc ls st σ ρ n ss := by
  intro p e s m args below meth c H locs la X hP hS hl
  exact lv_bipush X.1 X.2.1 hd hn (k p e s m args below meth c H locs la X hP hS hl)
theorem l_sipush {z : Int} (hd : decode (mb M) pc = .ok (.sipush z, 3)) (hn : (Int16.ofInt z).toInt32 = Int32.ofInt z) (k : tw_L G M E (pc + 3) ls (vI z :: st) σ ρ n ss) : tw_L G M E pc ls st σ ρ n ss := by
  intro p e s m args below meth c H locs la X hP hS hl
  exact lv_sipush X.1 X.2.1 hd hn (k p e s m args below meth c H locs la X hP hS hl)
theorem l_lconst {q : Fin 2} {z : Int} (hd : decode (mb M) pc = .ok (.lconst q, 1)) (hn : Int64.ofNat (q : Nat) = Int64.ofInt z) (k : tw_L G M E (pc + 1) ls (vL z :: st) σ ρ n ss) : tw_L G M E pc ls st σ ρ n ss := by
  intro p e s m args below meth c H locs la X hP hS hl
  exact lv_lconst X.1 X.2.1 hd hn (k p e s m args below meth c H locs la X hP hS hl)
theorem l_aload_n {q : Fin 4} {i : Nat} {a : Nat} (hd : decode (mb M) pc = .ok (.aload_n q, 1)) (hi : (q : Nat) = i) (hg : tw_get ls i = some (vR a)) (k : tw_L G M E (pc + 1) ls (vR a :: st) σ ρ n ss) : tw_L G M E pc ls st σ ρ n ss := by
  intro p e s m args below meth c H locs la X hP hS hl
  exact lv_aload_n X.1 X.2.1 hd hi (tw_la hl hg) (k p e s m args below meth c H locs la X hP hS hl)
theorem l_iload_n {q : Fin 4} {i : Nat} {a : Int} (hd : decode (mb M) pc = .ok (.iload_n q, 1)) (hi : (q : Nat) = i) (hg : tw_get ls i = some (vI a)) (k : tw_L G M E (pc + 1) ls (vI a :: st) σ ρ n ss) : tw_L G M E pc ls st σ ρ n ss := by
  intro p e s m args below meth c H locs la X hP hS hl
  exact lv_iload_n X.1 X.2.1 hd hi (tw_la hl hg) (k p e s m args below meth c H locs la X hP hS hl)
theorem l_istore_n {q : Fin 4} {i : Nat} {a : Int} {ls' : List (Nat × tw_V)} (ks : List Nat) (hd : decode (mb M) pc = .ok (.istore_n q, 1)) (hi : (q : Nat) = i) (hn : i < mL M) (hr : tw_rawless ls = true) (hp : tw_pick ((i, vI a) :: tw_keep1 i ls) ks = ls') (k : tw_L G M E (pc + 1) ls' st σ ρ n ss) : tw_L G M E pc ls (vI a :: st) σ ρ n ss := by
  intro p e s m args below meth c H locs la X hP hS hl
  exact lv_istore_n (lv' := tw_l G ((i, vI a) :: tw_keep1 i ls)) X.1 X.2.1 hd hi hl hn (by rw [tw_keep1_l hr]; rfl) (fun la' hl' => k p e s m args below meth c H locs la' X hP hS (tw_pick_l hl' hp))
theorem l_astore_n {q : Fin 4} {i : Nat} {a : Nat} {ls' : List (Nat × tw_V)} (ks : List Nat) (hd : decode (mb M) pc = .ok (.astore_n q, 1)) (hi : (q : Nat) = i) (hn : i < mL M) (hr : tw_rawless ls = true) (hp : tw_pick ((i, vR a) :: tw_keep1 i ls) ks = ls') (k : tw_L G M E (pc + 1) ls' st σ ρ n ss) : tw_L G M E pc ls (vR a :: st) σ ρ n ss := by
  intro p e s m args below meth c H locs la X hP hS hl
  exact lv_astore_n (lv' := tw_l G ((i, vR a) :: tw_keep1 i ls)) X.1 X.2.1 hd hi hl hn (by rw [tw_keep1_l hr]; rfl) (fun la' hl' => k p e s m args below meth c H locs la' X hP hS (tw_pick_l hl' hp))
theorem l_iinc {i : Nat} {z a : Int} {ls' : List (Nat × tw_V)} (ks : List Nat) (hd : decode (mb M) pc = .ok (.iinc i z, 3)) (hg : tw_get ls i = some (vI a)) (hn : i < mL M) (hr : tw_rawless ls = true) (hp : tw_pick ((i, vI (a + z)) :: tw_keep1 i ls) ks = ls') (k : tw_L G M E (pc + 3) ls' st σ ρ n ss) : tw_L G M E pc ls st σ ρ n ss := by
  intro p e s m args below meth c H locs la X hP hS hl
  obtain ⟨x, hx⟩ := tw_idx (List.mem_map.mpr ⟨(i, vI a), tw_get_in hg, rfl⟩ : (i, tw_v G (vI a)) ∈ tw_l G ls)
  exact lv_iinc (lv' := tw_l G ((i, vI (a + z)) :: tw_keep1 i ls)) (v := Int32.ofInt (a + z)) X.1 X.2.1 hd hl hx (Int32.ofInt_add a z).symm hn (by rw [tw_keep1_l hr]; rfl) (fun la' hl' => k p e s m args below meth c H locs la' X hP hS (tw_pick_l hl' hp))
theorem l_goto {off : Int} {tgt : Nat} (hd : decode (mb M) pc = .ok (.goto off, 3)) (ht : (pc : Int) + off = tgt) (k : tw_L G M E tgt ls st σ ρ n ss) : tw_L G M E pc ls st σ ρ n ss := by
  intro p e s m args below meth c H locs la X hP hS hl
  exact lv_goto X.1 X.2.1 hd ht (k p e s m args below meth c H locs la X hP hS hl)
theorem l_geT {a b off : Int} {tgt : Nat} (hd : decode (mb M) pc = .ok (.if_icmp .ge off, 3)) (ht : (pc : Int) + off = tgt) (h : Int32.ofInt b ≤ Int32.ofInt a) (k : tw_L G M E tgt ls st σ ρ n ss) : tw_L G M E pc ls (vI b :: vI a :: st) σ ρ n ss := by
  intro p e s m args below meth c H locs la X hP hS hl
  exact lv_icmp_ge (x := Int32.ofInt a) (y := Int32.ofInt b) X.1 X.2.1 hd ht (fun _ => k p e s m args below meth c H locs la X hP hS hl) (fun q => absurd h q)
theorem l_geF {a b off : Int} {tgt : Nat} (hd : decode (mb M) pc = .ok (.if_icmp .ge off, 3)) (ht : (pc : Int) + off = tgt) (h : ¬ Int32.ofInt b ≤ Int32.ofInt a) (k : tw_L G M E (pc + 3) ls st σ ρ n ss) : tw_L G M E pc ls (vI b :: vI a :: st) σ ρ n ss := by
  intro p e s m args below meth c H locs la X hP hS hl
  exact lv_icmp_ge (x := Int32.ofInt a) (y := Int32.ofInt b) X.1 X.2.1 hd ht (fun q => absurd q h) (fun _ => k p e s m args below meth c H locs la X hP hS hl)
theorem l_dup {v : tw_V} (hd : decode (mb M) pc = .ok (.dup, 1)) (hv : tw_one v = true) (k : tw_L G M E (pc + 1) ls (v :: v :: st) σ ρ n ss) : tw_L G M E pc ls (v :: st) σ ρ n ss := by
  intro p e s m args below meth c H locs la X hP hS hl
  exact lv_dup X.1 X.2.1 hd (tw_one_c hv) (k p e s m args below meth c H locs la X hP hS hl)
/-- a new object, its fields at their defaults -/
def tw_cn (own : String) (ix ci N : Nat) (fs : List tw_V) : Prop := ∃ (C : String) (T : u_T) (ty : Nat → FieldType), tw_cl[ci]? = some (C, T, N) ∧ (∀ w ∈ u_ws C T N, w ∈ tw_ws) ∧ (∀ k, k < N → parseFieldDescriptor (T k).2.2.1 = some (ty k)) ∧
  Cond.classLink own ix C ∈ tw_ws ∧ Cond.instantiable C N ∈ tw_ws ∧ Cond.initialized C ∈ tw_ws ∧ ∀ G : tw_G, ∀ j, j < N → defaultValue (ty j) = vp_V (fs.map (tw_v G)) j
theorem l_new {ix ci N : Nat} {fs : List tw_V} (h : tw_cn (mo M) ix ci N fs) (hd : decode (mb M) pc = .ok (.new ix, 3)) (hn : mC M ≤ n) (hn2 : n < 107) (hR : n - mC M + 1 ≤ (mR M).cells ∧ ss + N ≤ (mR M).slots)
    (k : tw_L G M E (pc + 3) ls (vR n :: st) σ (tw_ro G ρ n ci fs) (n + 1) (ss + N)) : tw_L G M E pc ls st σ ρ n ss := by
  intro p e s m args below meth c H locs la Y hP hS hl
  refine tw_withT (fun T hT X => ?_)
  have hsz := l_hsz Y hP hS hT X hn (by omega)
  have hg := Y.2.2.2.2.2.2.2.2.1 n hn2
  obtain ⟨C, TT, ty, h1, h2, h3, h4, h5, h6, h7⟩ := h
  have hts := Y.2.2.2.2.2.1
  have hKn := Y.2.2.2.2.2.2.2.1.1 ci _ h1
  refine W.newcK Y.1 Y.2.1 Y.2.2.2.2.1 (hts _ h4) (hts _ h5) (hts _ h6) rfl hd hR.1 hR.2 hKn.2.1 (hsz.trans hg.symm) (fun H1 kC hkC e1 z1 o1 => ?_)
  have hk : ∀ (k : Nat) (x : Nat × va_E), (tw_y G σ ρ n)[k]? = some x → H1[x.1]? = H[x.1]? := fun k x hx => o1 x.1 (by have := (hP k x hx).lt; omega)
  have hP1 : va_P (gD G) tw_cl (tw_y G σ (tw_ro G ρ n ci fs) (n + 1)) H1 := by
    rw [tw_y_s, tw_y_r (Nat.le_refl n), tw_x_at]
    refine (hP.kept hk).app (fun k x hx => ?_)
    have hz : k < 1 := (List.getElem?_eq_some_iff.mp hx).1
    rw [show k = 0 by omega] at hx
    cases hx
    exact ⟨_, h1, (u_born ty hts h2 hKn hkC e1 h3).to (h7 G)⟩
  have hS1 : va_S (tw_AA G) s.heap H1 locs := ⟨Nat.le_trans hS.1 (by omega), fun x q1 q2 => (o1 x (by have := hS.1; omega)).trans (hS.2.1 x q1 q2), hS.2.2⟩
  have kk := k p e s m args below meth c H1 locs la Y hP1 hS1 hl
  rw [show n + 1 - mC M = n - mC M + 1 by omega] at kk
  exact kk
/-- a new row of numbers -/
theorem tw_rep0 {cA : ClassId} {N : Nat} {f : Nat → Int32} (h : ∀ j, j < N → f j = 0) : arrV cA N (fun _ => Value.int 0) = vp_cell cA (N, .inl f) := by
  unfold vp_cell arrV
  congr 1
  apply Array.ext
  · simp
  · intro i h1 h2
    simp only [Array.size_ofFn] at h1
    simp [h i h1]
theorem l_newaG {at' : ArrayType} {t : FieldType} {N : Nat} {z : Int} (hat : newarray.typeOf at' = t) (h : Cond.arrayClass t ∈ tw_ws) (hdef : defaultValue t = .int 0) (hra : ∀ (s : State) (cA : ClassId), va_RA s cA t → s.vm.findClass ("[" ++ t.toString) = some cA) (hgt : tw_gt G → (gca G t, t) ∈ gty G)
    (hd : decode (mb M) pc = .ok (.newarray at', 2)) (hlay : tw_lay n = tA t N) (hρ : ρ n = none) (h0 : ∀ j, j < N → σ n j = 0) (hz : z = (N : Int)) (hN : N ≤ 1000) (hn : mC M ≤ n) (hn2 : n < 107) (hR : n - mC M + 1 ≤ (mR M).cells ∧ ss + N ≤ (mR M).slots) (hby : componentBytes t ≤ 8)
    (k : tw_L G M E (pc + 2) ls (vR n :: st) σ ρ (n + 1) (ss + N)) : tw_L G M E pc ls (vI z :: st) σ ρ n ss := by
  intro p e s m args below meth c H locs la Y hP hS hl
  refine tw_withT (fun T hT X => ?_)
  have hsz := l_hsz Y hP hS hT X hn (by omega)
  have hg := Y.2.2.2.2.2.2.2.2.1 n hn2
  have hts := Y.2.2.2.2.2.1
  subst hat
  subst hz
  have e32 : (Int32.ofInt (N : Int)).toInt = N := w32_eq (by omega) (by omega)
  have hb : N * componentBytes (newarray.typeOf at') ≤ 1000 * 8 := Nat.mul_le_mul hN hby
  refine va_newaK Y.1 Y.2.1 (hts _ h) rfl hd rfl (n := Int32.ofInt (N : Int)) (N := N) (by rw [Int32.lt_iff_toInt_lt, e32]; simp) (by show (Int32.ofInt (N : Int)).toInt.toNat = N; rw [e32]; omega) (by omega) hR.1 hR.2 (hsz.trans hg.symm) (fun H1 cA e1 z1 o1 hAr hNm => ?_)
  obtain ⟨t0, ht0⟩ := tw_idx (hgt Y.2.2.2.2.2.2.2.2.2.2.2.1)
  have hca : cA = gca G (newarray.typeOf at') := Option.some.inj (hNm.symm.trans (hra s _ (Y.2.2.2.2.2.2.2.1.2 t0 _ ht0).2))
  subst hca
  have hk : ∀ (k : Nat) (x : Nat × va_E), (tw_y G σ ρ n)[k]? = some x → H1[x.1]? = H[x.1]? := fun k x hx => o1 x.1 (by have := (hP k x hx).lt; omega)
  have hP1 : va_P (gD G) tw_cl (tw_y G σ ρ (n + 1)) H1 := by
    rw [tw_y_s, tw_x_no hρ, tw_e_arr hlay]
    refine (hP.kept hk).app (fun k x hx => ?_)
    have hz : k < 1 := (List.getElem?_eq_some_iff.mp hx).1
    rw [show k = 0 by omega] at hx
    cases hx
    show H1[gad G n]? = some (vp_cell _ _)
    rw [← tw_rep0 (fun j hj => by rw [h0 j hj]; rfl), e1, hdef]
  have hS1 : va_S (tw_AA G) s.heap H1 locs := ⟨Nat.le_trans hS.1 (by omega), fun x q1 q2 => (o1 x (by have := hS.1; omega)).trans (hS.2.1 x q1 q2), hS.2.2⟩
  have kk := k p e s m args below meth c H1 locs la Y hP1 hS1 hl
  rw [show n + 1 - mC M = n - mC M + 1 by omega] at kk
  exact kk
theorem l_newaI {N : Nat} {z : Int} (h : Cond.arrayClass .int ∈ tw_ws) (hd : decode (mb M) pc = .ok (.newarray .int, 2)) (hlay : tw_lay n = tA .int N) (hρ : ρ n = none) (h0 : ∀ j, j < N → σ n j = 0) (hz : z = (N : Int)) (hN : N ≤ 1000) (hn : mC M ≤ n) (hn2 : n < 107) (hR : n - mC M + 1 ≤ (mR M).cells ∧ ss + N ≤ (mR M).slots)
    (k : tw_L G M E (pc + 2) ls (vR n :: st) σ ρ (n + 1) (ss + N)) : tw_L G M E pc ls (vI z :: st) σ ρ n ss := l_newaG (at' := .int) (t := .int) rfl h rfl (fun _ _ q => q) (fun q => q.1) hd hlay hρ h0 hz hN hn hn2 hR (by decide) k
theorem l_newaB {N : Nat} {z : Int} (h : Cond.arrayClass .byte ∈ tw_ws) (hd : decode (mb M) pc = .ok (.newarray .byte, 2)) (hlay : tw_lay n = tA .byte N) (hρ : ρ n = none) (h0 : ∀ j, j < N → σ n j = 0) (hz : z = (N : Int)) (hN : N ≤ 1000) (hn : mC M ≤ n) (hn2 : n < 107) (hR : n - mC M + 1 ≤ (mR M).cells ∧ ss + N ≤ (mR M).slots)
    (k : tw_L G M E (pc + 2) ls (vR n :: st) σ ρ (n + 1) (ss + N)) : tw_L G M E pc ls (vI z :: st) σ ρ n ss := l_newaG (at' := .byte) (t := .byte) rfl h rfl (fun _ _ q => q) (fun q => q.2.1) hd hlay hρ h0 hz hN hn hn2 hR (by decide) k
theorem l_newaZ {N : Nat} {z : Int} (h : Cond.arrayClass .boolean ∈ tw_ws) (hd : decode (mb M) pc = .ok (.newarray .boolean, 2)) (hlay : tw_lay n = tA .boolean N) (hρ : ρ n = none) (h0 : ∀ j, j < N → σ n j = 0) (hz : z = (N : Int)) (hN : N ≤ 1000) (hn : mC M ≤ n) (hn2 : n < 107) (hR : n - mC M + 1 ≤ (mR M).cells ∧ ss + N ≤ (mR M).slots)
    (k : tw_L G M E (pc + 2) ls (vR n :: st) σ ρ (n + 1) (ss + N)) : tw_L G M E pc ls (vI z :: st) σ ρ n ss := l_newaG (at' := .boolean) (t := .boolean) rfl h rfl (fun _ _ q => q) (fun q => q.2.2.1) hd hlay hρ h0 hz hN hn hn2 hR (by decide) k
/-- a new row of sheets, all of them not there yet -/
abbrev tw_eq (G : tw_G) (f : Nat → Option Nat) : va_E := .inl (gca G (.object RX8), (4, .inr (.inr (.inr (.inr f)))))
theorem l_newq {ix : Nat} (h : Cond.classLink (mo M) ix RX8 ∈ tw_ws) (hd : decode (mb M) pc = .ok (.anewarray ix, 3)) (hn : mC M ≤ n) (hn2 : n < 107) (hR : n - mC M + 1 ≤ (mR M).cells ∧ ss + 4 ≤ (mR M).slots)
    (k : tw_L G M E (pc + 3) ls (vR n :: st) σ (tw_r ρ n (tw_eq G (fun _ => none))) (n + 1) (ss + 4)) : tw_L G M E pc ls (vI 4 :: st) σ ρ n ss := by
  intro p e s m args below meth c H locs la Y hP hS hl
  refine tw_withT (fun T hT X => ?_)
  have hsz := l_hsz Y hP hS hT X hn (by omega)
  have hg := Y.2.2.2.2.2.2.2.2.1 n hn2
  have hts := Y.2.2.2.2.2.1
  refine W.anew Y.1 Y.2.1 Y.2.2.2.2.1 (hts _ h) (va_AO.use Y.2.2.2.2.2.2.2.2.2.2.2.2.2) rfl hd rfl (n := 4) (by decide) (by decide) hR.1 hR.2 (fun cA kA comp f1 f2 f3 f4 => ?_)
  obtain ⟨t0, ht0⟩ := tw_idx Y.2.2.2.2.2.2.2.2.2.2.2.1.2.2.2
  obtain ⟨kA', comp', g1, g2, g3, g4⟩ := (Y.2.2.2.2.2.2.2.1.2 t0 _ ht0).2
  have hca : cA = gca G (.object RX8) := Option.some.inj (f1.symm.trans g4)
  subst hca
  generalize hH1 : H.push ({ cls := gca G (.object RX8), slots := Array.replicate (4 : Int32).toNatClampNeg .null, vm := .none } : Cell) = H1
  have z1 : H1.size = H.size + 1 := by rw [← hH1, Array.size_push]
  have e1 : H1[H.size]? = some (arrV (gca G (.object RX8)) 4 (fun _ => .null)) := by rw [← hH1, Array.getElem?_push_size, ← arrV_new]; rfl
  have o1 : ∀ q : Nat, q < H.size → H1[q]? = H[q]? := fun q hq => by rw [← hH1, Array.getElem?_push, if_neg (Nat.ne_of_lt hq)]
  have hk : ∀ (k : Nat) (x : Nat × va_E), (tw_y G σ ρ n)[k]? = some x → H1[x.1]? = H[x.1]? := fun k x hx => o1 x.1 (hP k x hx).lt
  have hP1 : va_P (gD G) tw_cl (tw_y G σ (tw_r ρ n (tw_eq G (fun _ => none))) (n + 1)) H1 := by
    rw [tw_y_s, tw_y_r (Nat.le_refl n), tw_x_at]
    refine (hP.kept hk).app (fun k x hx => ?_)
    have hz : k < 1 := (List.getElem?_eq_some_iff.mp hx).1
    rw [show k = 0 by omega] at hx
    cases hx
    show H1[gad G n]? = some (vp_cell _ _)
    rw [vp_cell_q, hg, ← hsz, e1]
    rfl
  have hS1 : va_S (tw_AA G) s.heap H1 locs := ⟨Nat.le_trans hS.1 (by omega), fun x q1 q2 => (o1 x (by have := hS.1; omega)).trans (hS.2.1 x q1 q2), hS.2.2⟩
  have kk := k p e s m args below meth c H1 locs la Y hP1 hS1 hl
  rw [show n + 1 - mC M = n - mC M + 1 by omega] at kk
  rw [show H.size = gad G n by omega]
  exact kk
/-- a field of an object in the making -/
def tw_ff (own : String) (ci k : Nat) (ty : FieldType) : Prop := ∃ (C : String) (T : u_T) (N : Nat) (t0 : Nat → FieldType), tw_cl[ci]? = some (C, T, N) ∧ (∀ k, k < N → parseFieldDescriptor (T k).2.2.1 = some (t0 k)) ∧ (∀ a, a < N → ∀ b, b < N → a ≠ b → (T a).2.1 ≠ (T b).2.1) ∧ t0 k = ty ∧ ((T k).2.2.2 = false ∨ ((T k).2.2.2 = true ∧ (T k).1 = own))
theorem l_put {ix ci k o : Nat} {fs fs' : List tw_V} {v : tw_V} {ty : FieldType} (hf : tw_fl (mo M) ix ci k) (hp : tw_ff (mo M) ci k ty) (hr : mret M = none) (hd : decode (mb M) pc = .ok (.putfield ix, 3)) (ho : o < n) (hn2 : n ≤ 107)
    (hn : narrow ty (tw_v G v) = tw_v G v) (hfit : fits ty (tw_v G v) = true) (hl9 : k < fs.length) (hset : fs.set k v = fs') (kk : tw_L G M E (pc + 3) ls st σ (tw_ro G ρ o ci fs') n ss) : tw_L G M E pc ls (v :: vR o :: st) σ (tw_ro G ρ o ci fs) n ss := by
  intro p e s m args below meth c H locs la Y hP hS hl
  obtain ⟨C, T, N, h1, h2, h3, h4⟩ := hf
  obtain ⟨C', T', N', t0, g1, g2, g3, g4, g5⟩ := hp
  rw [h1] at g1
  cases g1
  have hget : (tw_y G σ (tw_ro G ρ o ci fs) n)[o]? = some (gad G o, .inr (ci, fs.map (tw_v G))) := by rw [tw_y_get ho, tw_x_at]
  have hts := Y.2.2.2.2.2.1
  have fin : ∀ (H1 : Heap) (locs1 : List Loc), va_P (gD G) tw_cl ((tw_y G σ (tw_ro G ρ o ci fs) n).set o (gad G o, .inr (ci, (fs.map (tw_v G)).set k (tw_v G v)))) H1 → va_S (tw_AA G) s.heap H1 locs1 → W p (gl G) e (mR M) s m args below meth c H1 locs1 (n - mC M) ss (E below args s) (F0 m (pc + 3) la (st.map (tw_v G))) := by
    intro H1 locs1 hP1 hS1
    rw [tw_y_set ho, ← List.map_set, hset] at hP1
    exact kk p e s m args below meth c H1 locs1 la Y hP1 hS1 hl
  rcases g5 with g5 | ⟨g5, g6⟩
  · exact va_put Y.1 Y.2.1 hts h3 t0 g2 g3 Y.2.2.2.2.1 Y.2.2.2.2.2.2.2.1 hP (tw_y_dd Y.2.2.2.2.2.2.2.2.1 hn2) hS o hget h1 k h2 (hts _ h4) (fun _ h => h) g5 (by rw [← g4]; exact g2 k h2) hn hfit (by rw [List.length_map]; exact hl9) hd (fun H1 locs1 hP1 _ hS1 => fin H1 locs1 hP1 hS1)
  · exact va_putF Y.1 Y.2.1 hts h3 t0 g2 g3 Y.2.2.2.2.1 Y.2.2.2.2.2.2.2.1 hP (tw_y_dd Y.2.2.2.2.2.2.2.2.1 hn2) hS o hget h1 k h2 (hts _ h4) (fun _ h => h) g5 (Y.2.2.2.2.2.2.2.2.2.2.2.2.1 hr) g6 (by rw [← g4]; exact g2 k h2) hn hfit (by rw [List.length_map]; exact hl9) hd (fun H1 locs1 hP1 _ hS1 => fin H1 locs1 hP1 hS1)
theorem l_get {ix ci k o : Nat} {fs : List tw_V} {v : tw_V} (hf : tw_fl (mo M) ix ci k) (hd : decode (mb M) pc = .ok (.getfield ix, 3)) (ho : o < n) (hv : fs[k]? = some v)
    (kk : tw_L G M E (pc + 3) ls (v :: st) σ (tw_ro G ρ o ci fs) n ss) : tw_L G M E pc ls (vR o :: st) σ (tw_ro G ρ o ci fs) n ss := by
  intro p e s m args below meth c H locs la Y hP hS hl
  obtain ⟨C, T, N, h1, h2, h3, h4⟩ := hf
  have hget : (tw_y G σ (tw_ro G ρ o ci fs) n)[o]? = some (gad G o, .inr (ci, fs.map (tw_v G))) := by rw [tw_y_get ho, tw_x_at]
  exact va_get Y.1 Y.2.1 Y.2.2.2.2.2.1 h3 Y.2.2.2.2.1 Y.2.2.2.2.2.2.2.1 hP o hget h1 k h2 (Y.2.2.2.2.2.1 _ h4) (fun _ h => h) (v := tw_v G v) (by rw [List.getElem?_map, hv]; rfl) hd (kk p e s m args below meth c H locs la Y hP hS hl)
/-- the same of a finished object -/
theorem l_getF {ix ci k o c0 : Nat} {sl : List Nat} {v : tw_V} (hf : tw_fl (mo M) ix ci k) (hd : decode (mb M) pc = .ok (.getfield ix, 3)) (ho : o < n) (hρ : ρ o = none) (hlay : tw_lay o = tO ci sl) (hs : sl[k]? = some c0) (hv : tw_s G σ o k c0 = tw_v G v)
    (kk : tw_L G M E (pc + 3) ls (v :: st) σ ρ n ss) : tw_L G M E pc ls (vR o :: st) σ ρ n ss := by
  intro p e s m args below meth c H locs la Y hP hS hl
  obtain ⟨C, T, N, h1, h2, h3, h4⟩ := hf
  have hget : (tw_y G σ ρ n)[o]? = some (gad G o, .inr (ci, tw_f G σ o 0 sl)) := by rw [tw_y_get ho, tw_x_no hρ, tw_e_obj hlay]
  exact va_get Y.1 Y.2.1 Y.2.2.2.2.2.1 h3 Y.2.2.2.2.1 Y.2.2.2.2.2.2.2.1 hP o hget h1 k h2 (Y.2.2.2.2.2.1 _ h4) (fun _ h => h) (v := tw_v G v) (by rw [tw_f_get, hs, Nat.zero_add, ← hv]; rfl) hd (kk p e s m args below meth c H locs la Y hP hS hl)
theorem l_alenq {o : Nat} {f : Nat → Option Nat} (hd : decode (mb M) pc = .ok (.arraylength, 1)) (ho : o < n) (kk : tw_L G M E (pc + 1) ls (vI 4 :: st) σ (tw_r ρ o (tw_eq G f)) n ss) : tw_L G M E pc ls (vR o :: st) σ (tw_r ρ o (tw_eq G f)) n ss := by
  intro p e s m args below meth c H locs la Y hP hS hl
  have hget : (tw_y G σ (tw_r ρ o (tw_eq G f)) n)[o]? = some (gad G o, tw_eq G f) := by rw [tw_y_get ho, tw_x_at]
  obtain ⟨t0, ht0⟩ := tw_idx Y.2.2.2.2.2.2.2.2.2.2.2.1.2.2.2
  exact va_alen Y.1 Y.2.1 Y.2.2.2.2.2.2.2.1 hP o t0 hget ht0 (v := Int32.ofInt 4) rfl hd (kk p e s m args below meth c H locs la Y hP hS hl)
theorem l_astq {o r : Nat} {f : Nat → Option Nat} {i : Int} {sl : List Nat} (hd : decode (mb M) pc = .ok (.aastore, 1)) (ho : o < n) (hn2 : n ≤ 107) (hr : r < n) (hro : r ≠ o) (hρ : ρ r = none) (hlay : tw_lay r = tO 8 sl) (h1 : 0 ≤ i) (h2 : i < (4 : Nat))
    (kk : tw_L G M E (pc + 1) ls st σ (tw_r ρ o (tw_eq G (va_up f i.toNat (some (gad G r))))) n ss) : tw_L G M E pc ls (vR r :: vI i :: vR o :: st) σ (tw_r ρ o (tw_eq G f)) n ss := by
  intro p e s m args below meth c H locs la Y hP hS hl
  have hget : (tw_y G σ (tw_r ρ o (tw_eq G f)) n)[o]? = some (gad G o, tw_eq G f) := by rw [tw_y_get ho, tw_x_at]
  have hgr : (tw_y G σ (tw_r ρ o (tw_eq G f)) n)[r]? = some (gad G r, .inr (8, tw_f G σ r 0 sl)) := by rw [tw_y_get hr, tw_x_ne hro, tw_x_no hρ, tw_e_obj hlay]
  obtain ⟨t0, ht0⟩ := tw_idx Y.2.2.2.2.2.2.2.2.2.2.2.1.2.2.2
  obtain ⟨g1, g2⟩ := tw_ix h1 h2 (by decide)
  refine va_astq (r := (RX8, TX8, 4)) Y.1 Y.2.1 Y.2.2.2.2.2.2.2.1 hP (tw_y_dd Y.2.2.2.2.2.2.2.2.1 hn2) hS o t0 r 8 hget ht0 hgr rfl g1 hd (fun H1 locs1 hP1 _ hS1 => ?_)
  rw [g2, tw_y_set ho] at hP1
  exact kk p e s m args below meth c H1 locs1 la Y hP1 hS1 hl
theorem l_iast {o N : Nat} {i x : Int} (hd : decode (mb M) pc = .ok (.iastore, 1)) (ho : o < n) (hn2 : n ≤ 107) (hρ : ρ o = none) (hlay : tw_lay o = tA .int N) (h1 : 0 ≤ i) (h2 : i < N) (hN : N ≤ 2147483647)
    (kk : tw_L G M E (pc + 1) ls st (tw_up σ o i.toNat x) ρ n ss) : tw_L G M E pc ls (vI x :: vI i :: vR o :: st) σ ρ n ss := by
  intro p e s m args below meth c H locs la Y hP hS hl
  have hget : (tw_y G σ ρ n)[o]? = some (gad G o, .inl (gca G .int, (N, .inl (fun j => Int32.ofInt (σ o j))))) := by rw [tw_y_get ho, tw_x_no hρ, tw_e_arr hlay]
  obtain ⟨t0, ht0⟩ := tw_idx Y.2.2.2.2.2.2.2.2.2.2.2.1.1
  obtain ⟨g1, g2⟩ := tw_ix h1 h2 hN
  refine va_iast Y.1 Y.2.1 Y.2.2.2.2.2.2.2.1 hP (tw_y_dd Y.2.2.2.2.2.2.2.2.1 hn2) hS o t0 hget ht0 g1 hd (fun H1 locs1 hP1 _ hS1 => ?_)
  have e9 : (tw_y G σ ρ n).set o (gad G o, .inl (gca G .int, (N, .inl (upd (fun j => Int32.ofInt (σ o j)) (Int32.ofInt i).toNatClampNeg (Int32.ofInt x))))) = tw_y G (tw_up σ o i.toNat x) ρ n := by
    rw [g2, tw_upd (x := x) rfl]
    apply List.ext_getElem?
    intro a
    by_cases ha : a = o
    · subst ha
      rw [List.getElem?_set_self (by simpa [tw_y] using ho), tw_y_get ho, tw_x_no hρ, tw_e_arr hlay]
    · rw [List.getElem?_set_ne (Ne.symm ha)]
      by_cases hn : a < n
      · rw [tw_y_get hn, tw_y_get hn]
        unfold tw_x
        rw [tw_e_ne ha]
      · rw [List.getElem?_eq_none (by simp [tw_y]; omega), List.getElem?_eq_none (by simp [tw_y]; omega)]
  rw [e9] at hP1
  exact kk p e s m args below meth c H1 locs1 la Y hP1 hS1 hl
/-- what is made stands: an object in the making, all its fields as they shall be -/
theorem l_fin {o : Nat} {e0 : va_E} (hρ : ρ o = none) (he : tw_e G σ o = e0) (k : tw_L G M E pc ls st σ ρ n ss) : tw_L G M E pc ls st σ (tw_r ρ o e0) n ss := by
  intro p e s m args below meth c H locs la Y hP hS hl
  refine k p e s m args below meth c H locs la Y ?_ hS hl
  have h : tw_y G σ (tw_r ρ o e0) n = tw_y G σ ρ n := by
    unfold tw_y
    refine List.map_congr_left (fun a _ => ?_)
    by_cases ha : a = o
    · subst ha
      rw [tw_x_at, tw_x_no hρ, he]
    · rw [tw_x_ne ha]
  rw [← h]
  exact hP
theorem l_swap {a b : Nat} {e e' : va_E} (h : a ≠ b) (k : tw_L G M E pc ls st σ (tw_r (tw_r ρ a e) b e') n ss) : tw_L G M E pc ls st σ (tw_r (tw_r ρ b e') a e) n ss := by
  have e9 : tw_r (tw_r ρ b e') a e = tw_r (tw_r ρ a e) b e' := by
    funext i
    unfold tw_r
    by_cases h1 : i = a
    · subst h1
      simp [h]
    · by_cases h2 : i = b
      · subst h2
        simp [h1]
      · simp [h1, h2]
  rw [e9]
  exact k
theorem l_nm (k : ∀ τ : tw_M, τ = σ → tw_L G M E pc ls st τ ρ n ss) : tw_L G M E pc ls st σ ρ n ss := k σ rfl
theorem l_objInit {ix o : Nat} (hw : Cond.methodLink (mo M) ix Lib.objectInit ∈ tw_ws ∧ Cond.instanceMethod Lib.objectInit ∈ tw_ws ∧ Cond.code Lib.objectInit ⟨#[0xb1]⟩ 1 none ∈ tw_ws) (hd : decode (mb M) pc = .ok (.invokespecial ix, 3)) (hR : 1 ≤ (mR M).frames ∧ tw_cat st + 12 ≤ (mR M).locals) (hraw : st.all (fun v => !tw_raw v) = true)
    (k : tw_L G M E (pc + 3) ls st σ ρ n ss) : tw_L G M E pc ls (vR o :: st) σ ρ n ss := by
  intro p e s m args below meth c H locs la Y hP hS hl
  have hts := Y.2.2.2.2.2.1
  refine W.objInit Y.1 Y.2.1 Y.2.2.2.2.1 (hts _ hw.1) (hts _ hw.2.1) (hts _ hw.2.2) rfl (by rw [Y.2.2.1]; exact hl.1) (a := gad G o) (rest := st.map (tw_v G)) rfl hd hR.1 ?_ (k p e s m args below meth c H locs la Y hP hS hl)
  have := tw_cat_v (G := G) hraw
  show 2 * 0 + _ + 12 ≤ _
  rw [this]
  omega
end LH
/-! CONSTRUCTORS: contracts, calls, ends. -/
def tw_roomC (d mc ms : Nat) : Room := { frames := d, cells := mc, slots := ms, locals := 60 * d }
abbrev tw_mtC (o : String) (b : ByteArray) (nl d mc ms n0 : Nat) : tw_T := (o, b, nl, none, tw_roomC d mc ms, n0, 0)
def tw_BC (G : tw_G) (σ : tw_M) (ρ : tw_R) (n : Nat) (U : State) : Prop := va_P (gD G) tw_cl (tw_y G σ ρ n) U.heap ∧ va_K (gD G) tw_cl (gty G) U ∧ tw_sq G ∧ tw_St G (tw_AA G) U U.heap ∧ U.heap.size = gad G 0 + n ∧ tw_gt G ∧ va_AO RX8 U
def tw_QC (G : tw_G) (ρ : tw_R) (N : Nat) (Q : tw_M → Prop) : Array Value → State → Outcome → State → Prop := fun _ st o t =>
  (∃ σ : tw_M, o = .returned none ∧ Q σ ∧ va_P (gD G) tw_cl (tw_y G σ ρ N) t.heap) ∧ va_F (tw_AA G) st t
def tw_EC (G : tw_G) (ρ : tw_R) (N mc ms : Nat) (Q : tw_M → Prop) : List Frame → Array Value → State → State → Prop := fun below args s => MQ below (tw_QC G ρ N Q) args s mc ms (tw_AA G)
def tw_CC (G : tw_G) (y : MethodName) (b : ByteArray) (nl d o N ms : Nat) (As : List tw_V) (σ : tw_M) (ρ : tw_R) (e0 : va_E) (Q : tw_M → Prop) : Prop :=
  Met (gl G) y (Cond.code y b nl none :: tw_ws) (tw_roomC d (N - (o + 1)) ms) (va_Pc ((vR o :: As).map (tw_v G)) (tw_BC G σ (tw_r ρ o e0) (o + 1))) (tw_QC G ρ N Q) (N - (o + 1)) ms (tw_AA G)
theorem tw_metC {G : tw_G} {y : MethodName} {b : ByteArray} {nl d o N ms : Nat} {As : List tw_V} {σ : tw_M} {ρ : tw_R} {e0 : va_E} {Q : tw_M → Prop} (ls : List (Nat × tw_V)) (hy : plainName y.cls = true) (hi : y.name = "<init>")
    (hl : lv_args 0 ((vR o :: As).map (tw_v G)) = tw_l G ls) (hn : (lg_sl ((vR o :: As).map (tw_v G))).length ≤ nl) (k : tw_L G (tw_mtC y.cls b nl d (N - (o + 1)) ms (o + 1)) (tw_EC G ρ N (N - (o + 1)) ms Q) 0 ls [] σ (tw_r ρ o e0) (o + 1) 0) : tw_CC G y b nl d o N ms As σ ρ e0 Q := by
  refine Met.ofW (cc := b) (maxL := nl) (ret := none) hy rfl ?_
  intro p e s m ag below meth c s₁ B hml hv
  obtain ⟨rfl, hP, hK, hsq, hSt, hsz, hgt, hao⟩ := hv
  have hts := atoms_spec (ws := Cond.code y b nl none :: tw_ws) B.pre
  have h1 := lv_entry ((vR o :: As).map (tw_v G)) (n := nl) hn
  rw [hl] at h1
  rw [lg_entry_eq]
  have kk := k p e s m _ below meth c s.heap [] _ ⟨B.exec, B.bytes, hml, B.returns, findClass_of_methodNamed B.named, fun w hw => hts w (List.mem_cons_of_mem _ hw), B.notSynchronized, hK, hsq, hSt, hsz, hgt, fun _ => (name_of_methodNamed B.named B.method).1.trans hi, hao⟩ hP va_S.rf h1
  rw [show (o + 1) - mC (tw_mtC y.cls b nl d (N - (o + 1)) ms (o + 1)) = 0 from Nat.sub_self _] at kk
  exact kk
theorem tw_BC_blind {G : tw_G} {σ : tw_M} {ρ : tw_R} {n : Nat} {av : List Value} : FrameBlind (va_Pc av (tw_BC G σ ρ n)) := by
  intro a U g mk h
  obtain ⟨h1, hP, hK, hsq, hSt, hsz, hgt, hao⟩ := h
  exact ⟨h1, hP, va_K.moved (u := U) (U := U.calling g mk a) (Vm.Alike.refl U.vm) hK, hsq, hSt.same rfl, hsz, hgt, va_AO.moved (u := U) (U := U.calling g mk a) (Vm.Alike.refl U.vm) hao⟩
def tw_cI (own : String) (ix : Nat) (y : MethodName) (b : ByteArray) (nl k : Nat) : Prop :=
  (∀ w ∈ [Cond.methodLink own ix y, .instanceMethod y, .initialized y.cls, .code y b nl none], w ∈ tw_ws) ∧ y.name = "<init>" ∧ y.cls ≠ "java/lang/invoke/MethodHandle" ∧ y.cls ≠ "java/lang/invoke/VarHandle" ∧ (parseMethodDescriptor y.desc).map (fun d => d.parameters.length) = some k
abbrev tw_sub (G : tw_G) (ks : List Nat) : tw_G := (G.1, ks, G.2.2)
theorem tw_v_sub {G : tw_G} {ks : List Nat} : tw_v (tw_sub G ks) = tw_v G := by
  funext v
  match v with
  | .inl a => rfl
  | .inr (.inl a) => rfl
  | .inr (.inr (.inl k)) => rfl
  | .inr (.inr (.inr w)) => rfl
theorem tw_f_sub {G : tw_G} {ks : List Nat} {σ : tw_M} {k : Nat} : ∀ (l : List Nat) (i : Nat), tw_f (tw_sub G ks) σ k i l = tw_f G σ k i l
  | [], _ => rfl
  | c :: r, i => by
    have h1 : tw_s (tw_sub G ks) σ k i c = tw_s G σ k i c := by
      match c with
      | 0 => rfl
      | 1 => rfl
      | r + 2 => rfl
    simp only [tw_f, h1, tw_f_sub r (i + 1)]
theorem tw_e_sub {G : tw_G} {ks : List Nat} {σ : tw_M} {k : Nat} : tw_e (tw_sub G ks) σ k = tw_e G σ k := by
  unfold tw_e
  split
  · rfl
  · rw [tw_f_sub]
  · rfl
section LC
variable {G : tw_G} {M : tw_T} {E : List Frame → Array Value → State → State → Prop} {pc : Nat} {ls : List (Nat × tw_V)} {st st0 : List tw_V} {σ : tw_M} {ρ : tw_R} {n ss : Nat} {y : MethodName} {b : ByteArray} {nl d ix : Nat} {As : List tw_V}
theorem l_vret {N mc ms : Nat} {Q : tw_M → Prop} (hd : decode (mb M) pc = .ok (.return_, 1)) (hr : mret M = none) (hn : n = N) (hc : N - mC M ≤ mc) (hs : ss ≤ ms) (hQ : Q σ) : tw_L G M (tw_EC G ρ N mc ms Q) pc ls [] σ ρ n ss := by
  intro p e s m args below meth c H locs la Y hP hS hl
  subst hn
  refine W.widen (k := mc) (n := ms) hc hs ?_
  exact W.vret Y.1 Y.2.1 (Y.2.2.2.1.trans hr) (fun t ht hW => ⟨⟨σ, rfl, hQ, by rw [ht]; exact hP⟩, hS.F ht⟩) hS.2.2 hd Y.2.2.2.2.2.2.1
theorem l_callI {o N mcs k : Nat} {e0 : va_E} {Q : tw_M → Prop} (hc : tw_CC G y b nl d o N mcs As σ ρ e0 Q) (hw : tw_cI (mo M) ix y b nl k) (hk : As.length = k) (hd : decode (mb M) pc = .ok (.invokespecial ix, 3)) (hR : d + 1 ≤ (mR M).frames ∧ 8 + (nl + 11) + 60 * d ≤ (mR M).locals)
    (hf : N - mC M ≤ (mR M).cells ∧ ss + mcs ≤ (mR M).slots) (hmn : mC M ≤ o + 1) (hoN : o + 1 ≤ N) (ho : o < 107) (hs : st0 = As.reverse ++ vR o :: st) (hst : tw_cat st ≤ 8) (hraw : st.all (fun v => !tw_raw v) = true)
    (kk : ∀ σ' : tw_M, Q σ' → tw_L G M E (pc + 3) ls st σ' ρ N (ss + mcs)) : tw_L G M E pc ls st0 σ (tw_r ρ o e0) (o + 1) ss := by
  intro p e s m args below meth c H locs la Y hP hS hl
  subst hs
  refine tw_withT (fun T0 hT0 X0 => ?_)
  have hsz := l_hsz Y hP hS hT0 X0 hmn (by omega)
  have hts := Y.2.2.2.2.2.1
  have hwm : ∀ w ∈ [Cond.methodLink (mo M) ix y, .instanceMethod y, .initialized y.cls, .code y b nl none], w ∈ tw_ws := hw.1
  have run := va_runI (g := F0 m pc la ((As.reverse ++ vR o :: st).map (tw_v G))) (p := p) (e := e) (R := mR M) (below := below) (meth := meth) (H := H) (locs := locs) (cells := o + 1 - mC M) (slots := ss) (own := mo M) (index := ix) (b := gad G o) (As := As.map (tw_v G)) (rest := st.map (tw_v G)) (Ts := tw_ws) (n := k) (nL := mL M) (maxL := nl) (bytes := b)
    ⟨Y.1, Y.2.1, Y.2.2.1, Y.2.2.2.2.1, hts⟩ hc
    (cwI k hts (tw_good_app (r := none) (ws := []) (fun _ h => absurd h List.not_mem_nil) (hwm _ (by simp))) rfl rfl rfl (hts _ (hwm _ (by simp))) (hts _ (hwm _ (by simp))) (hts _ (hwm _ (by simp))) hw.2.1 hw.2.2 hR)
    ⟨tw_BC_blind, fun U hU hW => ⟨rfl, by rw [hU]; exact hP, va_K.moved hW.alike Y.2.2.2.2.2.2.2.1, Y.2.2.2.2.2.2.2.2.1, by rw [hU]; exact (Y.2.2.2.2.2.2.2.2.2.1.kept hS.1 hS.2.1).warm hW, by rw [hU]; exact hsz, Y.2.2.2.2.2.2.2.2.2.2.2.1, va_AO.moved hW.alike Y.2.2.2.2.2.2.2.2.2.2.2.2.2⟩⟩ rfl (by simpa using hk) hl.1 (by show List.map _ _ = _; simp [tw_v]) (lv_room (by rw [tw_cat_v hraw]; exact hst)) hd (by have := hf.1; have := hf.2; constructor <;> omega)
  intro T hT Xs
  obtain ⟨v, st₀, t, T', L, h0, X', hL, e1, e2, ⟨⟨σ', hv, hq, hp⟩, hz, hk2⟩, stp⟩ := run T hT Xs
  cases hv
  rw [h0] at hz hk2
  have hfr : va_S (tw_AA G) s.heap T'.heap (locs ++ L) := ⟨Nat.le_trans hS.1 (by rw [e1]; exact hz), fun q h1 h2 => by rw [e1, hk2 q (Nat.lt_of_lt_of_le h1 hS.1) h2]; exact hS.2.1 q h1 h2, fun q hq => by
    rcases List.mem_append.mp hq with h | h
    · exact hS.2.2 q h
    · exact hL q h⟩
  rw [show o + 1 - mC M + (N - (o + 1)) = N - mC M by omega] at X'
  obtain ⟨t2, a1, b1⟩ := kk σ' hq p e s m args below meth c T'.heap (locs ++ L) la Y (by rw [e1]; exact hp) hfr hl T' rfl X'
  exact ⟨t2, stp t2 a1, b1⟩
/-- a call of a method, whose world is a part of what is made -/
theorem l_callV {ks : List Nat} {o ci k : Nat} {sl : List Nat} {q : vw_C} {Q : Option tw_V → tw_M → Prop} (hc : tw_C (tw_sub G ks) y b nl none d (vR o :: As) σ Q) (hw : tw_cV (mo M) ix y b nl none k) (hk : As.length = k) (hci : tw_cl[ci]? = some q) (hcls : q.1 = y.cls) (hlay : tw_lay o = tO ci sl) (ho : o < n) (hρo : ρ o = none) (hd : decode (mb M) pc = .ok (.invokevirtual ix, 3))
    (hR : d + 1 ≤ (mR M).frames ∧ 8 + (nl + 11) + 60 * d ≤ (mR M).locals) (hf : n - mC M ≤ (mR M).cells ∧ ss ≤ (mR M).slots) (hn2 : n ≤ 107) (hnd : ks.Nodup) (hks : ∀ k ∈ ks, k < n ∧ ρ k = none) (hs : st0 = As.reverse ++ vR o :: st) (hst : tw_cat st ≤ 8) (hraw : st.all (fun v => !tw_raw v) = true)
    (hQ : ∀ z τ, Q z τ → z = none ∧ ∀ k, k ∉ ks → ∀ j, τ k j = σ k j) (kk : ∀ τ : tw_M, Q none τ → tw_L G M E (pc + 3) ls st τ ρ n ss) : tw_L G M E pc ls st0 σ ρ n ss := by
  intro p e s m args below meth c H locs la Y hP hS hl
  subst hs
  have hts := Y.2.2.2.2.2.1
  have hsq := Y.2.2.2.2.2.2.2.2.1
  have hok : tw_ok (tw_sub G ks) := ⟨hnd, fun i hi j hj e9 => by
    have h1 := hsq i (by have := (hks i hi).1; omega)
    have h2 := hsq j (by have := (hks j hj).1; omega)
    have e9 : gad G i = gad G j := e9
    omega⟩
  have hAs : ∀ q, tw_A (tw_sub G ks) q → tw_AA G q := by
    rintro q ⟨i, hi, rfl⟩
    have h1 := hsq i (by have := (hks i hi).1; omega)
    show gad G 0 ≤ gad G i
    omega
  have hPs : va_P (gD (tw_sub G ks)) tw_cl (tw_w (tw_sub G ks) σ) H := by
    intro i q hq
    unfold tw_w at hq
    rw [List.getElem?_map] at hq
    cases hx : (gks (tw_sub G ks))[i]? with
    | none => rw [hx] at hq; cases hq
    | some x =>
      rw [hx] at hq
      cases hq
      have hx2 := hks x (List.mem_of_getElem? hx)
      have h := hP x _ (tw_y_get hx2.1)
      rw [tw_x_no hx2.2] at h
      show va_at (gD G) tw_cl (gad G x, tw_e (tw_sub G ks) σ x) H
      rw [tw_e_sub]
      exact h
  have hB : ∀ U : State, U.heap = H → s.WarmedH U.vm → tw_B (tw_sub G ks) σ U := fun U hU hW => ⟨by rw [hU]; exact hPs, va_K.moved hW.alike Y.2.2.2.2.2.2.2.1, hok, by
    have h1 := (Y.2.2.2.2.2.2.2.2.2.1.kept hS.1 hS.2.1).warm hW
    rw [hU]
    exact h1.narrow hAs⟩
  have hget : (tw_y G σ ρ n)[o]? = some (gad G o, .inr (ci, tw_f G σ o 0 sl)) := by rw [tw_y_get ho, tw_x_no hρo, tw_e_obj hlay]
  have run := va_runV (g := F0 m pc la ((As.reverse ++ vR o :: st).map (tw_v G))) (p := p) (e := e) (R := mR M) (below := below) (meth := meth) (H := H) (locs := locs) (cells := n - mC M) (slots := ss) (index := ix) (maxL := nl) (bytes := b) (own := mo M) (C := y.cls) (b := gad G o) (As := As.map (tw_v G)) (rest := st.map (tw_v G)) (Ts := tw_ws) (n := k) (nL := mL M)
    ⟨Y.1, Y.2.1, Y.2.2.1, Y.2.2.2.2.1, hts⟩ hc
    (cwV k hts (tw_goodV hw.1) rfl rfl rfl hw.2 hR)
    ⟨tw_B_blind, by rw [← hcls]; exact va_recv Y.2.2.2.2.2.2.2.1 hP hci hget, fun U hU hW => ⟨by rw [tw_v_sub]; rfl, hB U hU hW⟩⟩ rfl (by simpa using hk) hl.1 (by show List.map _ _ = _; simp [tw_v]) (lv_room (by rw [tw_cat_v hraw]; exact hst)) hd (by have := hf.1; have := hf.2; constructor <;> omega)
  intro T hT Xs
  obtain ⟨v, st₀, t, T', L, h0, X', hL, e1, e2, ⟨⟨z, τ, hv, hq, hp⟩, hz, hk2⟩, stp⟩ := run T hT Xs
  obtain ⟨rfl, hfrm⟩ := hQ z τ hq
  have hv2 : v = none := by cases hv; rfl
  subst hv2
  rw [h0] at hz hk2
  have hfr : va_S (tw_AA G) s.heap T'.heap (locs ++ L) := ⟨Nat.le_trans hS.1 (by rw [e1]; exact hz), fun q h1 h2 => by rw [e1, hk2 q (Nat.lt_of_lt_of_le h1 hS.1) (fun h => h2 (hAs q h))]; exact hS.2.1 q h1 h2, fun q hq => by
    rcases List.mem_append.mp hq with h | h
    · exact hS.2.2 q h
    · exact hAs _ (hL q h)⟩
  have hP1 : va_P (gD G) tw_cl (tw_y G τ ρ n) T'.heap := by
    intro i q hq9
    obtain ⟨hi, rfl⟩ := tw_y_of hq9
    by_cases hik : i ∈ ks
    · obtain ⟨a, ha⟩ := List.getElem?_of_mem hik
      have h := hp a (gad G i, tw_e (tw_sub G ks) τ i) (by unfold tw_w; rw [List.getElem?_map, show (gks (tw_sub G ks))[a]? = some i from ha]; rfl)
      rw [tw_e_sub] at h
      rw [tw_x_no (hks i hik).2, e1]
      exact h
    · have h := hP i _ (tw_y_get hi)
      have e5 : tw_x G τ ρ i = tw_x G σ ρ i := by
        unfold tw_x
        rw [tw_e_cg (hfrm i hik)]
      rw [e5]
      refine h.kept ?_
      rw [e1]
      refine hk2 _ h.lt ?_
      rintro ⟨j, hj, e6⟩
      have h1 := hsq i (by omega)
      have h2 := hsq j (by have := (hks j hj).1; omega)
      have e6 : gad G i = gad G j := e6
      exact hik (by rw [show i = j by omega]; exact hj)
  obtain ⟨t2, a1, b1⟩ := kk τ hq p e s m args below meth c T'.heap (locs ++ L) la Y hP1 hfr hl T' rfl X'
  exact ⟨t2, stp t2 a1, b1⟩
end LC
/-- what the numbers of the objects are as they are made -/
def tw_ini (k j : Nat) : Int := if (k = 55 ∨ k = 57 ∨ k = 59) ∧ (j = 1 ∨ j = 4) then -4 else if k = 58 ∧ j = 3 then 1 else 0
theorem tw_ini0 {k j : Nat} (h : k ≠ 55 ∧ k ≠ 57 ∧ k ≠ 59 ∧ k ≠ 58) : tw_ini k j = 0 := by
  unfold tw_ini
  rw [if_neg (by omega), if_neg (by omega)]
theorem tw_q79 {G : tw_G} {σ : tw_M} : tw_e G σ 79 = tw_eq G (va_up (va_up (va_up (va_up (fun _ => none) (Int.toNat 0) (some (gad G 80))) (Int.toNat 1) (some (gad G 82))) (Int.toNat 2) (some (gad G 84))) (Int.toNat 3) (some (gad G 86))) := by
  rw [tw_e_row (l := [80, 82, 84, 86]) rfl]
  have e : (fun j => ([80, 82, 84, 86][j]?).map (gad G)) = va_up (va_up (va_up (va_up (fun _ => none) (Int.toNat 0) (some (gad G 80))) (Int.toNat 1) (some (gad G 82))) (Int.toNat 2) (some (gad G 84))) (Int.toNat 3) (some (gad G 86)) := by
    funext j
    match j with
    | 0 => rfl
    | 1 => rfl
    | 2 => rfl
    | 3 => rfl
    | j + 4 => simp [va_up]
  rw [e]
  rfl
