/-! THE FRAME. One fixed world of cells, named by places 0, 1, ..; its numbers as integers (a machine number is the integer modulo its size); a judgement J over it, a row an instruction. -/
abbrev tw_V : Type := Int ⊕ Int ⊕ Nat ⊕ Value
abbrev vI (a : Int) : tw_V := .inl a
abbrev vL (a : Int) : tw_V := .inr (.inl a)
abbrev vR (k : Nat) : tw_V := .inr (.inr (.inl k))
abbrev vV (v : Value) : tw_V := .inr (.inr (.inr v))
abbrev tw_M : Type := Nat → Nat → Int
abbrev tw_K : Type := (FieldType × Nat) ⊕ (Nat × List Nat) ⊕ List Nat
abbrev oI : tw_K := .inl (.int, 0)
abbrev tA (t : FieldType) (n : Nat) : tw_K := .inl (t, n)
abbrev tO (c : Nat) (l : List Nat) : tw_K := .inr (.inl (c, l))
abbrev tS (l : List Nat) : tw_K := .inr (.inr l)
-- slots of an object: 0 an int, 1 a long, r + 2 a reference to the cell at place r
def tw_wall (o : Nat) : List tw_K := [tO 10 [o+3, o+4, o+5, o+6, o+7, o+8, o+9, o+10], tA .int 9, tA .int 11, tA .int 41, tA .int 41, tA .int 41, tA .int 41, tA .int 41, tA .int 41]
def tw_row (o : Nat) : List tw_K := [tO 7 [0, o+3, o+4, o+5], tA .int 10, tA .int 10, tA .int 10]
def tw_hand (o : Nat) : List tw_K := [tO 3 [o+3, o+7, o+8, o+9, 0, 0, 0]] ++ tw_row (o+1) ++ [tA .int 11, tA .int 2, tA .int 2]
def tw_fall : tw_K := tO 2 [0, 0, 0, 0, 0, 0]
def tw_sheet (o : Nat) : List tw_K := [tO 8 [o+3, 0, 0, 0], tA .int 40]
def tw_lays : List tw_K :=
  [tO 11 [3, 12, 25, 33, 41, 49, 57, 58, 60, 62, 73, 78, 81, 0, 0]] ++ tw_wall 1 ++
  [tO 9 [13, 14, 15, 0, 0, 0, 0, 0, 0, 16, 0, 0, 0, 0], tA .byte 400, tA .boolean 41, tA .boolean 11] ++ tw_wall 14 ++
  tw_hand 23 ++ tw_hand 31 ++ tw_hand 39 ++ tw_hand 47 ++ [tw_fall] ++
  [tO 4 [3, 59, 0, 0, 0, 0], tw_fall] ++ [tO 1 [3, 61, 1, 1], tw_fall] ++
  [tO 5 [3, 58, 63, 67, 68, 0, 0, 0, 0, 69, 0, 0, 0, 0]] ++ tw_row 61 ++ [tA .int 11, tA .int 10] ++ tw_row 67 ++
  [tO 6 [3, 0, 74, 75, 76, 77, 0, 0], tA .int 41, tA .int 41, tA .int 40, tA .int 40] ++
  [tO 0 [3, 0, 79, 80, 0, 0], tA .int 41, tA .int 40] ++ [tS [80, 82, 84, 86]] ++ tw_sheet 80 ++ tw_sheet 82 ++ tw_sheet 84 ++ tw_sheet 86 ++
  [tO 12 [91, 92, 93, 94, 95, 96, 97, 98, 99, 0, 0, 100, 0, 0, 0, 0, 0, 0, 0, 0, 0, 0, 0, 0, 0, 0, 0, 0, 101, 102, 0, 103, 104, 105, 0, 106, 107, 108, 0],
   tA .int 400, tA .boolean 2, tA .int 9, tA .int 205, tA .int 9, tA .int 205, tA .int 11, tA .boolean 41, tA .boolean 11, tA .int 400, tA .int 41, tA .int 41, tA .int 41, tA .int 41, tA .int 40, tA .int 4, tA .int 4, tA .int 160]
def tw_lay (k : Nat) : tw_K := tw_lays.getD k (tS [])
def tw_ws : List Cond := lw_tbl.filter goodWord
abbrev tw_cl : List vw_C := [(RX0, TX0, 6), (RX1, TX1, 4), (RX2, TX2, 6), (RX3, TX3, 7), (RX4, TX4, 6), (RX5, TX5, 14), (RX6, TX6, 8), (RX7, TX7, 4), (RX8, TX8, 4), (RX9, TX9, 14), (RX10, TX10, 8), (RX11, TX11, 15), (RX12, TX12, 39)]
theorem tw_in {i : Nat} {w : Cond} (h : lw_tbl[i]? = some w) (hg : goodWord w = true) : w ∈ tw_ws := List.mem_filter.mpr ⟨List.mem_of_getElem? h, hg⟩
theorem tw_good : ∀ w ∈ tw_ws, goodWord w = true := fun _ h => (List.mem_filter.mp h).2
-- the bundle: the launch, the places that are there, their addresses, the classes' numbers, the arrays' classes, the array classes known, the script
abbrev tw_G : Type := Launch × List Nat × (Nat → Nat) × va_G × (FieldType → ClassId) × List (ClassId × FieldType) × Nat × (Nat → Int32)
abbrev gl (G : tw_G) : Launch := G.1
abbrev gks (G : tw_G) : List Nat := G.2.1
abbrev gad (G : tw_G) : Nat → Nat := G.2.2.1
abbrev gD (G : tw_G) : va_G := G.2.2.2.1
abbrev gca (G : tw_G) : FieldType → ClassId := G.2.2.2.2.1
abbrev gty (G : tw_G) : List (ClassId × FieldType) := G.2.2.2.2.2.1
abbrev gN (G : tw_G) : Nat := G.2.2.2.2.2.2.1
abbrev gxs (G : tw_G) : Nat → Int32 := G.2.2.2.2.2.2.2
-- a method: its class, its bytes, its locals, what it answers, its room, the cells and slots that are made already
abbrev tw_T : Type := String × ByteArray × Nat × Option FieldType × Room × Nat × Nat
abbrev mo (M : tw_T) : String := M.1
abbrev mb (M : tw_T) : ByteArray := M.2.1
abbrev mL (M : tw_T) : Nat := M.2.2.1
abbrev mret (M : tw_T) : Option FieldType := M.2.2.2.1
abbrev mR (M : tw_T) : Room := M.2.2.2.2.1
abbrev mC (M : tw_T) : Nat := M.2.2.2.2.2.1
abbrev mS (M : tw_T) : Nat := M.2.2.2.2.2.2
def tw_v (G : tw_G) : tw_V → Value
  | .inl a => .int (Int32.ofInt a)
  | .inr (.inl a) => .long (Int64.ofInt a)
  | .inr (.inr (.inl k)) => .ref (gad G k)
  | .inr (.inr (.inr v)) => v
def tw_s (G : tw_G) (σ : tw_M) (k j : Nat) : Nat → Value
  | 0 => .int (Int32.ofInt (σ k j))
  | 1 => .long (Int64.ofInt (σ k j))
  | r + 2 => .ref (gad G r)
def tw_f (G : tw_G) (σ : tw_M) (k : Nat) : Nat → List Nat → List Value
  | _, [] => []
  | j, c :: r => tw_s G σ k j c :: tw_f G σ k (j + 1) r
def tw_e (G : tw_G) (σ : tw_M) (k : Nat) : va_E := match tw_lay k with
  | .inl t => .inl (gca G t.1, (t.2, .inl (fun j => Int32.ofInt (σ k j))))
  | .inr (.inl o) => .inr (o.1, tw_f G σ k 0 o.2)
  | .inr (.inr l) => .inl (gca G (.object RX8), (l.length, .inr (.inr (.inr (.inr (fun j => (l[j]?).map (gad G)))))))
def tw_w (G : tw_G) (σ : tw_M) : va_W := (gks G).map (fun k => (gad G k, tw_e G σ k))
def tw_A (G : tw_G) : Nat → Prop := fun q => ∃ k ∈ gks G, q = gad G k
def tw_ok (G : tw_G) : Prop := (gks G).Nodup ∧ ∀ i ∈ gks G, ∀ j ∈ gks G, gad G i = gad G j → i = j
def tw_up (σ : tw_M) (k j : Nat) (v : Int) : tw_M := fun a b => if a = k ∧ b = j then v else σ a b
-- what stands outside the world: three rows of numbers, the texts' cells (places 200 on, their bytes' 220 on), the script (place 300)
def tw_lit : List (Nat × String × List Int32) := [(106, "at", [97, 116]), (112, "rack", [114, 97, 99, 107]), (114, "top", [116, 111, 112]), (115, "strength", [115, 116, 114, 101, 110, 103, 116, 104]), (117, "place", [112, 108, 97, 99, 101]), (118, "rope", [114, 111, 112, 101]), (120, "give", [103, 105, 118, 101]), (122, "fits", [102, 105, 116, 115]), (124, "holds", [104, 111, 108, 100, 115]), (126, "low", [108, 111, 119]), (128, "crack", [99, 114, 97, 99, 107]), (130, "ledge", [108, 101, 100, 103, 101]), (132, "rest", [114, 101, 115, 116]), (134, "side", [115, 105, 100, 101])]
def tw_first : List Int32 := [20, 200, 10, 40, 10, 18, 10, 6, 2]
def tw_least : List Int32 := [1, 1, 0, 1, 0, 0, 0, 0, 0]
def tw_most : List Int32 := [40, 999, 99, 60, 50, 20, 20, 60, 9]
def tw_St (G : tw_G) (A : Nat → Prop) (s : State) (H : Heap) : Prop :=
  (va_Z RX10 "FIRST" "[I" (.ref (gad G 240)) A s H ∧ va_T .int (gad G 240) 9 (fun j => .int (tw_first.getD j 0)) A s H) ∧
  (va_Z RX9 "LEAST" "[I" (.ref (gad G 241)) A s H ∧ va_T .int (gad G 241) 9 (fun j => .int (tw_least.getD j 0)) A s H) ∧
  (va_Z RX9 "MOST" "[I" (.ref (gad G 242)) A s H ∧ va_T .int (gad G 242) 9 (fun j => .int (tw_most.getD j 0)) A s H) ∧
  va_Z RJ0 "COMPACT_STRINGS" "Z" (.int 1) A s H ∧ va_Zq RJ3 "SIOOBE_FORMATTER" "Ljava/util/function/BiFunction;" A s H ∧
  vk_S tw_lit.length (tw_lit.map (fun q => q.2.2.length)) (tw_lit.map (fun q => q.2.2)) (fun i => gad G (200 + i)) (fun i => gad G (220 + i)) A s H ∧
  (∀ (i : Nat) (q : Nat × String × List Int32), tw_lit[i]? = some q → vk_R RX9 q.1 q.2.1 (gad G (200 + i)) s) ∧
  (va_X (gad G 300) (gN G) (gxs G) s H ∧ gad G 300 < H.size ∧ ¬ A (gad G 300))
def tw_X (G : tw_G) (M : tw_T) (p : Program) (s : State) (m : MethodId) (args : Array Value) (meth : Method) (c : Code) : Prop :=
  p.tables.exec = Jvm.exec ∧ c.code = mb M ∧ c.maxLocals = mL M ∧ meth.sig.returnType = mret M ∧ s.vm.findClass (mo M) = some m.cls ∧ (∀ w ∈ tw_ws, w.before args s = true) ∧ meth.locks = false ∧
  va_K (gD G) tw_cl (gty G) s ∧ tw_ok G ∧ tw_St G (tw_A G) s s.heap ∧ (mS M ≠ 0 → ∀ q, tw_A G q → s.heap.size ≤ q)
def tw_l (G : tw_G) (ls : List (Nat × tw_V)) : List (Nat × Value) := ls.map (fun q => (q.1, tw_v G q.2))
def tw_J (G : tw_G) (M : tw_T) (E : List Frame → Array Value → State → State → Prop) (pc : Nat) (ls : List (Nat × tw_V)) (st : List tw_V) (σ : tw_M) : Prop :=
  ∀ (p : Program) (e : Env) (s : State) (m : MethodId) (args : Array Value) (below : List Frame) (meth : Method) (c : Code) (H : Heap) (locs : List Loc) (la : Array Slot),
    tw_X G M p s m args meth c → va_P (gD G) tw_cl (tw_w G σ) H → va_S (tw_A G) s.heap H locs → lv_has la (mL M) (tw_l G ls) →
    W p (gl G) e (mR M) s m args below meth c H locs (mC M) (mS M) (E below args s) (F0 m pc la (st.map (tw_v G)))
def tw_Q (G : tw_G) (Q : Option tw_V → tw_M → Prop) : Array Value → State → Outcome → State → Prop := fun _ st o t =>
  (∃ (r : Option tw_V) (σ : tw_M), o = .returned (r.map (tw_v G)) ∧ Q r σ ∧ va_P (gD G) tw_cl (tw_w G σ) t.heap) ∧ va_F (tw_A G) st t
def tw_E (G : tw_G) (Q : Option tw_V → tw_M → Prop) : List Frame → Array Value → State → State → Prop := fun below args s => MQ below (tw_Q G Q) args s 0 0 (tw_A G)
def tw_room (d : Nat) : Room := { frames := d, cells := 0, slots := 0, locals := 60 * d }
abbrev tw_mt (o : String) (b : ByteArray) (n : Nat) (r : Option FieldType) (d : Nat) : tw_T := (o, b, n, r, tw_room d, 0, 0)
-- facts about the world
theorem tw_f_get (G : tw_G) (σ : tw_M) (k : Nat) : ∀ (l : List Nat) (i j : Nat), (tw_f G σ k i l)[j]? = (l[j]?).map (fun c => tw_s G σ k (i + j) c)
  | [], i, j => by simp [tw_f]
  | c :: r, i, 0 => by simp [tw_f]
  | c :: r, i, j + 1 => by
    simp only [tw_f, List.getElem?_cons_succ]
    rw [tw_f_get G σ k r (i + 1) j, show i + 1 + j = i + (j + 1) by omega]
theorem tw_f_len (G : tw_G) (σ : tw_M) (k : Nat) : ∀ (l : List Nat) (i : Nat), (tw_f G σ k i l).length = l.length
  | [], i => rfl
  | c :: r, i => by simp [tw_f, tw_f_len G σ k r (i + 1)]
theorem tw_f_set {G : tw_G} {σ : tw_M} {k j c : Nat} {l : List Nat} {v : Int} {w : Value} (hc : l[j]? = some c) (hw : tw_s G (tw_up σ k j v) k j c = w) : (tw_f G σ k 0 l).set j w = tw_f G (tw_up σ k j v) k 0 l := by
  apply List.ext_getElem?
  intro i
  rw [tw_f_get, Nat.zero_add]
  by_cases h : i = j
  · subst h
    have hl : i < (tw_f G σ k 0 l).length := by rw [tw_f_len]; exact (List.getElem?_eq_some_iff.mp hc).1
    rw [List.getElem?_set_self hl, hc, ← hw]
    rfl
  · rw [List.getElem?_set_ne (Ne.symm h), tw_f_get, Nat.zero_add]
    cases l[i]? with
    | none => rfl
    | some c2 =>
      have e : tw_up σ k j v k i = σ k i := by simp [tw_up, h]
      simp only [Option.map_some]
      congr 1
      match c2 with
      | 0 => simp [tw_s, e]
      | 1 => simp [tw_s, e]
      | r + 2 => simp [tw_s]
theorem tw_e_ne {G : tw_G} {σ : tw_M} {k j x : Nat} {v : Int} (h : x ≠ k) : tw_e G (tw_up σ k j v) x = tw_e G σ x := by
  have e : ∀ i, tw_up σ k j v x i = σ x i := fun i => by simp [tw_up, h]
  have ef : ∀ (l : List Nat) (i : Nat), tw_f G (tw_up σ k j v) x i l = tw_f G σ x i l := by
    intro l i
    apply List.ext_getElem?
    intro a
    rw [tw_f_get, tw_f_get]
    cases l[a]? with
    | none => rfl
    | some c =>
      simp only [Option.map_some]
      congr 1
      match c with
      | 0 => simp [tw_s, e]
      | 1 => simp [tw_s, e]
      | r + 2 => simp [tw_s]
  unfold tw_e
  split <;> simp [e, ef]
theorem tw_nd {l : List Nat} (h : l.Nodup) {i j : Nat} (hi : i < l.length) (hj : j < l.length) (e : l[i] = l[j]) : i = j := by
  have h2 := List.pairwise_iff_getElem.mp h
  rcases Nat.lt_trichotomy i j with q | q | q
  · exact absurd e (h2 i j hi hj q)
  · exact q
  · exact absurd e.symm (h2 j i hj hi q)
theorem tw_w_get {G : tw_G} {σ : tw_M} {q k : Nat} (h : (gks G)[q]? = some k) : (tw_w G σ)[q]? = some (gad G k, tw_e G σ k) := by
  simp [tw_w, h]
theorem tw_w_set {G : tw_G} {σ : tw_M} {q k j : Nat} {v : Int} {e : va_E} (hn : (gks G).Nodup) (h : (gks G)[q]? = some k) (he : tw_e G (tw_up σ k j v) k = e) : (tw_w G σ).set q (gad G k, e) = tw_w G (tw_up σ k j v) := by
  have hq := (List.getElem?_eq_some_iff.mp h).1
  apply List.ext_getElem?
  intro i
  by_cases hi : i = q
  · subst hi
    have hl : i < (tw_w G σ).length := by simpa [tw_w] using hq
    rw [List.getElem?_set_self hl, tw_w_get h, he]
  · rw [List.getElem?_set_ne (Ne.symm hi)]
    cases hx : (gks G)[i]? with
    | none => simp [tw_w, hx]
    | some x =>
      have hxk : x ≠ k := by
        intro e2
        subst e2
        have h1 := List.getElem?_eq_some_iff.mp hx
        have h2 := List.getElem?_eq_some_iff.mp h
        exact hi (tw_nd hn h1.1 h2.1 (h1.2.trans h2.2.symm))
      rw [tw_w_get hx, tw_w_get hx, tw_e_ne hxk]
theorem tw_dd {G : tw_G} (h : tw_ok G) (σ : tw_M) : va_D (tw_A G) (tw_w G σ) := by
  have key : ∀ (i : Nat) (p : Nat × va_E), (tw_w G σ)[i]? = some p → ∃ k, (gks G)[i]? = some k ∧ p.1 = gad G k := by
    intro i p hp
    rw [tw_w, List.getElem?_map] at hp
    cases hk : (gks G)[i]? with
    | none => rw [hk] at hp; cases hp
    | some k => rw [hk] at hp; cases hp; exact ⟨k, rfl, rfl⟩
  refine ⟨fun i j p q hi hj e => ?_, fun i p hp => ?_⟩
  · obtain ⟨a, ha, e1⟩ := key i p hi
    obtain ⟨b, hb, e2⟩ := key j q hj
    have hab := h.2 a (List.mem_of_getElem? ha) b (List.mem_of_getElem? hb) (e1.symm.trans (e.trans e2))
    subst hab
    have h1 := List.getElem?_eq_some_iff.mp ha
    have h2 := List.getElem?_eq_some_iff.mp hb
    exact tw_nd h.1 h1.1 h2.1 (h1.2.trans h2.2.symm)
  · obtain ⟨a, ha, e1⟩ := key i p hp
    exact ⟨a, List.mem_of_getElem? ha, e1⟩
theorem tw_idx {α : Type} {l : List α} {k : α} (h : k ∈ l) : ∃ q : Nat, l[q]? = some k := List.getElem?_of_mem h
