/-! CONTRACTS AND CALLS. -/
theorem tw_St.kept {G : tw_G} {A : Nat → Prop} {s : State} {H H1 : Heap} (h : tw_St G A s H) (hz : H.size ≤ H1.size) (hq : ∀ a : Nat, a < H.size → ¬ A a → H1[a]? = H[a]?) : tw_St G A s H1 := by
  obtain ⟨⟨a1, a2⟩, ⟨b1, b2⟩, ⟨c1, c2⟩, d, e, f, g, x1, x2, x3⟩ := h
  exact ⟨⟨a1.kept hq, a2.kept hq⟩, ⟨b1.kept hq, b2.kept hq⟩, ⟨c1.kept hq, c2.kept hq⟩, d.kept hq, e.kept hq, f.kept hq, g, x1.kept (hq _ x2 x3), Nat.lt_of_lt_of_le x2 hz, x3⟩
theorem tw_St.narrow {G : tw_G} {A B : Nat → Prop} {s : State} {H : Heap} (h : tw_St G A s H) (hAB : ∀ q, B q → A q) : tw_St G B s H := by
  obtain ⟨⟨a1, a2⟩, ⟨b1, b2⟩, ⟨c1, c2⟩, d, e, f, g, x1, x2, x3⟩ := h
  exact ⟨⟨a1.narrow hAB, a2.narrow hAB⟩, ⟨b1.narrow hAB, b2.narrow hAB⟩, ⟨c1.narrow hAB, c2.narrow hAB⟩, d.narrow hAB, e.narrow hAB, f.narrow hAB, g, x1, x2, fun z => x3 (hAB _ z)⟩
theorem tw_St.warm {G : tw_G} {A : Nat → Prop} {s U : State} {H : Heap} (hW : s.WarmedH U.vm) (h : tw_St G A s H) : tw_St G A U H := by
  obtain ⟨⟨a1, a2⟩, ⟨b1, b2⟩, ⟨c1, c2⟩, d, e, f, g, x1, x2, x3⟩ := h
  have hv := hW.alike
  exact ⟨⟨a1.moved hv, a2.moved hv⟩, ⟨b1.moved hv, b2.moved hv⟩, ⟨c1.moved hv, c2.moved hv⟩, d.moved hv, e.moved hv, f.moved hv, fun i q hq => (g i q hq).warm hW, x1.moved hv, x2, x3⟩
theorem tw_St.same {G : tw_G} {A : Nat → Prop} {s U : State} {H : Heap} (hv : U.vm = s.vm) (h : tw_St G A s H) : tw_St G A U H := by
  obtain ⟨⟨a1, a2⟩, ⟨b1, b2⟩, ⟨c1, c2⟩, d, e, f, g, x1, x2, x3⟩ := h
  have hv2 : s.vm.Alike U.vm := by rw [hv]; exact Vm.Alike.refl _
  exact ⟨⟨a1.moved hv2, a2.moved hv2⟩, ⟨b1.moved hv2, b2.moved hv2⟩, ⟨c1.moved hv2, c2.moved hv2⟩, d.moved hv2, e.moved hv2, f.moved hv2, fun i q hq => (g i q hq).same hv, x1.moved hv2, x2, x3⟩
def tw_B (G : tw_G) (σ : tw_M) (U : State) : Prop := va_P (gD G) tw_cl (tw_w G σ) U.heap ∧ va_K (gD G) tw_cl (gty G) U ∧ tw_ok G ∧ tw_St G (tw_A G) U U.heap
/-- a method's contract at these arguments over these numbers: it ends, and 'Q answer numbers' -/
def tw_C (G : tw_G) (y : MethodName) (b : ByteArray) (n : Nat) (r : Option FieldType) (d : Nat) (args : List tw_V) (σ : tw_M) (Q : Option tw_V → tw_M → Prop) : Prop :=
  Met (gl G) y (Cond.code y b n r :: tw_ws) (tw_room d) (va_Pc (args.map (tw_v G)) (tw_B G σ)) (tw_Q G Q) 0 0 (tw_A G)
theorem tw_met {G : tw_G} {y : MethodName} {b : ByteArray} {n : Nat} {r : Option FieldType} {d : Nat} {args : List tw_V} {σ : tw_M} {Q : Option tw_V → tw_M → Prop} (ls : List (Nat × tw_V)) (hy : plainName y.cls = true)
    (hl : lv_args 0 (args.map (tw_v G)) = tw_l G ls) (hn : (lg_sl (args.map (tw_v G))).length ≤ n) (k : tw_J G (tw_mt y.cls b n r d) (tw_E G Q) 0 ls [] σ) : tw_C G y b n r d args σ Q := by
  refine Met.ofW (cc := b) (maxL := n) (ret := r) hy rfl ?_
  intro p e s m ag below meth c s₁ B hml hv
  obtain ⟨rfl, hP, hK, hok, hSt⟩ := hv
  have hts := atoms_spec (ws := Cond.code y b n r :: tw_ws) B.pre
  have h1 := lv_entry (args.map (tw_v G)) (n := n) hn
  rw [hl] at h1
  rw [lg_entry_eq]
  exact k p e s m _ below meth c s.heap [] _ ⟨B.exec, B.bytes, hml, B.returns, findClass_of_methodNamed B.named, fun w hw => hts w (List.mem_cons_of_mem _ hw), B.notSynchronized, hK, hok, hSt, fun h => absurd rfl h⟩ hP va_S.rf h1
theorem tw_B_blind {G : tw_G} {σ : tw_M} {av : List Value} : FrameBlind (va_Pc av (tw_B G σ)) := by
  intro a U g mk h
  obtain ⟨h1, hP, hK, hok, hSt⟩ := h
  exact ⟨h1, hP, va_K.moved (u := U) (U := U.calling g mk a) (Vm.Alike.refl U.vm) hK, hok, hSt.same rfl⟩
/-- what a call's place in the tables says -/
def tw_cV (own : String) (ix : Nat) (y : MethodName) (b : ByteArray) (n : Nat) (r : Option FieldType) (k : Nat) : Prop :=
  (∀ w ∈ [Cond.methodLink own ix y, .instanceMethod y, .selects y.cls y y, .initialized y.cls, .code y b n r], w ∈ tw_ws) ∧ y.cls = y.cls ∧ y.cls ≠ "java/lang/invoke/MethodHandle" ∧ y.cls ≠ "java/lang/invoke/VarHandle" ∧ (parseMethodDescriptor y.desc).map (fun d => d.parameters.length) = some k
def tw_cS (own : String) (ix : Nat) (y : MethodName) (b : ByteArray) (n : Nat) (r : Option FieldType) (k : Nat) : Prop :=
  (∀ w ∈ [Cond.methodLink own ix y, .static y, .initialized y.cls, .code y b n r], w ∈ tw_ws) ∧ y.cls ≠ "java/lang/invoke/MethodHandle" ∧ y.cls ≠ "java/lang/invoke/VarHandle" ∧ (parseMethodDescriptor y.desc).map (fun d => d.parameters.length) = some k
def tw_cat (st : List tw_V) : Nat := (st.map (fun v => if tw_two v then 2 else 1)).sum
theorem tw_cat_v {G : tw_G} : ∀ {st : List tw_V}, st.all (fun v => !tw_raw v) = true → ((st.map (tw_v G)).map fun v => v.category).sum = tw_cat st
  | [], _ => rfl
  | v :: st, h => by
    simp only [List.all_cons, Bool.and_eq_true] at h
    have ih := tw_cat_v (G := G) h.2
    have hr : tw_raw v = false := by simpa using h.1
    have e : (tw_v G v).category = if tw_two v then 2 else 1 := by
      match v with
      | .inl a => rfl
      | .inr (.inl a) => rfl
      | .inr (.inr (.inl k)) => rfl
      | .inr (.inr (.inr w)) => cases hr
    simp only [tw_cat, List.map_cons, List.sum_cons] at ih ⊢
    rw [e, ih]
section JC
variable {G : tw_G} {M : tw_T} {E : List Frame → Array Value → State → State → Prop} {pc : Nat} {ls : List (Nat × tw_V)} {st st0 : List tw_V} {σ : tw_M} {y : MethodName} {b : ByteArray} {n : Nat} {r : Option FieldType} {d ix : Nat} {As : List tw_V} {Q : Option tw_V → tw_M → Prop}
theorem tw_good_app {ws : List Cond} (h : ∀ w ∈ ws, w ∈ tw_ws) (hc : Cond.code y b n r ∈ tw_ws) : GoodIn tw_ws (ws ++ Cond.code y b n r :: tw_ws) := by
  intro w hw
  have hm : w ∈ tw_ws := by
    rcases List.mem_append.mp hw with h1 | h1
    · exact h w h1
    · rcases List.mem_cons.mp h1 with rfl | h2
      · exact hc
      · exact h2
  exact ⟨hm, good_of_word (tw_good w hm)⟩
theorem tw_goodV {own : String} (h : ∀ w ∈ [Cond.methodLink own ix y, .instanceMethod y, .selects y.cls y y, .initialized y.cls, .code y b n r], w ∈ tw_ws) : GoodIn tw_ws (wsV own ix y.cls y (Cond.code y b n r :: tw_ws)) :=
  tw_good_app (ws := [Cond.methodLink own ix y, .instanceMethod y, .selects y.cls y y, .initialized y.cls]) (fun w hw => h w (List.mem_append_left [Cond.code y b n r] hw)) (h _ (by simp))
theorem tw_goodS {own : String} (h : ∀ w ∈ [Cond.methodLink own ix y, .static y, .initialized y.cls, .code y b n r], w ∈ tw_ws) : GoodIn tw_ws (va_wsS own ix y (Cond.code y b n r :: tw_ws)) :=
  tw_good_app (ws := [Cond.methodLink own ix y, .static y, .initialized y.cls]) (fun w hw => h w (List.mem_append_left [Cond.code y b n r] hw)) (h _ (by simp))
theorem tw_goes {p : Program} {e : Env} {s : State} {m : MethodId} {args : Array Value} {below : List Frame} {meth : Method} {c : Code} {H : Heap} {locs : List Loc} {la : Array Slot} {a : Array Value} {free : Addr → Prop} {g0 : List Value}
    (X : tw_X G M p s m args meth c) (hS : va_S (tw_A G) s.heap H locs) (hl : lv_has la (mL M) (tw_l G ls)) (hf : ∀ q, free q → tw_A G q)
    (hr : va_Run p (gl G) e (mR M) s m args below meth c H locs (mC M) (mS M) 0 0 (F0 m pc la g0) (st.map (tw_v G)) (tw_Q G Q a) free)
    (kk : ∀ (z : Option tw_V) (σ' : tw_M), Q z σ' → tw_J G M E (pc + 3) ls (z.toList ++ st) σ') : W p (gl G) e (mR M) s m args below meth c H locs (mC M) (mS M) (E below args s) (F0 m pc la g0) := by
  intro T hT Xs
  obtain ⟨v, st₀, t, T', L, h0, X', hL, e1, e2, ⟨⟨z, σ', hv, hq, hp⟩, hz, hk⟩, stp⟩ := hr T hT Xs
  have hv2 : v = z.map (tw_v G) := by cases hv; rfl
  subst hv2
  rw [h0] at hz hk
  have hfr : va_S (tw_A G) s.heap T'.heap (locs ++ L) := ⟨Nat.le_trans hS.1 (by rw [e1]; exact hz), fun q h1 h2 => by rw [e1, hk q (Nat.lt_of_lt_of_le h1 hS.1) h2]; exact hS.2.1 q h1 h2, fun q hq => by
    rcases List.mem_append.mp hq with h | h
    · exact hS.2.2 q h
    · exact hf _ (hL q h)⟩
  have e3 : (z.map (tw_v G)).toList ++ st.map (tw_v G) = (z.toList ++ st).map (tw_v G) := by cases z <;> simp
  obtain ⟨t2, a1, b1⟩ := kk z σ' hq p e s m args below meth c T'.heap (locs ++ L) la X (by rw [e1]; exact hp) hfr hl T' rfl X'
  rw [← e3] at a1
  exact ⟨t2, stp t2 a1, b1⟩
theorem tw_B_call {p : Program} {s : State} {m : MethodId} {args : Array Value} {meth : Method} {c : Code} {H : Heap} {locs : List Loc} (X : tw_X G M p s m args meth c) (hP : va_P (gD G) tw_cl (tw_w G σ) H) (hS : va_S (tw_A G) s.heap H locs) {U : State} (hU : U.heap = H) (hW : s.WarmedH U.vm) : tw_B G σ U := by
  refine ⟨by rw [hU]; exact hP, va_K.moved hW.alike X.2.2.2.2.2.2.2.1, X.2.2.2.2.2.2.2.2.1, ?_⟩
  have h1 := (X.2.2.2.2.2.2.2.2.2.1.kept hS.1 hS.2.1).warm hW
  rw [hU]
  exact h1
theorem tw_recv {p : Program} {s : State} {m : MethodId} {args : Array Value} {meth : Method} {c : Code} {H : Heap} {o ci : Nat} {sl : List Nat} {q : vw_C} (X : tw_X G M p s m args meth c) (hP : va_P (gD G) tw_cl (tw_w G σ) H) (ho : tw_at G o ci sl) (hc : tw_cl[ci]? = some q) : ∃ cellB : Cell, H[gad G o]? = some cellB ∧ cellB.vm.isStatics = false ∧ s.vm.findClass q.1 = some cellB.cls := by
  obtain ⟨i, hi, hw⟩ := tw_obj (σ := σ) ho
  exact va_recv X.2.2.2.2.2.2.2.1 hP hc hw
theorem j_callV {o ci k : Nat} {sl : List Nat} {q : vw_C} (hc : tw_C G y b n r d (vR o :: As) σ Q) (hw : tw_cV (mo M) ix y b n r k) (hk : As.length = k) (hci : tw_cl[ci]? = some q) (hcls : q.1 = y.cls) (ho : tw_at G o ci sl) (hd : decode (mb M) pc = .ok (.invokevirtual ix, 3))
    (hR : d + 1 ≤ (mR M).frames ∧ 8 + (n + 11) + 60 * d ≤ (mR M).locals) (hf : mC M ≤ (mR M).cells ∧ mS M ≤ (mR M).slots) (hs : st0 = As.reverse ++ vR o :: st) (hst : tw_cat st ≤ 8) (hraw : st.all (fun v => !tw_raw v) = true)
    (kk : ∀ (z : Option tw_V) (σ' : tw_M), Q z σ' → tw_J G M E (pc + 3) ls (z.toList ++ st) σ') : tw_J G M E pc ls st0 σ := by
  intro p e s m args below meth c H locs la X hP hS hl
  subst hs
  refine tw_goes (free := tw_A G) X hS hl (fun q h => h) (va_runV (own := mo M) (C := y.cls) (b := gad G o) (As := As.map (tw_v G)) (rest := st.map (tw_v G)) (Ts := tw_ws) (n := k) (nL := mL M) ⟨X.1, X.2.1, X.2.2.1, X.2.2.2.2.1, X.2.2.2.2.2.1⟩ hc
    (cwV k X.2.2.2.2.2.1 (tw_goodV hw.1) rfl rfl rfl hw.2 hR)
    ⟨tw_B_blind, by rw [← hcls]; exact tw_recv X hP ho hci, fun U hU hW => ⟨rfl, tw_B_call X hP hS hU hW⟩⟩ rfl (by simpa using hk) hl.1 (by show List.map _ _ = _; simp [tw_v]) (lv_room (by rw [tw_cat_v hraw]; exact hst)) hd hf) kk
theorem j_callS {k : Nat} (hc : tw_C G y b n r d As σ Q) (hw : tw_cS (mo M) ix y b n r k) (hk : As.length = k) (hd : decode (mb M) pc = .ok (.invokestatic ix, 3))
    (hR : d + 1 ≤ (mR M).frames ∧ 8 + (n + 11) + 60 * d ≤ (mR M).locals) (hf : mC M ≤ (mR M).cells ∧ mS M ≤ (mR M).slots) (hs : st0 = As.reverse ++ st) (hst : tw_cat st ≤ 8) (hraw : st.all (fun v => !tw_raw v) = true)
    (kk : ∀ (z : Option tw_V) (σ' : tw_M), Q z σ' → tw_J G M E (pc + 3) ls (z.toList ++ st) σ') : tw_J G M E pc ls st0 σ := by
  intro p e s m args below meth c H locs la X hP hS hl
  subst hs
  refine tw_goes (free := tw_A G) X hS hl (fun q h => h) (va_runS (own := mo M) (As := As.map (tw_v G)) (rest := st.map (tw_v G)) (Ts := tw_ws) (n := k) (nL := mL M) ⟨X.1, X.2.1, X.2.2.1, X.2.2.2.2.1, X.2.2.2.2.2.1⟩ hc
    (va_cwS k X.2.2.2.2.2.1 (tw_goodS hw.1) rfl rfl rfl hw.2 hR)
    ⟨tw_B_blind, fun U hU hW => ⟨rfl, tw_B_call X hP hS hU hW⟩⟩ rfl (by simpa using hk) hl.1 (by show List.map _ _ = _; simp) (lv_room (by rw [tw_cat_v hraw]; exact hst)) hd hf) kk
/-- a text's own methods: the receiver stands outside the world -/
theorem j_callT {i k : Nat} (hc : tw_C G y b n r d (vR (200 + i) :: As) σ Q) (hi : i < tw_lit.length) (hw : tw_cV (mo M) ix y b n r k) (hk : As.length = k) (hcls : y.cls = "java/lang/String") (hd : decode (mb M) pc = .ok (.invokevirtual ix, 3))
    (hR : d + 1 ≤ (mR M).frames ∧ 8 + (n + 11) + 60 * d ≤ (mR M).locals) (hf : mC M ≤ (mR M).cells ∧ mS M ≤ (mR M).slots) (hs : st0 = As.reverse ++ vR (200 + i) :: st) (hst : tw_cat st ≤ 8) (hraw : st.all (fun v => !tw_raw v) = true)
    (kk : ∀ (z : Option tw_V) (σ' : tw_M), Q z σ' → tw_J G M E (pc + 3) ls (z.toList ++ st) σ') : tw_J G M E pc ls st0 σ := by
  intro p e s m args below meth c H locs la X hP hS hl
  subst hs
  refine tw_goes (free := tw_A G) X hS hl (fun q h => h) (va_runV (own := mo M) (C := y.cls) (b := gad G (200 + i)) (As := As.map (tw_v G)) (rest := st.map (tw_v G)) (Ts := tw_ws) (n := k) (nL := mL M) ⟨X.1, X.2.1, X.2.2.1, X.2.2.2.2.1, X.2.2.2.2.2.1⟩ hc
    (cwV k X.2.2.2.2.2.1 (tw_goodV hw.1) rfl rfl rfl hw.2 hR)
    ⟨tw_B_blind, by rw [hcls]; exact vk_recv (adK := fun i => gad G (200 + i)) (i := i) X.2.2.2.2.2.2.2.2.2.1.2.2.2.2.2.1 hi hS, fun U hU hW => ⟨rfl, tw_B_call X hP hS hU hW⟩⟩ rfl (by simpa using hk) hl.1 (by show List.map _ _ = _; simp [tw_v]) (lv_room (by rw [tw_cat_v hraw]; exact hst)) hd hf) kk
def tw_cM (own : String) (ix : Nat) (x : MethodName) (code : ByteArray) (n : Nat) : Prop := ∀ w ∈ [Cond.methodLink own ix x, .static x, .initialized "java/lang/Math", .code x code n (some .int)], w ∈ tw_ws
theorem j_mmax {a c0 : Int} (hw : tw_cM (mo M) ix Lib.Math.max.name Lib.Math.max.code 2) (hd : decode (mb M) pc = .ok (.invokestatic ix, 3)) (hR : 1 ≤ (mR M).frames ∧ tw_cat st + 13 ≤ (mR M).locals) (hf : mC M ≤ (mR M).cells ∧ mS M ≤ (mR M).slots) (hraw : st.all (fun v => !tw_raw v) = true)
    (kk : ∀ z : Int, z = (if tw_w32 a < tw_w32 c0 then c0 else a) → tw_J G M E (pc + 3) ls (vI z :: st) σ) : tw_J G M E pc ls (vI c0 :: vI a :: st) σ := by
  intro p e s m args below meth c H locs la X hP hS hl
  have hts := X.2.2.2.2.2.1
  have k2 := kk _ rfl p e s m args below meth c H locs la X hP hS hl
  refine va_mmax (x := Int32.ofInt a) (y := Int32.ofInt c0) X.1 X.2.1 (X.2.2.1.trans hl.1.symm) X.2.2.2.2.1 (hts _ (hw _ (by simp))) (hts _ (hw _ (by simp))) (hts _ (hw _ (by simp))) (hts _ (hw _ (by simp))) hR.1 (by show ((st.map (tw_v G)).map _).sum + 13 ≤ _; rw [tw_cat_v hraw]; exact hR.2) hf.1 hf.2 hd ?_
  have e0 : (if Int32.ofInt a < Int32.ofInt c0 then Int32.ofInt c0 else Int32.ofInt a) = Int32.ofInt (if tw_w32 a < tw_w32 c0 then c0 else a) := by
    by_cases h : tw_w32 a < tw_w32 c0
    · rw [if_pos h, if_pos (w32_lt.mpr h)]
    · rw [if_neg h, if_neg (fun q => h (w32_lt.mp q))]
  rw [e0]
  exact k2
theorem j_mmin {a c0 : Int} (hw : tw_cM (mo M) ix Lib.Math.min.name Lib.Math.min.code 2) (hd : decode (mb M) pc = .ok (.invokestatic ix, 3)) (hR : 1 ≤ (mR M).frames ∧ tw_cat st + 13 ≤ (mR M).locals) (hf : mC M ≤ (mR M).cells ∧ mS M ≤ (mR M).slots) (hraw : st.all (fun v => !tw_raw v) = true)
    (kk : ∀ z : Int, z = (if tw_w32 c0 < tw_w32 a then c0 else a) → tw_J G M E (pc + 3) ls (vI z :: st) σ) : tw_J G M E pc ls (vI c0 :: vI a :: st) σ := by
  intro p e s m args below meth c H locs la X hP hS hl
  have hts := X.2.2.2.2.2.1
  have k2 := kk _ rfl p e s m args below meth c H locs la X hP hS hl
  refine va_mmin (x := Int32.ofInt a) (y := Int32.ofInt c0) X.1 X.2.1 (X.2.2.1.trans hl.1.symm) X.2.2.2.2.1 (hts _ (hw _ (by simp))) (hts _ (hw _ (by simp))) (hts _ (hw _ (by simp))) (hts _ (hw _ (by simp))) hR.1 (by show ((st.map (tw_v G)).map _).sum + 13 ≤ _; rw [tw_cat_v hraw]; exact hR.2) hf.1 hf.2 hd ?_
  have e0 : (if Int32.ofInt c0 < Int32.ofInt a then Int32.ofInt c0 else Int32.ofInt a) = Int32.ofInt (if tw_w32 c0 < tw_w32 a then c0 else a) := by
    by_cases h : tw_w32 c0 < tw_w32 a
    · rw [if_pos h, if_pos (w32_lt.mpr h)]
    · rw [if_neg h, if_neg (fun q => h (w32_lt.mp q))]
  rw [e0]
  exact k2
theorem j_mabs {a : Int} (hw : tw_cM (mo M) ix Lib.Math.abs.name Lib.Math.abs.code 1) (hd : decode (mb M) pc = .ok (.invokestatic ix, 3)) (hR : 1 ≤ (mR M).frames ∧ tw_cat st + 13 ≤ (mR M).locals) (hf : mC M ≤ (mR M).cells ∧ mS M ≤ (mR M).slots) (hraw : st.all (fun v => !tw_raw v) = true)
    (kk : ∀ z : Int, z = (if 0 ≤ tw_w32 a then a else -a) → tw_J G M E (pc + 3) ls (vI z :: st) σ) : tw_J G M E pc ls (vI a :: st) σ := by
  intro p e s m args below meth c H locs la X hP hS hl
  have hts := X.2.2.2.2.2.1
  have k2 := kk _ rfl p e s m args below meth c H locs la X hP hS hl
  refine va_mabs (x := Int32.ofInt a) X.1 X.2.1 (X.2.2.1.trans hl.1.symm) X.2.2.2.2.1 (hts _ (hw _ (by simp))) (hts _ (hw _ (by simp))) (hts _ (hw _ (by simp))) (hts _ (hw _ (by simp))) hR.1 (by show ((st.map (tw_v G)).map _).sum + 13 ≤ _; rw [tw_cat_v hraw]; exact hR.2) hf.1 hf.2 hd ?_
  have e0 : (if 0 ≤ Int32.ofInt a then Int32.ofInt a else 0 - Int32.ofInt a) = Int32.ofInt (if 0 ≤ tw_w32 a then a else -a) := by
    by_cases h : 0 ≤ tw_w32 a
    · rw [if_pos h, if_pos (w32_0le.mpr h)]
    · rw [if_neg h, if_neg (fun q => h (w32_0le.mp q)), Int32.ofInt_neg, Int32.zero_sub]
  rw [e0]
  exact k2
end JC
