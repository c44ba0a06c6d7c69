/-! THE CLAIM OUT OF ONE WALK OF THE LAW'S BODY. Your part is whole_start (and what it stands on); all else here is the same for every law, but numbers. -/
def R_law : String := "TwoOnWallLaw"
def lw_P (b : Addr) (xs : List Int32) (args : Array Value) (s : State) : Prop := args = #[.ref b] ∧ s.IntsAt b xs ∧ xs.length ≤ 2560 ∧ (Jvm.Cond.and given_1 narrow_1).before args s = true
def lw_Q (_ : Array Value) (s : State) (o : Outcome) (t : State) : Prop := o = .returned (some (.int 1)) ∧ Framed s o t [] 600000 7302250
def lw_Z (below : List Frame) (a : Array Value) (s : State) : State → Prop := fun t => ∃ o, t.status = .running ∧ Ended t below o ∧ lw_Q a s o t
/-- the law's own end, with 1 on the stack, nothing written that was there before, its room as the claim has it -/
theorem lw_ret {p : Program} {l : Launch} {e : Env} {s : State} {m : MethodId} {below : List Frame} {meth : Method} {c : Code} {b : Nat} (hx : p.tables.exec = Jvm.exec) (hb : c.code = code) (hr : meth.sig.returnType = ret) (hlocks : meth.locks = false) {pc : Nat} {H : Heap} {ls : Array Slot} (hdg : decode code pc = .ok (.ireturn, 1)) : W p l e room_1 s m #[Value.ref b] below meth c H [] 600000 7302250 (lw_Z below #[Value.ref b] s) (F0 m pc ls [.int 1]) := by
  intro T hT X
  obtain ⟨fs, hret, hrun, hended, hW, hframe⟩ := X.leave (v := some (.int 1)) (hlocks := hlocks) (fun h => by rw [hr] at h; cases h)
  have hmeth' : T.vm.method? m = some meth := X.method'
  refine ⟨T.setFrames fs, ?_, .returned (some (.int 1)), hrun, hended, rfl, ⟨_, rfl⟩, hW, hframe⟩
  jvm_step X.here [X.here.top, hx, hb, hdg, hmeth', hr, ret, narrow_b1]
  (try refine ⟨rfl, ?_⟩); (try refine ⟨rfl, ?_⟩)
  first | (intro acts; rw [hret _ acts rfl rfl rfl]) | rw [hret _ _ rfl rfl rfl]
  exact Steps.refl _
/-- what holds at the law's entry: the machine, the code, the tables' words (any of lw_tbl by 'hts w (by decide +kernel)'), the script of L ints xs at the cell b, what the Statement gives of the start (any of its parts by flat_of_before) -/
def lw_At (p : Program) (s : State) (m : MethodId) (meth : Method) (c : Code) (b L : Nat) (xs : Nat → Int32) : Prop :=
  p.tables.exec = Jvm.exec ∧ c.code = code ∧ meth.sig.returnType = ret ∧ c.maxLocals = 4 ∧ s.vm.findClass R_law = some m.cls ∧ (∀ w ∈ lw_tbl, w.before #[Value.ref b] s = true) ∧ va_X b L xs s s.heap ∧ b < s.heap.size ∧ meth.locks = false ∧ (Jvm.Cond.and given_1 narrow_1).before #[Value.ref b] s = true

theorem cn_L_7 : tw_cn RL 7 11 15 dfX11 := ⟨_, _, tyX11, rfl, in_X11, tyX11_ok, (tw_inc tm_1 (i := 19) rfl rfl), (tw_inc tm_1 (i := 20) rfl rfl), (tw_inc tm_1 (i := 1) rfl rfl), fun G j hj => match j, hj with | 0, _ => rfl | 1, _ => rfl | 2, _ => rfl | 3, _ => rfl | 4, _ => rfl | 5, _ => rfl | 6, _ => rfl | 7, _ => rfl | 8, _ => rfl | 9, _ => rfl | 10, _ => rfl | 11, _ => rfl | 12, _ => rfl | 13, _ => rfl | 14, _ => rfl | j + 15, h => absurd h (by omega)⟩
theorem cn_L_10 : tw_cn RL 10 12 39 dfX12 := ⟨_, _, tyX12, rfl, in_X12, tyX12_ok, (tw_inc tm_5 (i := 230) rfl rfl), (tw_inc tm_5 (i := 231) rfl rfl), (tw_inc tm_1 (i := 13) rfl rfl), fun G j hj => match j, hj with | 0, _ => rfl | 1, _ => rfl | 2, _ => rfl | 3, _ => rfl | 4, _ => rfl | 5, _ => rfl | 6, _ => rfl | 7, _ => rfl | 8, _ => rfl | 9, _ => rfl | 10, _ => rfl | 11, _ => rfl | 12, _ => rfl | 13, _ => rfl | 14, _ => rfl | 15, _ => rfl | 16, _ => rfl | 17, _ => rfl | 18, _ => rfl | 19, _ => rfl | 20, _ => rfl | 21, _ => rfl | 22, _ => rfl | 23, _ => rfl | 24, _ => rfl | 25, _ => rfl | 26, _ => rfl | 27, _ => rfl | 28, _ => rfl | 29, _ => rfl | 30, _ => rfl | 31, _ => rfl | 32, _ => rfl | 33, _ => rfl | 34, _ => rfl | 35, _ => rfl | 36, _ => rfl | 37, _ => rfl | 38, _ => rfl | j + 39, h => absurd h (by omega)⟩
theorem ci_L_9 : tw_cI RL 9 yX11_init cX11_init 2 0 := ⟨List.forall_mem_cons.mpr ⟨(tw_inc tm_1 (i := 21) rfl rfl), List.forall_mem_cons.mpr ⟨(tw_inc tm_1 (i := 22) rfl rfl), List.forall_mem_cons.mpr ⟨(tw_inc tm_1 (i := 1) rfl rfl), List.forall_mem_cons.mpr ⟨(tw_inc tm_1 (i := 23) rfl rfl), fun _ h => absurd h List.not_mem_nil⟩⟩⟩⟩, rfl, by decide +kernel, by decide +kernel, by decide +kernel⟩
theorem ci_L_12 : tw_cI RL 12 yX12_init cX12_init 2 0 := ⟨List.forall_mem_cons.mpr ⟨(tw_inc tm_5 (i := 232) rfl rfl), List.forall_mem_cons.mpr ⟨(tw_inc tm_5 (i := 233) rfl rfl), List.forall_mem_cons.mpr ⟨(tw_inc tm_1 (i := 13) rfl rfl), List.forall_mem_cons.mpr ⟨(tw_inc tm_5 (i := 234) rfl rfl), fun _ h => absurd h List.not_mem_nil⟩⟩⟩⟩, rfl, by decide +kernel, by decide +kernel, by decide +kernel⟩
theorem bF_all {P : Int × Int → Prop} {l : List (Int × Int)} (h : ∀ p ∈ l, P p) (hd : P (-2147483648, 2147483647)) (j : Nat) : P (bF l j) := by
  unfold bF
  rw [List.getD_eq_getElem?_getD]
  cases hx : l[j]? with
  | none => exact hd
  | some p => exact h p (List.mem_of_getElem? hx)
theorem bF_ge {l : List (Int × Int)} {j : Nat} (h : l.length ≤ j) : bF l j = (-2147483648, 2147483647) := by
  unfold bF
  rw [List.getD_eq_getElem?_getD, List.getElem?_eq_none h]
  rfl
theorem bMW_0 (j : Nat) : (bMW j).1 ≤ 0 ∧ 0 ≤ (bMW j).2 := by
  unfold bMW
  split
  · decide
  · split
    · decide
    · split <;> decide
theorem zb (c j : Nat) (h : c ≠ 2 ∧ c ≠ 15 ∧ c ≠ 91) : (tw_b c j).1 ≤ 0 ∧ 0 ≤ (tw_b c j).2 := match c, h with
  | 0, _ => bF_all (P := fun p => p.1 ≤ 0 ∧ 0 ≤ p.2) (by decide) (by decide) j
  | 1, _ => bF_all (P := fun p => p.1 ≤ 0 ∧ 0 ≤ p.2) (by decide) (by decide) j
  | 2, h => absurd rfl h.1
  | 3, _ => show (0 : Int) ≤ 0 ∧ (0 : Int) ≤ 5 from by decide
  | 4, _ => show (0 : Int) ≤ 0 ∧ (0 : Int) ≤ 9 from by decide
  | 5, _ => show (0 : Int) ≤ 0 ∧ (0 : Int) ≤ 10 from by decide
  | 6, _ => show (0 : Int) ≤ 0 ∧ (0 : Int) ≤ 1 from by decide
  | 7, _ => show (0 : Int) ≤ 0 ∧ (0 : Int) ≤ 1 from by decide
  | 8, _ => show (0 : Int) ≤ 0 ∧ (0 : Int) ≤ 9 from by decide
  | 9, _ => show (0 : Int) ≤ 0 ∧ (0 : Int) ≤ 40 from by decide
  | 10, _ => bF_all (P := fun p => p.1 ≤ 0 ∧ 0 ≤ p.2) (by decide) (by decide) j
  | 11, _ => show (-128 : Int) ≤ 0 ∧ (0 : Int) ≤ 127 from by decide
  | 12, _ => show (0 : Int) ≤ 0 ∧ (0 : Int) ≤ 1 from by decide
  | 13, _ => show (0 : Int) ≤ 0 ∧ (0 : Int) ≤ 1 from by decide
  | 14, _ => bF_all (P := fun p => p.1 ≤ 0 ∧ 0 ≤ p.2) (by decide) (by decide) j
  | 15, h => absurd rfl h.2.1
  | 16, _ => show (0 : Int) ≤ 0 ∧ (0 : Int) ≤ 5 from by decide
  | 17, _ => show (0 : Int) ≤ 0 ∧ (0 : Int) ≤ 9 from by decide
  | 18, _ => show (0 : Int) ≤ 0 ∧ (0 : Int) ≤ 10 from by decide
  | 19, _ => show (0 : Int) ≤ 0 ∧ (0 : Int) ≤ 1 from by decide
  | 20, _ => show (0 : Int) ≤ 0 ∧ (0 : Int) ≤ 1 from by decide
  | 21, _ => show (0 : Int) ≤ 0 ∧ (0 : Int) ≤ 9 from by decide
  | 22, _ => show (0 : Int) ≤ 0 ∧ (0 : Int) ≤ 40 from by decide
  | 23, _ => bF_all (P := fun p => p.1 ≤ 0 ∧ 0 ≤ p.2) (by decide) (by decide) j
  | 24, _ => bF_all (P := fun p => p.1 ≤ 0 ∧ 0 ≤ p.2) (by decide) (by decide) j
  | 25, _ => show (0 : Int) ≤ 0 ∧ (0 : Int) ≤ 40 from by decide
  | 26, _ => show (0 : Int) ≤ 0 ∧ (0 : Int) ≤ 10 from by decide
  | 27, _ => show (0 : Int) ≤ 0 ∧ (0 : Int) ≤ 1 from by decide
  | 28, _ => show (-2147483648 : Int) ≤ 0 ∧ (0 : Int) ≤ 2147483647 from by decide
  | 29, _ => show (0 : Int) ≤ 0 ∧ (0 : Int) ≤ 999 from by decide
  | 30, _ => show (-2147483648 : Int) ≤ 0 ∧ (0 : Int) ≤ 2147483647 from by decide
  | 31, _ => bF_all (P := fun p => p.1 ≤ 0 ∧ 0 ≤ p.2) (by decide) (by decide) j
  | 32, _ => bF_all (P := fun p => p.1 ≤ 0 ∧ 0 ≤ p.2) (by decide) (by decide) j
  | 33, _ => show (0 : Int) ≤ 0 ∧ (0 : Int) ≤ 40 from by decide
  | 34, _ => show (0 : Int) ≤ 0 ∧ (0 : Int) ≤ 10 from by decide
  | 35, _ => show (0 : Int) ≤ 0 ∧ (0 : Int) ≤ 1 from by decide
  | 36, _ => show (-2147483648 : Int) ≤ 0 ∧ (0 : Int) ≤ 2147483647 from by decide
  | 37, _ => show (0 : Int) ≤ 0 ∧ (0 : Int) ≤ 999 from by decide
  | 38, _ => show (-2147483648 : Int) ≤ 0 ∧ (0 : Int) ≤ 2147483647 from by decide
  | 39, _ => bF_all (P := fun p => p.1 ≤ 0 ∧ 0 ≤ p.2) (by decide) (by decide) j
  | 40, _ => bF_all (P := fun p => p.1 ≤ 0 ∧ 0 ≤ p.2) (by decide) (by decide) j
  | 41, _ => show (0 : Int) ≤ 0 ∧ (0 : Int) ≤ 40 from by decide
  | 42, _ => show (0 : Int) ≤ 0 ∧ (0 : Int) ≤ 10 from by decide
  | 43, _ => show (0 : Int) ≤ 0 ∧ (0 : Int) ≤ 1 from by decide
  | 44, _ => show (-2147483648 : Int) ≤ 0 ∧ (0 : Int) ≤ 2147483647 from by decide
  | 45, _ => show (0 : Int) ≤ 0 ∧ (0 : Int) ≤ 999 from by decide
  | 46, _ => show (-2147483648 : Int) ≤ 0 ∧ (0 : Int) ≤ 2147483647 from by decide
  | 47, _ => bF_all (P := fun p => p.1 ≤ 0 ∧ 0 ≤ p.2) (by decide) (by decide) j
  | 48, _ => bF_all (P := fun p => p.1 ≤ 0 ∧ 0 ≤ p.2) (by decide) (by decide) j
  | 49, _ => show (0 : Int) ≤ 0 ∧ (0 : Int) ≤ 40 from by decide
  | 50, _ => show (0 : Int) ≤ 0 ∧ (0 : Int) ≤ 10 from by decide
  | 51, _ => show (0 : Int) ≤ 0 ∧ (0 : Int) ≤ 1 from by decide
  | 52, _ => show (-2147483648 : Int) ≤ 0 ∧ (0 : Int) ≤ 2147483647 from by decide
  | 53, _ => show (0 : Int) ≤ 0 ∧ (0 : Int) ≤ 999 from by decide
  | 54, _ => show (-2147483648 : Int) ≤ 0 ∧ (0 : Int) ≤ 2147483647 from by decide
  | 55, _ => bF_all (P := fun p => p.1 ≤ 0 ∧ 0 ≤ p.2) (by decide) (by decide) j
  | 56, _ => bF_all (P := fun p => p.1 ≤ 0 ∧ 0 ≤ p.2) (by decide) (by decide) j
  | 57, _ => bF_all (P := fun p => p.1 ≤ 0 ∧ 0 ≤ p.2) (by decide) (by decide) j
  | 58, _ => bF_all (P := fun p => p.1 ≤ 0 ∧ 0 ≤ p.2) (by decide) (by decide) j
  | 59, _ => bF_all (P := fun p => p.1 ≤ 0 ∧ 0 ≤ p.2) (by decide) (by decide) j
  | 60, _ => bF_all (P := fun p => p.1 ≤ 0 ∧ 0 ≤ p.2) (by decide) (by decide) j
  | 61, _ => bF_all (P := fun p => p.1 ≤ 0 ∧ 0 ≤ p.2) (by decide) (by decide) j
  | 62, _ => show (0 : Int) ≤ 0 ∧ (0 : Int) ≤ 40 from by decide
  | 63, _ => show (0 : Int) ≤ 0 ∧ (0 : Int) ≤ 10 from by decide
  | 64, _ => show (0 : Int) ≤ 0 ∧ (0 : Int) ≤ 1 from by decide
  | 65, _ => show (-2147483648 : Int) ≤ 0 ∧ (0 : Int) ≤ 2147483647 from by decide
  | 66, _ => show (0 : Int) ≤ 0 ∧ (0 : Int) ≤ 40 from by decide
  | 67, _ => bF_all (P := fun p => p.1 ≤ 0 ∧ 0 ≤ p.2) (by decide) (by decide) j
  | 68, _ => show (0 : Int) ≤ 0 ∧ (0 : Int) ≤ 40 from by decide
  | 69, _ => show (0 : Int) ≤ 0 ∧ (0 : Int) ≤ 10 from by decide
  | 70, _ => show (0 : Int) ≤ 0 ∧ (0 : Int) ≤ 1 from by decide
  | 71, _ => bF_all (P := fun p => p.1 ≤ 0 ∧ 0 ≤ p.2) (by decide) (by decide) j
  | 72, _ => show (-1 : Int) ≤ 0 ∧ (0 : Int) ≤ 40 from by decide
  | 73, _ => show (-2147483648 : Int) ≤ 0 ∧ (0 : Int) ≤ 2147483647 from by decide
  | 74, _ => show (0 : Int) ≤ 0 ∧ (0 : Int) ≤ 40 from by decide
  | 75, _ => show (-2147483648 : Int) ≤ 0 ∧ (0 : Int) ≤ 2147483647 from by decide
  | 76, _ => bF_all (P := fun p => p.1 ≤ 0 ∧ 0 ≤ p.2) (by decide) (by decide) j
  | 77, _ => show (0 : Int) ≤ 0 ∧ (0 : Int) ≤ 99 from by decide
  | 78, _ => show (0 : Int) ≤ 0 ∧ (0 : Int) ≤ 40 from by decide
  | 79, _ => show (-2147483648 : Int) ≤ 0 ∧ (0 : Int) ≤ 2147483647 from by decide
  | 80, _ => bF_all (P := fun p => p.1 ≤ 0 ∧ 0 ≤ p.2) (by decide) (by decide) j
  | 81, _ => show (-2147483648 : Int) ≤ 0 ∧ (0 : Int) ≤ 2147483647 from by decide
  | 82, _ => bF_all (P := fun p => p.1 ≤ 0 ∧ 0 ≤ p.2) (by decide) (by decide) j
  | 83, _ => show (-2147483648 : Int) ≤ 0 ∧ (0 : Int) ≤ 2147483647 from by decide
  | 84, _ => bF_all (P := fun p => p.1 ≤ 0 ∧ 0 ≤ p.2) (by decide) (by decide) j
  | 85, _ => show (-2147483648 : Int) ≤ 0 ∧ (0 : Int) ≤ 2147483647 from by decide
  | 86, _ => bF_all (P := fun p => p.1 ≤ 0 ∧ 0 ≤ p.2) (by decide) (by decide) j
  | 87, _ => show (-2147483648 : Int) ≤ 0 ∧ (0 : Int) ≤ 2147483647 from by decide
  | 88, _ => bF_all (P := fun p => p.1 ≤ 0 ∧ 0 ≤ p.2) (by decide) (by decide) j
  | 89, _ => st_w0
  | 90, _ => show (0 : Int) ≤ 0 ∧ (0 : Int) ≤ 1 from by decide
  | 91, h => absurd rfl h.2.2
  | 92, _ => bMW_0 j
  | 93, _ => show (-2147483648 : Int) ≤ 0 ∧ (0 : Int) ≤ 2147483647 from by decide
  | 94, _ => show (-2147483648 : Int) ≤ 0 ∧ (0 : Int) ≤ 2147483647 from by decide
  | 95, _ => show (-2147483648 : Int) ≤ 0 ∧ (0 : Int) ≤ 2147483647 from by decide
  | 96, _ => show (0 : Int) ≤ 0 ∧ (0 : Int) ≤ 1 from by decide
  | 97, _ => show (0 : Int) ≤ 0 ∧ (0 : Int) ≤ 1 from by decide
  | 98, _ => show (-2147483648 : Int) ≤ 0 ∧ (0 : Int) ≤ 2147483647 from by decide
  | 99, _ => show (-4 : Int) ≤ 0 ∧ (0 : Int) ≤ 40 from by decide
  | 100, _ => show (0 : Int) ≤ 0 ∧ (0 : Int) ≤ 40 from by decide
  | 101, _ => show (-2147483648 : Int) ≤ 0 ∧ (0 : Int) ≤ 2147483647 from by decide
  | 102, _ => show (-2147483648 : Int) ≤ 0 ∧ (0 : Int) ≤ 2147483647 from by decide
  | 103, _ => show (0 : Int) ≤ 0 ∧ (0 : Int) ≤ 40 from by decide
  | 104, _ => show (-4 : Int) ≤ 0 ∧ (0 : Int) ≤ 2 from by decide
  | 105, _ => show (0 : Int) ≤ 0 ∧ (0 : Int) ≤ 40 from by decide
  | 106, _ => show (-2147483648 : Int) ≤ 0 ∧ (0 : Int) ≤ 2147483647 from by decide
  | c + 107, _ => show (-2147483648 : Int) ≤ 0 ∧ (0 : Int) ≤ 2147483647 from by decide
theorem zD (c j : Nat) (h : c = 55 ∨ c = 57 ∨ c = 58 ∨ c = 59) : (tw_b c j).1 ≤ -2147483648 ∧ 2147483647 ≤ (tw_b c j).2 := by
  rcases h with rfl | rfl | rfl | rfl
  · exact bF_all (P := fun p => p.1 ≤ -2147483648 ∧ 2147483647 ≤ p.2) (by decide) (by decide) j
  · exact bF_all (P := fun p => p.1 ≤ -2147483648 ∧ 2147483647 ≤ p.2) (by decide) (by decide) j
  · exact bF_all (P := fun p => p.1 ≤ -2147483648 ∧ 2147483647 ≤ p.2) (by decide) (by decide) j
  · exact bF_all (P := fun p => p.1 ≤ -2147483648 ∧ 2147483647 ≤ p.2) (by decide) (by decide) j
theorem ini_in (c j : Nat) (h : (c ≠ 2 ∧ c ≠ 15 ∧ c ≠ 91) ∨ 9 ≤ j) : (tw_b c j).1 ≤ tw_ini c j ∧ tw_ini c j ≤ (tw_b c j).2 := by
  by_cases h5 : c = 55 ∨ c = 57 ∨ c = 58 ∨ c = 59
  · have h1 := zD c j h5
    have h2 : -4 ≤ tw_ini c j ∧ tw_ini c j ≤ 1 := by
      unfold tw_ini
      split
      · decide
      · split <;> decide
    omega
  · rw [tw_ini0 (by omega)]
    by_cases h9 : c ≠ 2 ∧ c ≠ 15 ∧ c ≠ 91
    · exact zb c j h9
    · have hj : 9 ≤ j := by omega
      rcases (show c = 2 ∨ c = 15 ∨ c = 91 by omega) with rfl | rfl | rfl
      · rw [show tw_b 2 j = (-2147483648, 2147483647) from bF_ge hj]; decide
      · rw [show tw_b 15 j = (-2147483648, 2147483647) from bF_ge hj]; decide
      · rw [show tw_b 91 j = (-2147483648, 2147483647) from bF_ge hj]; decide
def m0 : tw_M := fun c j => if c = 91 then (tw_first.getD j 0).toInt else tw_ini c j
theorem m0_I0 : tw_I0 m0 := by
  intro c j h
  by_cases hc : c = 91
  · subst hc
    have hj : 9 ≤ j := by omega
    have e : m0 91 j = 0 := by
      show (if 91 = 91 then (tw_first.getD j 0).toInt else tw_ini 91 j) = 0
      rw [if_pos rfl, List.getD_eq_getElem?_getD, List.getElem?_eq_none (by simpa [tw_first] using hj)]
      rfl
    rw [e, show tw_b 91 j = (-2147483648, 2147483647) from bF_ge hj]
    decide
  · have e : m0 c j = tw_ini c j := if_neg hc
    rw [e]
    exact ini_in c j h
theorem m0_91 : Wb 91 91 m0 9 := by
  have h : ∀ j, j < 9 → (bF tw_RBM j).1 ≤ (tw_first.getD j 0).toInt ∧ (tw_first.getD j 0).toInt ≤ (bF tw_RBM j).2 := by decide +kernel
  intro j hj
  have e : m0 91 j = (tw_first.getD j 0).toInt := if_pos rfl
  rw [e]
  exact h j (by omega)
def m1 (τ : tw_M) : tw_M := fun c j => if c < 88 then τ c j else tw_ini c j
theorem m1_I0 {τ : tw_M} (h : tw_I τ) : tw_I0 (m1 τ) := by
  intro c j hc
  by_cases h8 : c < 88
  · rw [show m1 τ c j = τ c j from if_pos h8]
    exact h c j
  · rw [show m1 τ c j = tw_ini c j from if_neg h8]
    exact ini_in c j hc
section LJ
variable {G : tw_G} {M : tw_T} {E : List Frame → Array Value → State → State → Prop} {pc : Nat} {ls : List (Nat × tw_V)} {st : List tw_V} {σ : tw_M} {ρ : tw_R} {n ss : Nat}
theorem l_cg {σ' : tw_M} (h : ∀ k, k < n → ∀ j, σ' k j = σ k j) (k : tw_L G M E pc ls st σ' ρ n ss) : tw_L G M E pc ls st σ ρ n ss := by
  intro p e s m args below meth c H locs la Y hP hS hl
  exact k p e s m args below meth c H locs la Y (by rw [tw_y_cg h]; exact hP) hS hl
theorem l_toJ (hk : gks G = List.range 107) (h0 : mC M = 0) (k : tw_J G (mo M, mb M, mL M, mret M, mR M, 107, ss) E pc ls st σ) : tw_L G M E pc ls st σ (fun _ => none) 107 ss := by
  intro p e s m args below meth c H locs la Y hP hS hl
  have hsz := Y.2.2.2.2.2.2.2.2.2.2.1
  have hsq := Y.2.2.2.2.2.2.2.2.1
  rw [h0] at hsz
  have hAA : ∀ q, tw_A G q → tw_AA G q := by
    rintro q ⟨i, hi, rfl⟩
    rw [hk] at hi
    have h1 := hsq i (List.mem_range.mp hi)
    show gad G 0 ≤ gad G i
    omega
  have hok : tw_ok G := by
    refine ⟨by rw [hk]; exact List.nodup_range, fun i hi j hj e9 => ?_⟩
    rw [hk] at hi hj
    have h1 := hsq i (List.mem_range.mp hi)
    have h2 := hsq j (List.mem_range.mp hj)
    omega
  have hw : tw_w G σ = tw_y G σ (fun _ => none) 107 := by
    unfold tw_w tw_y
    rw [hk]
    rfl
  refine va_forget (fun q hq => by have h1 : gad G 0 ≤ q.base := hS.2.2 q hq; omega) ?_
  have kk := k p e s m args below meth c H [] la ⟨Y.1, Y.2.1, Y.2.2.1, Y.2.2.2.1, Y.2.2.2.2.1, Y.2.2.2.2.2.1, Y.2.2.2.2.2.2.1, Y.2.2.2.2.2.2.2.1, hok, Y.2.2.2.2.2.2.2.2.2.1.narrow hAA, fun _ q hq => by have h1 : gad G 0 ≤ q := hAA q hq; omega⟩ (by rw [hw]; exact hP) ⟨hS.1, fun q h1 h2 => hS.2.1 q h1 (fun z => by have z1 : gad G 0 ≤ q := z; omega), fun _ h => absurd h List.not_mem_nil⟩ hl
  rw [h0]
  exact kk
end LJ
/-- the law's end -/
theorem w_end {G : tw_G} {pc : Nat} {ls : List (Nat × tw_V)} {σ : tw_M} (hdg : decode code pc = .ok (.ireturn, 1)) : tw_J G tw_ML (fun below args s => lw_Z below args s) pc ls [vI 1] σ := by
  intro p e s m args below meth c H locs la X0 hP hS hl
  have hA := X0.2.2.2.2.2.2.2.2.2.2 (by decide)
  refine va_forget (fun q hq => hA _ (hS.2.2 q hq)) ?_
  refine W.widen (k := 600000) (n := 7302250) (Nat.le_of_ble_eq_true rfl) (Nat.le_of_ble_eq_true rfl) ?_
  have hx : p.tables.exec = Jvm.exec := X0.1
  have hb : c.code = code := X0.2.1
  have hr : meth.sig.returnType = ret := X0.2.2.2.1
  have hlocks : meth.locks = false := X0.2.2.2.2.2.2.1
  intro T hT X
  obtain ⟨fs, hret, hrun, hended, hW, hframe⟩ := X.leave (v := some (.int 1)) (hlocks := hlocks) (fun h => by rw [hr] at h; cases h)
  have hmeth' : T.vm.method? m = some meth := X.method'
  refine ⟨T.setFrames fs, ?_, .returned (some (.int 1)), hrun, hended, rfl, ⟨_, rfl⟩, hW, hframe⟩
  show Steps _ _ _ (T.setTop (F0 m pc la [.int 1])) _
  jvm_step X.here [X.here.top, hx, hb, hdg, hmeth', hr, ret, narrow_b1]
  (try refine ⟨rfl, ?_⟩); (try refine ⟨rfl, ?_⟩)
  first | (intro acts; rw [hret _ acts rfl rfl rfl]) | rw [hret _ _ rfl rfl rfl]
  exact Steps.refl _
theorem w_FIRST {args : Array Value} {s : State} {A : Nat → Prop} (hts : ∀ w ∈ lw_tbl, w.before args s = true) (hs : ∀ w ∈ flatC (Jvm.Cond.and given_1 narrow_1), w.before args s = true) (hA : ∀ a : Nat, a < s.heap.size → ¬ A a) : ∃ t : Nat, va_Z RX10 "FIRST" "[I" (.ref t) A s s.heap ∧ va_T .int t 9 (fun j => .int (tw_first.getD j 0)) A s s.heap := by
  have hm : ∀ j, j < 9 → Cond.eq (.elem (.static RX10 "FIRST" "[I") (.int (Int32.ofNat j))) (.int (tw_first.getD j 0)) ∈ flatC (Jvm.Cond.and given_1 narrow_1) := by decide +kernel
  obtain ⟨t, h1, h2⟩ := va_Tof (tm := .static RX10 "FIRST" "[I") (ty := .int) (N := 9) (f := fun j => .int (tw_first.getD j 0)) (A := A) (by decide) (hs _ (by decide +kernel)) (va_eqt (z := Int32.ofNat 9) (hs _ (by decide +kernel))) (fun j hj => va_eqt (hs _ (hm j hj))) hA
  exact ⟨t, va_Zref (hts _ (List.mem_of_getElem? (i := 135) (by decide +kernel))) (hts _ (List.mem_of_getElem? (i := 99) (by decide +kernel))) h1 hA, h2⟩
theorem w_LEAST {args : Array Value} {s : State} {A : Nat → Prop} (hts : ∀ w ∈ lw_tbl, w.before args s = true) (hs : ∀ w ∈ flatC (Jvm.Cond.and given_1 narrow_1), w.before args s = true) (hA : ∀ a : Nat, a < s.heap.size → ¬ A a) : ∃ t : Nat, va_Z RX9 "LEAST" "[I" (.ref t) A s s.heap ∧ va_T .int t 9 (fun j => .int (tw_least.getD j 0)) A s s.heap := by
  have hm : ∀ j, j < 9 → Cond.eq (.elem (.static RX9 "LEAST" "[I") (.int (Int32.ofNat j))) (.int (tw_least.getD j 0)) ∈ flatC (Jvm.Cond.and given_1 narrow_1) := by decide +kernel
  obtain ⟨t, h1, h2⟩ := va_Tof (tm := .static RX9 "LEAST" "[I") (ty := .int) (N := 9) (f := fun j => .int (tw_least.getD j 0)) (A := A) (by decide) (hs _ (by decide +kernel)) (va_eqt (z := Int32.ofNat 9) (hs _ (by decide +kernel))) (fun j hj => va_eqt (hs _ (hm j hj))) hA
  exact ⟨t, va_Zref (hts _ (List.mem_of_getElem? (i := 754) (by decide +kernel))) (hts _ (List.mem_of_getElem? (i := 100) (by decide +kernel))) h1 hA, h2⟩
theorem w_MOST {args : Array Value} {s : State} {A : Nat → Prop} (hts : ∀ w ∈ lw_tbl, w.before args s = true) (hs : ∀ w ∈ flatC (Jvm.Cond.and given_1 narrow_1), w.before args s = true) (hA : ∀ a : Nat, a < s.heap.size → ¬ A a) : ∃ t : Nat, va_Z RX9 "MOST" "[I" (.ref t) A s s.heap ∧ va_T .int t 9 (fun j => .int (tw_most.getD j 0)) A s s.heap := by
  have hm : ∀ j, j < 9 → Cond.eq (.elem (.static RX9 "MOST" "[I") (.int (Int32.ofNat j))) (.int (tw_most.getD j 0)) ∈ flatC (Jvm.Cond.and given_1 narrow_1) := by decide +kernel
  obtain ⟨t, h1, h2⟩ := va_Tof (tm := .static RX9 "MOST" "[I") (ty := .int) (N := 9) (f := fun j => .int (tw_most.getD j 0)) (A := A) (by decide) (hs _ (by decide +kernel)) (va_eqt (z := Int32.ofNat 9) (hs _ (by decide +kernel))) (fun j hj => va_eqt (hs _ (hm j hj))) hA
  exact ⟨t, va_Zref (hts _ (List.mem_of_getElem? (i := 756) (by decide +kernel))) (hts _ (List.mem_of_getElem? (i := 100) (by decide +kernel))) h1 hA, h2⟩
def w_tm (i : Nat) : Term := .string RX9 ((tw_lit.map (fun q => q.1)).getD i 0)
abbrev w_len : List Nat := tw_lit.map (fun q => q.2.2.length)
abbrev w_byt : List (List Int32) := tw_lit.map (fun q => q.2.2)
def w_prs0 : List (Nat × Nat × Nat) := [(0, 1, 59), (0, 2, 67), (1, 2, 68), (0, 3, 81), (1, 3, 82), (2, 3, 83), (0, 4, 93), (1, 4, 94), (2, 4, 95), (3, 4, 96), (0, 5, 105), (1, 5, 106), (2, 5, 107)]
theorem w_pr0 : ∀ q ∈ w_prs0, (flatC (Jvm.Cond.and given_1 narrow_1))[q.2.2]? = some (Cond.not (Cond.eq (w_tm q.1) (w_tm q.2.1))) := by decide +kernel
def w_prs1 : List (Nat × Nat × Nat) := [(3, 5, 108), (4, 5, 109), (0, 6, 118), (1, 6, 119), (2, 6, 120), (3, 6, 121), (4, 6, 122), (5, 6, 123), (0, 7, 132), (1, 7, 133), (2, 7, 134), (3, 7, 135), (4, 7, 136)]
theorem w_pr1 : ∀ q ∈ w_prs1, (flatC (Jvm.Cond.and given_1 narrow_1))[q.2.2]? = some (Cond.not (Cond.eq (w_tm q.1) (w_tm q.2.1))) := by decide +kernel
def w_prs2 : List (Nat × Nat × Nat) := [(5, 7, 137), (6, 7, 138), (0, 8, 148), (1, 8, 149), (2, 8, 150), (3, 8, 151), (4, 8, 152), (5, 8, 153), (6, 8, 154), (7, 8, 155), (0, 9, 163), (1, 9, 164), (2, 9, 165)]
theorem w_pr2 : ∀ q ∈ w_prs2, (flatC (Jvm.Cond.and given_1 narrow_1))[q.2.2]? = some (Cond.not (Cond.eq (w_tm q.1) (w_tm q.2.1))) := by decide +kernel
def w_prs3 : List (Nat × Nat × Nat) := [(3, 9, 166), (4, 9, 167), (5, 9, 168), (6, 9, 169), (7, 9, 170), (8, 9, 171), (0, 10, 181), (1, 10, 182), (2, 10, 183), (3, 10, 184), (4, 10, 185), (5, 10, 186), (6, 10, 187)]
theorem w_pr3 : ∀ q ∈ w_prs3, (flatC (Jvm.Cond.and given_1 narrow_1))[q.2.2]? = some (Cond.not (Cond.eq (w_tm q.1) (w_tm q.2.1))) := by decide +kernel
def w_prs4 : List (Nat × Nat × Nat) := [(7, 10, 188), (8, 10, 189), (9, 10, 190), (0, 11, 200), (1, 11, 201), (2, 11, 202), (3, 11, 203), (4, 11, 204), (5, 11, 205), (6, 11, 206), (7, 11, 207), (8, 11, 208), (9, 11, 209)]
theorem w_pr4 : ∀ q ∈ w_prs4, (flatC (Jvm.Cond.and given_1 narrow_1))[q.2.2]? = some (Cond.not (Cond.eq (w_tm q.1) (w_tm q.2.1))) := by decide +kernel
def w_prs5 : List (Nat × Nat × Nat) := [(10, 11, 210), (0, 12, 219), (1, 12, 220), (2, 12, 221), (3, 12, 222), (4, 12, 223), (5, 12, 224), (6, 12, 225), (7, 12, 226), (8, 12, 227), (9, 12, 228), (10, 12, 229), (11, 12, 230)]
theorem w_pr5 : ∀ q ∈ w_prs5, (flatC (Jvm.Cond.and given_1 narrow_1))[q.2.2]? = some (Cond.not (Cond.eq (w_tm q.1) (w_tm q.2.1))) := by decide +kernel
def w_prs6 : List (Nat × Nat × Nat) := [(0, 13, 239), (1, 13, 240), (2, 13, 241), (3, 13, 242), (4, 13, 243), (5, 13, 244), (6, 13, 245), (7, 13, 246), (8, 13, 247), (9, 13, 248), (10, 13, 249), (11, 13, 250), (12, 13, 251)]
theorem w_pr6 : ∀ q ∈ w_prs6, (flatC (Jvm.Cond.and given_1 narrow_1))[q.2.2]? = some (Cond.not (Cond.eq (w_tm q.1) (w_tm q.2.1))) := by decide +kernel
def w_prs : List (Nat × Nat × Nat) := w_prs0 ++ w_prs1 ++ w_prs2 ++ w_prs3 ++ w_prs4 ++ w_prs5 ++ w_prs6
theorem w_prs_in : ∀ q ∈ w_prs, Cond.not (Cond.eq (w_tm q.1) (w_tm q.2.1)) ∈ flatC (Jvm.Cond.and given_1 narrow_1) := by
  intro q hq
  unfold w_prs at hq
  simp only [List.mem_append] at hq
  rcases hq with (((((h | h) | h) | h) | h) | h) | h
  · exact List.mem_of_getElem? (w_pr0 q h)
  · exact List.mem_of_getElem? (w_pr1 q h)
  · exact List.mem_of_getElem? (w_pr2 q h)
  · exact List.mem_of_getElem? (w_pr3 q h)
  · exact List.mem_of_getElem? (w_pr4 q h)
  · exact List.mem_of_getElem? (w_pr5 q h)
  · exact List.mem_of_getElem? (w_pr6 q h)
theorem w_prs_all : ∀ i, i < 14 → ∀ j, j < 14 → i ≠ j → ∃ q ∈ w_prs, (q.1 = i ∧ q.2.1 = j) ∨ (q.1 = j ∧ q.2.1 = i) := by decide +kernel
theorem w_strs {args : Array Value} {s : State} {A : Nat → Prop} (hs : ∀ w ∈ flatC (Jvm.Cond.and given_1 narrow_1), w.before args s = true) (hA : ∀ a : Nat, a < s.heap.size → ¬ A a) : ∃ adK adV : Nat → Nat, vk_S 14 w_len w_byt adK adV A s s.heap ∧ ∀ i : Nat, i < 14 → (w_tm i).eval args s none [] s = some (.ref (adK i)) := by
  have h1 : ∀ i, i < 14 → Cond.exactly (w_tm i) "java/lang/String" ∈ flatC (Jvm.Cond.and given_1 narrow_1) := by decide +kernel
  have h2 : ∀ i, i < 14 → Cond.eq (.field (w_tm i) "java/lang/String" "coder" "B") (.int 0) ∈ flatC (Jvm.Cond.and given_1 narrow_1) := by decide +kernel
  have h3 : ∀ i, i < 14 → Cond.arrayOf (.field (w_tm i) "java/lang/String" "value" "[B") .byte ∈ flatC (Jvm.Cond.and given_1 narrow_1) := by decide +kernel
  have h4 : ∀ i, i < 14 → Cond.eq (.length (.field (w_tm i) "java/lang/String" "value" "[B")) (.int (Int32.ofNat (w_len.getD i 0))) ∈ flatC (Jvm.Cond.and given_1 narrow_1) := by decide +kernel
  have h5 : ∀ i, i < 14 → ∀ j, j < w_len.getD i 0 → Cond.eq (.elem (.field (w_tm i) "java/lang/String" "value" "[B") (.int (Int32.ofNat j))) (.int ((w_byt.getD i []).getD j 0)) ∈ flatC (Jvm.Cond.and given_1 narrow_1) := by decide +kernel
  exact vk_Sof (N := 14) (tm := w_tm) (len := w_len) (byt := w_byt) (by decide) (fun i hi => hs _ (h1 i hi)) (fun i hi => hs _ (h2 i hi)) (fun i hi => hs _ (h3 i hi)) (fun i hi => hs _ (h4 i hi)) (fun i hi j hj => hs _ (h5 i hi j hj))
    (fun i j hi hj hij => by
      obtain ⟨q, hq, h | h⟩ := w_prs_all i hi j hj hij
      · exact Or.inl (by have h9 := hs _ (w_prs_in q hq); rw [h.1, h.2] at h9; exact h9)
      · exact Or.inr (by have h9 := hs _ (w_prs_in q hq); rw [h.1, h.2] at h9; exact h9)) hA
theorem vk_S_cg {N : Nat} {len : List Nat} {byt : List (List Int32)} {adK adV adK' adV' : Nat → Nat} {A : Nat → Prop} {U : State} {H : Heap} (h : vk_S N len byt adK adV A U H) (h1 : ∀ i, i < N → adK' i = adK i) (h2 : ∀ i, i < N → adV' i = adV i) : vk_S N len byt adK' adV' A U H :=
  ⟨fun i hi => by rw [h1 i hi, h2 i hi]; exact h.1 i hi, fun i j hi hj e => h.2 i j hi hj (by rw [← h1 i hi, ← h1 j hj]; exact e)⟩
theorem w_refs {args : Array Value} {s : State} (hts : ∀ w ∈ lw_tbl, w.before args s = true) {ad : Nat → Nat} (h : ∀ i : Nat, i < 14 → (w_tm i).eval args s none [] s = some (.ref (ad i))) : ∀ (i : Nat) (q : Nat × String × List Int32), tw_lit[i]? = some q → vk_R RX9 q.1 q.2.1 (ad i) s := by
  have hm : ∀ q ∈ tw_lit, Cond.stringRef RX9 q.1 q.2.1 ∈ lw_tbl := by decide +kernel
  intro i q hq
  have hi : i < 14 := (List.getElem?_eq_some_iff.mp hq).1
  have e : w_tm i = .string RX9 q.1 := by
    unfold w_tm
    rw [List.getD_eq_getElem?_getD, List.getElem?_map, hq]
    rfl
  exact vk_R.of (hts _ (hm q (List.mem_of_getElem? hq))) (by rw [← e]; exact h i hi)
theorem w_cls {args : Array Value} {s : State} (htw : ∀ w ∈ tw_ws, w.before args s = true) : ∃ (dC : Nat → ClassId) (dI : Nat → Nat → Nat), ∀ (c : Nat) (q : vw_C), tw_cl[c]? = some q → u_Kn s q.1 q.2.1 q.2.2 (dC c) (dI c) := by
  have h0 : ∀ k : Nat, ∃ z : ClassId × (Nat → Nat), ∀ q : vw_C, tw_cl[k]? = some q → u_Kn s q.1 q.2.1 q.2.2 z.1 z.2 := by
    intro k
    match k with
    | 0 =>
      obtain ⟨cC, iS, h⟩ := u_known (C := RX0) (T := TX0) (N := 6) (n := 6) htw in_X0 (htw _ (tw_inc tm_2 (i := 159) rfl rfl))
      exact ⟨(cC, iS), fun q hq => by cases hq; exact h⟩
    | 1 =>
      obtain ⟨cC, iS, h⟩ := u_known (C := RX1) (T := TX1) (N := 4) (n := 4) htw in_X1 (htw _ (tw_inc tm_2 (i := 47) rfl rfl))
      exact ⟨(cC, iS), fun q hq => by cases hq; exact h⟩
    | 2 =>
      obtain ⟨cC, iS, h⟩ := u_known (C := RX2) (T := TX2) (N := 6) (n := 6) htw in_X2 (htw _ (tw_inc tm_1 (i := 221) rfl rfl))
      exact ⟨(cC, iS), fun q hq => by cases hq; exact h⟩
    | 3 =>
      obtain ⟨cC, iS, h⟩ := u_known (C := RX3) (T := TX3) (N := 7) (n := 7) htw in_X3 (htw _ (tw_inc tm_1 (i := 150) rfl rfl))
      exact ⟨(cC, iS), fun q hq => by cases hq; exact h⟩
    | 4 =>
      obtain ⟨cC, iS, h⟩ := u_known (C := RX4) (T := TX4) (N := 6) (n := 6) htw in_X4 (htw _ (tw_inc tm_2 (i := 14) rfl rfl))
      exact ⟨(cC, iS), fun q hq => by cases hq; exact h⟩
    | 5 =>
      obtain ⟨cC, iS, h⟩ := u_known (C := RX5) (T := TX5) (N := 14) (n := 14) htw in_X5 (htw _ (tw_inc tm_2 (i := 68) rfl rfl))
      exact ⟨(cC, iS), fun q hq => by cases hq; exact h⟩
    | 6 =>
      obtain ⟨cC, iS, h⟩ := u_known (C := RX6) (T := TX6) (N := 8) (n := 8) htw in_X6 (htw _ (tw_inc tm_2 (i := 124) rfl rfl))
      exact ⟨(cC, iS), fun q hq => by cases hq; exact h⟩
    | 7 =>
      obtain ⟨cC, iS, h⟩ := u_known (C := RX7) (T := TX7) (N := 4) (n := 4) htw in_X7 (htw _ (tw_inc tm_1 (i := 156) rfl rfl))
      exact ⟨(cC, iS), fun q hq => by cases hq; exact h⟩
    | 8 =>
      obtain ⟨cC, iS, h⟩ := u_known (C := RX8) (T := TX8) (N := 4) (n := 4) htw in_X8 (htw _ (tw_inc tm_2 (i := 188) rfl rfl))
      exact ⟨(cC, iS), fun q hq => by cases hq; exact h⟩
    | 9 =>
      obtain ⟨cC, iS, h⟩ := u_known (C := RX9) (T := TX9) (N := 14) (n := 14) htw in_X9 (htw _ (tw_inc tm_1 (i := 92) rfl rfl))
      exact ⟨(cC, iS), fun q hq => by cases hq; exact h⟩
    | 10 =>
      obtain ⟨cC, iS, h⟩ := u_known (C := RX10) (T := TX10) (N := 8) (n := 8) htw in_X10 (htw _ (tw_inc tm_1 (i := 28) rfl rfl))
      exact ⟨(cC, iS), fun q hq => by cases hq; exact h⟩
    | 11 =>
      obtain ⟨cC, iS, h⟩ := u_known (C := RX11) (T := TX11) (N := 15) (n := 15) htw in_X11 (htw _ (tw_inc tm_1 (i := 20) rfl rfl))
      exact ⟨(cC, iS), fun q hq => by cases hq; exact h⟩
    | 12 =>
      obtain ⟨cC, iS, h⟩ := u_known (C := RX12) (T := TX12) (N := 39) (n := 39) htw in_X12 (htw _ (tw_inc tm_5 (i := 231) rfl rfl))
      exact ⟨(cC, iS), fun q hq => by cases hq; exact h⟩
    | k + 13 => exact ⟨(0, fun _ => 0), fun q hq => by cases hq⟩
  obtain ⟨f, hf⟩ := Classical.axiomOfChoice h0
  exact ⟨fun k => (f k).1, fun k => (f k).2, fun c q hq => hf c q hq⟩
theorem w_ac {args : Array Value} {s : State} {t : FieldType} (h : (Cond.arrayClass t).before args s = true) (ht : ∀ cA : ClassId, s.vm.findClass ("[" ++ t.toString) = some cA → va_RA s cA t) : ∃ cA : ClassId, ArrOfT s cA t ∧ va_RA s cA t := by
  obtain ⟨cA, kA, comp, h1, h2, h3⟩ := Cond.arrayClass_spec h
  exact ⟨cA, fun n z => ⟨fun k h => (by cases h), kA, h2, comp, h3⟩, ht cA h1⟩
theorem w_aq {args : Array Value} {s : State} (h : (Cond.arrayOver (.object RX8)).before args s = true) : ∃ cA : ClassId, ArrOfT s cA (.object RX8) ∧ va_RA s cA (.object RX8) := by
  obtain ⟨comp, cA, kA, h1, h2, h3, h4, h5⟩ := Cond.arrayOver_spec h
  exact ⟨cA, fun n z => ⟨fun k h => (by cases h), kA, h3, comp, h4⟩, kA, comp, h3, h4, h1, h5⟩
def w_ad (n0 b tF tL tM : Nat) (adK adV : Nat → Nat) (k : Nat) : Nat := if k < 107 then n0 + k else if k = 300 then b else if k = 240 then tF else if k = 241 then tL else if k = 242 then tM else if k < 220 then adK (k - 200) else adV (k - 220)
def w_ca (a b c d : ClassId) : FieldType → ClassId
  | .int => a
  | .byte => b
  | .boolean => c
  | _ => d
set_option maxHeartbeats 4000000 in
set_option maxRecDepth 100000 in
/-- the two objects are made, then the loop -/
theorem w_make {G : tw_G} (hk : gks G = List.range 107) (hgt : tw_gt G) (hN : (gN G : Int) ≤ 2560) : tw_L G ((RL, cL_law, 4, some .boolean, room_1, 0, 0) : tw_T) (fun below args s => lw_Z below args s) 0 [(0, vR 300)] [] m0 (fun _ => none) 0 0 := by
  refine l_new cn_L_7 dL_law_0 (Nat.le_of_ble_eq_true rfl) (Nat.le_of_ble_eq_true rfl) ⟨(Nat.le_of_ble_eq_true rfl), (Nat.le_of_ble_eq_true rfl)⟩ ?_
  refine l_dup dL_law_3 rfl ?_
  refine l_callI (kk_0 (G := G) m0 (fun _ => none) (fun k h1 h2 j => if_neg (by omega)) (fun k hk => rfl) m0_I0 m0_91 hgt) ci_L_9 rfl dL_law_4 ⟨(Nat.le_of_ble_eq_true rfl), (Nat.le_of_ble_eq_true rfl)⟩ ⟨(Nat.le_of_ble_eq_true rfl), (Nat.le_of_ble_eq_true rfl)⟩ (Nat.le_of_ble_eq_true rfl) (Nat.le_of_ble_eq_true rfl) (Nat.le_of_ble_eq_true rfl) rfl (Nat.le_of_ble_eq_true rfl) rfl (fun τ1 hτ1 => ?_)
  obtain ⟨hI1, hF1, hA10, hA11, hA12, hA13, hB1, hg0, hg1, hg2, hg3⟩ := hτ1
  have hA1 : τ1 29 0 = 0 ∧ τ1 30 0 = 0 ∧ τ1 29 1 = 0 ∧ τ1 30 1 = 0 := ⟨hA10, hA11, hA12, hA13⟩
  refine l_astore_n (i := 1) (ls' := [(0, vR 300), (1, vR 0)]) [1, 0] dL_law_7 rfl (Nat.le_of_ble_eq_true rfl) rfl rfl ?_
  refine l_cg (σ' := m1 τ1) (fun k hk j => if_pos hk) ?_
  refine l_new cn_L_10 dL_law_8 (Nat.le_of_ble_eq_true rfl) (Nat.le_of_ble_eq_true rfl) ⟨(Nat.le_of_ble_eq_true rfl), (Nat.le_of_ble_eq_true rfl)⟩ ?_
  refine l_dup dL_law_11 rfl ?_
  refine l_callI (kk_88 (G := G) (m1 τ1) (fun _ => none) (fun k h1 h2 j => if_neg (by omega)) (fun k hk => rfl) (m1_I0 hI1) hgt) ci_L_12 rfl dL_law_12 ⟨(Nat.le_of_ble_eq_true rfl), (Nat.le_of_ble_eq_true rfl)⟩ ⟨(Nat.le_of_ble_eq_true rfl), (Nat.le_of_ble_eq_true rfl)⟩ (Nat.le_of_ble_eq_true rfl) (Nat.le_of_ble_eq_true rfl) (Nat.le_of_ble_eq_true rfl) rfl (Nat.le_of_ble_eq_true rfl) rfl (fun τ2 hτ2 => ?_)
  obtain ⟨hI2, hW2, hm2, hF2, hZ2, hk2, hn2, ho2, hd2, hl2⟩ := hτ2
  have hx : ∀ c j, c < 88 → τ2 c j = τ1 c j := fun c j hc => (hF2 c j (by omega)).trans (if_pos hc)
  have hI : tw_I τ2 := tw_I0_I hI2 (fun j hj => by rw [hx 2 j (by decide)]; exact hI1 2 j) (fun j hj => by rw [hx 15 j (by decide)]; exact hI1 15 j) hW2
  have hL : tw_LI τ2 := ⟨hm2, by
    rw [hx 10 10 (by decide), hZ2 88 12 (by omega), hF1 10 10 (by omega)]
    exact (if_neg (by decide)).trans (tw_ini0 (by decide)), ⟨Or.inl ⟨(hx 80 1 (by decide)).trans ((hF1 80 1 (by omega)).trans ((if_neg (by decide)).trans (tw_ini0 (by decide)))), hl2 0 (by decide)⟩, Or.inl ⟨(hx 82 1 (by decide)).trans ((hF1 82 1 (by omega)).trans ((if_neg (by decide)).trans (tw_ini0 (by decide)))), hl2 1 (by decide)⟩, Or.inl ⟨(hx 84 1 (by decide)).trans ((hF1 84 1 (by omega)).trans ((if_neg (by decide)).trans (tw_ini0 (by decide)))), hl2 2 (by decide)⟩, Or.inl ⟨(hx 86 1 (by decide)).trans ((hF1 86 1 (by omega)).trans ((if_neg (by decide)).trans (tw_ini0 (by decide)))), hl2 3 (by decide)⟩⟩, BY_0 (by rw [hx 10 10 (by decide), hF1 10 10 (by omega)]; exact (if_neg (by decide)).trans (tw_ini0 (by decide))), (by rw [hx 0 13 (by decide), hZ2 88 17 (by omega), hF1 0 13 (by omega)]; exact (if_neg (by decide)).trans (tw_ini0 (by decide))), (by rw [hx 31 6 (by decide), hk2.1, hF1 31 6 (by omega)]; exact (if_neg (by decide)).trans (tw_ini0 (by decide))), (by rw [hx 39 6 (by decide), hk2.2, hF1 39 6 (by omega)]; exact (if_neg (by decide)).trans (tw_ini0 (by decide))), ⟨((hx 29 0 (by decide)).trans hA1.1).trans hn2.1.symm, ((hx 30 0 (by decide)).trans hA1.2.1).trans hn2.2.1.symm, ((hx 29 1 (by decide)).trans hA1.2.2.1).trans hn2.2.2.1.symm, ((hx 30 1 (by decide)).trans hA1.2.2.2).trans hn2.2.2.2.symm, ((hx 37 0 (by decide)).trans ((hF1 37 0 (by omega)).trans ((if_neg (by decide)).trans (tw_ini0 (by decide))))).trans (ho2 193 (by decide)).symm, ((hx 38 0 (by decide)).trans ((hF1 38 0 (by omega)).trans ((if_neg (by decide)).trans (tw_ini0 (by decide))))).trans (ho2 194 (by decide)).symm, ((hx 37 1 (by decide)).trans ((hF1 37 1 (by omega)).trans ((if_neg (by decide)).trans (tw_ini0 (by decide))))).trans (ho2 195 (by decide)).symm, ((hx 38 1 (by decide)).trans ((hF1 38 1 (by omega)).trans ((if_neg (by decide)).trans (tw_ini0 (by decide))))).trans (ho2 196 (by decide)).symm, ((hx 45 0 (by decide)).trans ((hF1 45 0 (by omega)).trans ((if_neg (by decide)).trans (tw_ini0 (by decide))))).trans (ho2 293 (by decide)).symm, ((hx 46 0 (by decide)).trans ((hF1 46 0 (by omega)).trans ((if_neg (by decide)).trans (tw_ini0 (by decide))))).trans (ho2 294 (by decide)).symm, ((hx 45 1 (by decide)).trans ((hF1 45 1 (by omega)).trans ((if_neg (by decide)).trans (tw_ini0 (by decide))))).trans (ho2 295 (by decide)).symm, ((hx 46 1 (by decide)).trans ((hF1 46 1 (by omega)).trans ((if_neg (by decide)).trans (tw_ini0 (by decide))))).trans (ho2 296 (by decide)).symm, by have a0 := hn2.1; have a1 := hn2.2.1; omega, by have a0 := hn2.2.2.1; have a1 := hn2.2.2.2; omega, by have a0 := ho2 193 (by decide); have a1 := ho2 194 (by decide); omega, by have a0 := ho2 195 (by decide); have a1 := ho2 196 (by decide); omega, by have a0 := ho2 293 (by decide); have a1 := ho2 294 (by decide); omega, by have a0 := ho2 295 (by decide); have a1 := ho2 296 (by decide); omega⟩, ST_00 ((wW_F (fun c j a b => hx c j (by omega))).trans ((WBG_wW hB1).trans hd2.1.symm)) (fun j hj => (hx 3 j (by decide)).trans (hB1.2.1 j (by omega))) ((hx 24 0 (by decide)).trans hg0) (fun j hj => (hx 28 j (by decide)).trans (hg1 j hj)) (((hx 23 4 (by decide)).trans hg2).trans hd2.2.2.2.1.symm) (((hx 23 5 (by decide)).trans hg3).trans hd2.2.2.2.2.symm) hd2.2.1 hd2.2.2.1 ((hx 31 6 (by decide)).trans ((hF1 31 6 (by omega)).trans ((if_neg (by decide)).trans (tw_ini0 (by decide))))) ((hx 39 6 (by decide)).trans ((hF1 39 6 (by omega)).trans ((if_neg (by decide)).trans (tw_ini0 (by decide))))) ((hx 60 6 (by decide)).trans ((hF1 60 6 (by omega)).trans ((if_neg (by decide)).trans (tw_ini0 (by decide))))) (fun c hc => (hx (80 + 2 * c) 1 (by omega)).trans ((hF1 (80 + 2 * c) 1 (by omega)).trans ((if_neg (by omega)).trans (tw_ini0 (by omega))))) (((hx 0 14 (by decide)).trans ((hF1 0 14 (by omega)).trans ((if_neg (by decide)).trans (tw_ini0 (by decide))))).trans (hZ2 88 38 (by omega)).symm)⟩
  refine l_astore_n (i := 2) (ls' := [(0, vR 300), (1, vR 0), (2, vR 88)]) [1, 2, 0] dL_law_15 rfl (Nat.le_of_ble_eq_true rfl) rfl rfl ?_
  refine l_iconst dL_law_16 ?_
  refine l_istore_n (i := 3) (ls' := [(0, vR 300), (1, vR 0), (2, vR 88), (3, vI 0)]) [1, 2, 3, 0] dL_law_17 rfl (Nat.le_of_ble_eq_true rfl) rfl rfl ?_
  refine l_toJ hk rfl ?_
  have hX : tw_isX G := ⟨fun k h => by rw [hk]; exact List.mem_range.mpr (by omega), hgt⟩
  have hM : tw_isM G := ⟨fun k h1 h2 => by rw [hk]; exact List.mem_range.mpr h2, hgt.1, hgt.2.2.1⟩
  exact w_loop hX hM hN (fun τ => w_end dL_law_1359) 2601 0 ⟨by decide, by decide⟩ τ2 hI hL (by decide)
set_option maxHeartbeats 4000000 in
set_option maxRecDepth 100000 in
/-- YOUR PART -/
theorem whole_start {p : Program} {e : Env} {s : State} {m : MethodId} {below : List Frame} {meth : Method} {c : Code} (l : Launch) (hflags : l.flags = flags0) {b L : Nat} {xs : Nat → Int32} (hL : L ≤ 2560) (C0 : lw_At p s m meth c b L xs) : W p l e room_1 s m #[Value.ref b] below meth c s.heap [] 0 0 (lw_Z below #[Value.ref b] s) (entryFrame m ([Value.ref b] : List Value).toArray 4) := by
  obtain ⟨hx, hb, hr, hml, hown, hts, hX, hbl, hlocks, hgv⟩ := C0
  have hs := flat_of_before _ hgv
  have htw : ∀ w ∈ tw_ws, w.before #[Value.ref b] s = true := fun w hw => hts w (List.mem_filter.mp hw).1
  have hA0 : ∀ a : Nat, a < s.heap.size → ¬ (fun q : Nat => s.heap.size ≤ q) a := fun a h q => by have q : s.heap.size ≤ a := q; omega
  obtain ⟨tF, z1, v1⟩ := w_FIRST hts hs hA0
  obtain ⟨tL, z2, v2⟩ := w_LEAST hts hs hA0
  obtain ⟨tM, z3, v3⟩ := w_MOST hts hs hA0
  obtain ⟨adK, adV, hK, hE⟩ := w_strs hs hA0
  have hR := w_refs hts hE
  obtain ⟨dC, dI, hC⟩ := w_cls htw
  obtain ⟨cI, aI, rI⟩ := w_ac (t := .int) (hts _ (List.mem_of_getElem? (i := 187) (by decide +kernel))) (fun _ h => h)
  obtain ⟨cB, aB, rB⟩ := w_ac (t := .byte) (hts _ (List.mem_of_getElem? (i := 244) (by decide +kernel))) (fun _ h => h)
  obtain ⟨cZ, aZ, rZ⟩ := w_ac (t := .boolean) (hts _ (List.mem_of_getElem? (i := 245) (by decide +kernel))) (fun _ h => h)
  have hao : va_AO RX8 s := va_AO.of (hts _ (List.mem_of_getElem? (i := 524) (by decide +kernel)))
  obtain ⟨cQ, aQ, rQ⟩ := w_aq (args := #[]) hao
  have hZ4 : va_Z RJ0 "COMPACT_STRINGS" "Z" (.int 1) (fun q : Nat => s.heap.size ≤ q) s s.heap := va_Zof (hts _ (List.mem_of_getElem? (i := 674) (by decide +kernel))) (hts _ (List.mem_of_getElem? (i := 111) (by decide +kernel))) (va_eqi (hs _ (by decide +kernel))) hA0
  have hZ5 : va_Zq RJ3 "SIOOBE_FORMATTER" "Ljava/util/function/BiFunction;" (fun q : Nat => s.heap.size ≤ q) s s.heap := va_Zqof (hts _ (List.mem_of_getElem? (i := 690) (by decide +kernel))) (hts _ (List.mem_of_getElem? (i := 113) (by decide +kernel))) (hs _ (by decide +kernel)) hA0
  obtain ⟨G, eG⟩ : ∃ G : tw_G, G = (l, List.range 107, w_ad s.heap.size b tF tL tM adK adV, (dC, dI), w_ca cI cB cZ cQ, [(cI, FieldType.int), (cB, FieldType.byte), (cZ, FieldType.boolean), (cQ, FieldType.object RX8)], L, xs) := ⟨_, rfl⟩
  have g0 : gad G 0 = s.heap.size := by rw [eG]; rfl
  have hsq : tw_sq G := by
    intro k hk
    rw [g0, eG]
    exact if_pos hk
  have hAA : ∀ q, tw_AA G q → (fun q : Nat => s.heap.size ≤ q) q := fun q h => by
    have h : gad G 0 ≤ q := h
    show s.heap.size ≤ q
    omega
  have e300 : gad G 300 = b := by rw [eG]; rfl
  have hKn : va_K (gD G) tw_cl (gty G) s := by
    rw [eG]
    refine ⟨hC, fun k q h => ?_⟩
    match k, h with
    | 0, h => cases h; exact ⟨aI, rI⟩
    | 1, h => cases h; exact ⟨aB, rB⟩
    | 2, h => cases h; exact ⟨aZ, rZ⟩
    | 3, h => cases h; exact ⟨aQ, rQ⟩
  have hgt : tw_gt G := by
    rw [eG]
    exact ⟨List.mem_cons_self, List.mem_cons_of_mem _ List.mem_cons_self, List.mem_cons_of_mem _ (List.mem_cons_of_mem _ List.mem_cons_self), List.mem_cons_of_mem _ (List.mem_cons_of_mem _ (List.mem_cons_of_mem _ List.mem_cons_self))⟩
  have k1 : ∀ i, i < 14 → gad G (200 + i) = adK i := fun i hi => by
    rw [eG]
    show w_ad _ _ _ _ _ _ _ (200 + i) = adK i
    unfold w_ad
    rw [if_neg (by omega), if_neg (by omega), if_neg (by omega), if_neg (by omega), if_neg (by omega), if_pos (by omega), show 200 + i - 200 = i by omega]
  have k2 : ∀ i, i < 14 → gad G (220 + i) = adV i := fun i hi => by
    rw [eG]
    show w_ad _ _ _ _ _ _ _ (220 + i) = adV i
    unfold w_ad
    rw [if_neg (by omega), if_neg (by omega), if_neg (by omega), if_neg (by omega), if_neg (by omega), if_neg (by omega), show 220 + i - 220 = i by omega]
  have hSt : tw_St G (tw_AA G) s s.heap := by
    have f1 : gad G 240 = tF := by rw [eG]; rfl
    have f2 : gad G 241 = tL := by rw [eG]; rfl
    have f3 : gad G 242 = tM := by rw [eG]; rfl
    have f4 : gN G = L := by rw [eG]
    have f5 : gxs G = xs := by rw [eG]
    refine ⟨?_, ?_, ?_, hZ4.narrow hAA, hZ5.narrow hAA, vk_S_cg (hK.narrow hAA) k1 k2, fun i q hq => ?_, ?_⟩
    · rw [f1]; exact ⟨z1.narrow hAA, v1.narrow hAA⟩
    · rw [f2]; exact ⟨z2.narrow hAA, v2.narrow hAA⟩
    · rw [f3]; exact ⟨z3.narrow hAA, v3.narrow hAA⟩
    · rw [k1 i (List.getElem?_eq_some_iff.mp hq).1]; exact hR i q hq
    · rw [e300, f4, f5]
      exact ⟨hX, hbl, fun h => by have h : gad G 0 ≤ b := h; omega⟩
  have gl0 : gl G = l := by rw [eG]
  have hl := lv_entry ([.ref b]) (n := 4) (Nat.le_of_ble_eq_true rfl)
  rw [lg_entry_eq]
  have hl2 : lv_has (lg_sl ([.ref b]) ++ List.replicate (4 - (lg_sl ([.ref b])).length) Slot.unset).toArray 4 (tw_l G [(0, vR 300)]) := by
    show lv_has _ 4 [(0, tw_v G (vR 300))]
    rw [show tw_v G (vR 300) = .ref b from by show Value.ref (gad G 300) = _; rw [e300]]
    exact hl
  have hNN : (gN G : Int) ≤ 2560 := by
    rw [eG]
    show (L : Int) ≤ 2560
    omega
  have kk := w_make (G := G) (by rw [eG]) hgt hNN p e s m #[Value.ref b] below meth c s.heap [] _ ⟨hx, hb, hml, hr, hown, htw, hlocks, hKn, hsq, hSt, by rw [g0]; rfl, hgt, fun h => absurd (show (some FieldType.boolean : Option FieldType) = none from h) (Option.some_ne_none _), hao⟩ (fun k q h => by simp [tw_y] at h) va_S.rf hl2
  rw [gl0] at kk
  exact kk
set_option maxHeartbeats 4000000 in
theorem lw_walk (l : Launch) (hflags : l.flags = flags0) (b : Addr) (xs : List Int32) : MetFree l x (headSpec (Jvm.Cond.code x code maxLocals ret :: tables_1) room_1) (lw_P b xs) (fun _ _ _ _ _ => True) lw_Q := by
  refine MetFree.of_bodyS (code := code) (maxLocals := maxLocals) (ret := ret) (by decide) ?_ ?_
  · intro args s m h hn
    obtain ⟨meth, c, h1, h2, h3, h4, h5, h6, -, -⟩ := Cond.code_spec hn (atoms_spec (ws := Jvm.Cond.code x code maxLocals ret :: tables_1) h _ List.mem_cons_self)
    exact ⟨meth, c, h1, h2, h3, h4, h5, h6⟩
  · intro p e s m args below meth c s₁ B hml0 hP _
    obtain ⟨rfl, hx, hbd, hgv⟩ := hP
    obtain ⟨scr, harrAt, hlist, hof, hsmall⟩ := hx
    obtain ⟨hcb, hkn, -, -⟩ := State.arrayAt?_spec harrAt
    have hown : s.vm.findClass R_law = some m.cls := findClass_of_methodNamed B.named
    have hts0 : ∀ c ∈ (Jvm.Cond.code x code maxLocals ret :: tables_1), c.before #[Value.ref b] s = true := atoms_spec (ws := Jvm.Cond.code x code maxLocals ret :: tables_1) B.pre
    have hts : ∀ w ∈ lw_tbl, w.before #[Value.ref b] s = true := k2_hts_sels lw_privs (fun w hw => hts0 w (List.mem_cons_of_mem _ hw)) lw_privs_ok
    have hml : c.maxLocals = 4 := B.maxLocals_eq (hts0 _ List.mem_cons_self)
    have X₀ : Stand p l e room_1 s m #[Value.ref b] below meth c s₁ [] 0 0 := Stand.of_body B
    have hh0 : s₁.heap = s.heap := by rw [B.state]; rfl
    have hsz : scr.slots.size = xs.length := by rw [← Array.length_toList, hlist, List.length_map]
    have hval : ∀ j : Nat, j < xs.length → scr.slots[j]? = some (.int (xs.getD j 0)) := fun j hj => by
      rw [← Array.getElem?_toList, hlist]
      simp [hj]
    have hbl : b < s.heap.size := (Array.getElem?_eq_some_iff.mp hcb).1
    have hX : va_X b xs.length (fun j => xs.getD j 0) s s.heap := ⟨scr, hcb, hof, hkn, hsz, hval⟩
    have K : W p l e room_1 s m #[Value.ref b] below meth c s₁.heap [] 0 0 (lw_Z below #[Value.ref b] s) (entryFrame m ([Value.ref b] : List Value).toArray 4) := by
      rw [hh0]
      exact whole_start l hflags hbd ⟨B.exec, B.bytes, B.returns, hml, hown, hts, hX, hbl, B.notSynchronized, hgv⟩
    obtain ⟨t, a1, o, b1, b2, b3⟩ := K s₁ rfl X₀
    exact ⟨t, o, a1, b1, b2, b3⟩
theorem lw_pre_spec {args : Array Value} {s : State} (h : (Jvm.Cond.and given_1 narrow_1).before args s = true) (hr : rest_1_c.before args s = true) : ∃ (b : Addr) (xs : List Int32), lw_P b xs args s := by
  have hs := flat_of_before _ h
  have hq := flat_of_before _ hr
  have hc : (Cond.count 1).before args s = true := hs _ (by decide +kernel)
  have harr : (Cond.arrayOf (.arg 0) .int).before args s = true := hs _ (by decide +kernel)
  have hle : (Cond.le (.length (.arg 0)) (.int 2560)).before args s = true := hs _ (by decide +kernel)
  have hlen : (Cond.isInt (.length (.arg 0))).before args s = true := hq _ (by decide +kernel)
  have hall : (Cond.all (.arg 0) (.isInt (.elem (.arg 0) (.index 0)))).before args s = true := hq _ (by decide +kernel)
  obtain ⟨b, xs, hb, hx⟩ := State.ints_of_pre rfl harr hlen hall
  have hsm : xs.length < 2 ^ 31 := hx.choose_spec.2.2.2
  have hev : (Term.length (.arg 0)).eval args s none [] s = some (.int xs.length.toInt32) := hx.length_eval hb
  have hv := Cond.le_ints hev (show (Term.int 2560).eval args s none [] s = some (.int 2560) from rfl)
  have hd : xs.length.toInt32 ≤ 2560 := by
    simpa [Cond.before, Cond.holds, hv] using hle
  have hN : xs.length ≤ 2560 := (Int32.ofNat_le_ofNat hsm (by decide)).mp (show Int32.ofNat xs.length ≤ Int32.ofNat 2560 from hd)
  exact ⟨b, xs, Cond.one_arg hc (show args[0]? = some (.ref b) from hb), hx, hN, h⟩
theorem lw_comes (l : Launch) (hflags : l.flags = flags0) : Comes l x (Jvm.Cond.code x code maxLocals ret :: tables_1) room_1 (fun tb e args s => Calls_1 tb e args s ∧ rest_1 tb e args s ∧ Pre_1 tb e args s)
    (fun _ _ args s o t => lw_Q args s o t) := by
  intro p e ha hc hk s m args below hf hfit hheap happ hpre
  obtain ⟨b, xs, hP⟩ := lw_pre_spec hpre.2.2 hpre.2.1
  obtain ⟨k, o, h1, h2, h3, hQ⟩ := lw_walk l hflags b xs p e ha hc hk s m args below hf ((Spec.applies_iff_loose hf).mp happ).1 hP trivial
  exact ⟨k, o, h1, h2, h3, hQ⟩
theorem lw_frame {s t : State} {o : Outcome} {args : Array Value} (h : Framed s o t [] 600000 7302250) :
    Framed s o t (fieldLocs frame_1_writes args s ++ arrayLocs frame_1_arrays args s ++ staticLocs frame_1_statics s) 600000 7302250 := h
theorem lw_limb (L : Cond) (hL : ∀ (args : Array Value) (s t : State), L.after args s (.returned (some (.int 1))) t = true) :
    ArmFor flags0 classFile x code maxLocals ret World_1 tables_1 room_1 Calls_1 rest_1 Pre_1
      (fun tb e a s o t => postC L tb e a s o t ∧ Framed s o t (fieldLocs frame_1_writes a s ++ arrayLocs frame_1_arrays a s ++ staticLocs frame_1_statics s) 600000 7302250) := by
  intro l hflags _ _ p e ha hc hk s m args below hf hfit hheap happ hpre
  obtain ⟨k, o, h1, h2, h3, rfl, hF⟩ := lw_comes l hflags p e ha hc hk s m args below hf hfit hheap happ hpre
  exact ⟨k, _, h1, h2, h3, hL args s _, lw_frame hF⟩
theorem i_vc : Claimed_1_1 ∧ Claimed_1_2 := ⟨lw_limb limb_1_1 (fun args s t => by simp [limb_1_1, Cond.after, Cond.holds, Cond.value]), lw_limb limb_1_2 (fun args s t => Cond.after_iff.mpr (by
  first | (rw [show limb_1_2 = Cond.eq .result (.int 1) from rfl, Cond.eq_ints (x := 1) (y := 1) rfl rfl]; simp; done) | (simp [limb_1_2, Cond.value, Term.eval]; done)))⟩

