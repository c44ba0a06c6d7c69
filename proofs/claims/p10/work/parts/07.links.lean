/-! LINKS: what the tables say of each place of the pools. -/
theorem tw_inc {L : List Cond} (hL : ∀ w ∈ L, w ∈ lw_tbl) {i : Nat} {w : Cond} (h : L[i]? = some w) (hg : goodWord w = true) : w ∈ tw_ws := List.mem_filter.mpr ⟨hL w (List.mem_of_getElem? h), hg⟩
theorem tm_1 : ∀ w ∈ tables_1_1, w ∈ lw_tbl := fun w h => List.mem_append.mpr (Or.inr (show w ∈ tables_1 from List.mem_append.mpr (Or.inl h)))
theorem tm_2 : ∀ w ∈ tables_1_2, w ∈ lw_tbl := fun w h => List.mem_append.mpr (Or.inr (show w ∈ tables_1 from List.mem_append.mpr (Or.inr (List.mem_append.mpr (Or.inl h)))))
theorem tm_3 : ∀ w ∈ tables_1_3, w ∈ lw_tbl := fun w h => List.mem_append.mpr (Or.inr (show w ∈ tables_1 from List.mem_append.mpr (Or.inr (List.mem_append.mpr (Or.inr (List.mem_append.mpr (Or.inl h)))))))
theorem tm_4 : ∀ w ∈ tables_1_4, w ∈ lw_tbl := fun w h => List.mem_append.mpr (Or.inr (show w ∈ tables_1 from List.mem_append.mpr (Or.inr (List.mem_append.mpr (Or.inr (List.mem_append.mpr (Or.inr (List.mem_append.mpr (Or.inl h)))))))))
theorem tm_5 : ∀ w ∈ tables_1_5, w ∈ lw_tbl := fun w h => List.mem_append.mpr (Or.inr (show w ∈ tables_1 from List.mem_append.mpr (Or.inr (List.mem_append.mpr (Or.inr (List.mem_append.mpr (Or.inr (List.mem_append.mpr (Or.inr (List.mem_append.mpr (Or.inl h)))))))))))
theorem tm_6 : ∀ w ∈ tables_1_6, w ∈ lw_tbl := fun w h => List.mem_append.mpr (Or.inr (show w ∈ tables_1 from List.mem_append.mpr (Or.inr (List.mem_append.mpr (Or.inr (List.mem_append.mpr (Or.inr (List.mem_append.mpr (Or.inr (List.mem_append.mpr (Or.inr (List.mem_append.mpr (Or.inl h)))))))))))))
theorem tm_7 : ∀ w ∈ tables_1_7, w ∈ lw_tbl := fun w h => List.mem_append.mpr (Or.inr (show w ∈ tables_1 from List.mem_append.mpr (Or.inr (List.mem_append.mpr (Or.inr (List.mem_append.mpr (Or.inr (List.mem_append.mpr (Or.inr (List.mem_append.mpr (Or.inr (List.mem_append.mpr (Or.inr (List.mem_append.mpr (Or.inl h)))))))))))))))
theorem tm_8 : ∀ w ∈ tables_1_8, w ∈ lw_tbl := fun w h => List.mem_append.mpr (Or.inr (show w ∈ tables_1 from List.mem_append.mpr (Or.inr (List.mem_append.mpr (Or.inr (List.mem_append.mpr (Or.inr (List.mem_append.mpr (Or.inr (List.mem_append.mpr (Or.inr (List.mem_append.mpr (Or.inr (List.mem_append.mpr (Or.inr (h))))))))))))))))
def tw_tb : Nat → List Cond
  | 0 => k2_sels lw_privs
  | 1 => tables_1_1
  | 2 => tables_1_2
  | 3 => tables_1_3
  | 4 => tables_1_4
  | 5 => tables_1_5
  | 6 => tables_1_6
  | 7 => tables_1_7
  | 8 => tables_1_8
  | _ + 9 => []
theorem tw_tb_in : ∀ (k : Nat) (w : Cond), w ∈ tw_tb k → w ∈ lw_tbl
  | 0, _, h => List.mem_append.mpr (Or.inl h)
  | 1, w, h => tm_1 w h
  | 2, w, h => tm_2 w h
  | 3, w, h => tm_3 w h
  | 4, w, h => tm_4 w h
  | 5, w, h => tm_5 w h
  | 6, w, h => tm_6 w h
  | 7, w, h => tm_7 w h
  | 8, w, h => tm_8 w h
  | _ + 9, _, h => absurd h List.not_mem_nil
theorem tw_all : ∀ {ws : List Cond} (js : List (Nat × Nat)), (∀ p ∈ ws.zip js, (tw_tb p.2.1)[p.2.2]? = some p.1 ∧ goodWord p.1 = true) → ws.length ≤ js.length → ∀ w ∈ ws, w ∈ tw_ws
  | [], _, _, _, _, hw => absurd hw List.not_mem_nil
  | _ :: _, [], _, hl, _, _ => absurd hl (Nat.not_succ_le_zero _)
  | w :: ws, j :: js, h, hl, x, hx => by
    have h0 := h (w, j) List.mem_cons_self
    rcases List.mem_cons.mp hx with e | e
    · rw [e]
      exact List.mem_filter.mpr ⟨tw_tb_in _ _ (List.mem_of_getElem? h0.1), h0.2⟩
    · exact tw_all js (fun p hp => h p (List.mem_cons_of_mem _ hp)) (Nat.le_of_succ_le_succ hl) x e
theorem in_X0 : ∀ w ∈ wsX00, w ∈ tw_ws := by
  have h : ∀ w ∈ wsX00, w ∈ tables_1_2 ∧ goodWord w = true := by decide +kernel
  exact fun w hw => List.mem_filter.mpr ⟨(tm_2 w) (h w hw).1, (h w hw).2⟩
theorem in_X1 : ∀ w ∈ wsX10, w ∈ tw_ws := by
  have h : ∀ w ∈ wsX10, w ∈ tables_1_2 ∧ goodWord w = true := by decide +kernel
  exact fun w hw => List.mem_filter.mpr ⟨(tm_2 w) (h w hw).1, (h w hw).2⟩
theorem in_X2 : ∀ w ∈ wsX20, w ∈ tw_ws := by
  have h : ∀ w ∈ wsX20, w ∈ tables_1_1 ++ tables_1_2 ∧ goodWord w = true := by decide +kernel
  exact fun w hw => List.mem_filter.mpr ⟨((fun h => (List.mem_append.mp h).elim (tm_1 w) (tm_2 w))) (h w hw).1, (h w hw).2⟩
theorem in_X3 : ∀ w ∈ wsX30, w ∈ tw_ws := by
  have h : ∀ w ∈ wsX30, w ∈ tables_1_1 ∧ goodWord w = true := by decide +kernel
  exact fun w hw => List.mem_filter.mpr ⟨(tm_1 w) (h w hw).1, (h w hw).2⟩
theorem in_X4 : ∀ w ∈ wsX40, w ∈ tw_ws := by
  have h : ∀ w ∈ wsX40, w ∈ tables_1_2 ∧ goodWord w = true := by decide +kernel
  exact fun w hw => List.mem_filter.mpr ⟨(tm_2 w) (h w hw).1, (h w hw).2⟩
theorem in_X5 : ∀ w ∈ wsX50, w ∈ tw_ws := by
  have h : ∀ w ∈ wsX50, w ∈ tables_1_2 ∧ goodWord w = true := by decide +kernel
  exact fun w hw => List.mem_filter.mpr ⟨(tm_2 w) (h w hw).1, (h w hw).2⟩
theorem in_X6 : ∀ w ∈ wsX60, w ∈ tw_ws := by
  have h : ∀ w ∈ wsX60, w ∈ tables_1_2 ∧ goodWord w = true := by decide +kernel
  exact fun w hw => List.mem_filter.mpr ⟨(tm_2 w) (h w hw).1, (h w hw).2⟩
theorem in_X7 : ∀ w ∈ wsX70, w ∈ tw_ws := by
  have h : ∀ w ∈ wsX70, w ∈ tables_1_1 ∧ goodWord w = true := by decide +kernel
  exact fun w hw => List.mem_filter.mpr ⟨(tm_1 w) (h w hw).1, (h w hw).2⟩
theorem in_X8 : ∀ w ∈ wsX80, w ∈ tw_ws := by
  have h : ∀ w ∈ wsX80, w ∈ tables_1_2 ∧ goodWord w = true := by decide +kernel
  exact fun w hw => List.mem_filter.mpr ⟨(tm_2 w) (h w hw).1, (h w hw).2⟩
theorem in_X9 : ∀ w ∈ wsX90, w ∈ tw_ws := by
  have h : ∀ w ∈ wsX90, w ∈ tables_1_1 ∧ goodWord w = true := by decide +kernel
  exact fun w hw => List.mem_filter.mpr ⟨(tm_1 w) (h w hw).1, (h w hw).2⟩
theorem in_X10 : ∀ w ∈ wsX100, w ∈ tw_ws := by
  have h : ∀ w ∈ wsX100, w ∈ tables_1_1 ∧ goodWord w = true := by decide +kernel
  exact fun w hw => List.mem_filter.mpr ⟨(tm_1 w) (h w hw).1, (h w hw).2⟩
theorem in_X11 : ∀ w ∈ wsX110, w ∈ tw_ws := by
  have h : ∀ w ∈ wsX110, w ∈ tables_1_1 ++ tables_1_2 ++ tables_1_3 ∧ goodWord w = true := by decide +kernel
  exact fun w hw => List.mem_filter.mpr ⟨((fun h => (List.mem_append.mp h).elim ((fun h => (List.mem_append.mp h).elim (tm_1 w) (tm_2 w))) (tm_3 w))) (h w hw).1, (h w hw).2⟩
theorem in_X12 : ∀ w ∈ wsX120, w ∈ tw_ws := by
  have h : ∀ w ∈ wsX120, w ∈ tables_1_5 ++ tables_1_6 ∧ goodWord w = true := by decide +kernel
  exact fun w hw => List.mem_filter.mpr ⟨((fun h => (List.mem_append.mp h).elim (tm_5 w) (tm_6 w))) (h w hw).1, (h w hw).2⟩
theorem fl_X11_10 : tw_fl RX11 10 11 0 := ⟨_, _, _, rfl, by decide, in_X11, (tw_inc tm_2 (i := 214) (by decide +kernel) (by decide +kernel))⟩
theorem fl_X11_19 : tw_fl RX11 19 11 1 := ⟨_, _, _, rfl, by decide, in_X11, (tw_inc tm_2 (i := 215) (by decide +kernel) (by decide +kernel))⟩
theorem fl_X11_26 : tw_fl RX11 26 11 2 := ⟨_, _, _, rfl, by decide, in_X11, (tw_inc tm_2 (i := 216) (by decide +kernel) (by decide +kernel))⟩
theorem fl_X11_30 : tw_fl RX11 30 11 3 := ⟨_, _, _, rfl, by decide, in_X11, (tw_inc tm_2 (i := 217) (by decide +kernel) (by decide +kernel))⟩
theorem fl_X11_33 : tw_fl RX11 33 11 4 := ⟨_, _, _, rfl, by decide, in_X11, (tw_inc tm_2 (i := 218) (by decide +kernel) (by decide +kernel))⟩
theorem fl_X11_36 : tw_fl RX11 36 11 5 := ⟨_, _, _, rfl, by decide, in_X11, (tw_inc tm_2 (i := 219) (by decide +kernel) (by decide +kernel))⟩
theorem fl_X11_42 : tw_fl RX11 42 11 6 := ⟨_, _, _, rfl, by decide, in_X11, (tw_inc tm_2 (i := 220) (by decide +kernel) (by decide +kernel))⟩
theorem fl_X11_51 : tw_fl RX11 51 11 7 := ⟨_, _, _, rfl, by decide, in_X11, (tw_inc tm_2 (i := 221) (by decide +kernel) (by decide +kernel))⟩
theorem fl_X11_58 : tw_fl RX11 58 11 8 := ⟨_, _, _, rfl, by decide, in_X11, (tw_inc tm_2 (i := 222) (by decide +kernel) (by decide +kernel))⟩
theorem fl_X11_67 : tw_fl RX11 67 11 9 := ⟨_, _, _, rfl, by decide, in_X11, (tw_inc tm_2 (i := 223) (by decide +kernel) (by decide +kernel))⟩
theorem fl_X11_74 : tw_fl RX11 74 11 10 := ⟨_, _, _, rfl, by decide, in_X11, (tw_inc tm_2 (i := 224) (by decide +kernel) (by decide +kernel))⟩
theorem fl_X11_81 : tw_fl RX11 81 11 11 := ⟨_, _, _, rfl, by decide, in_X11, (tw_inc tm_2 (i := 225) (by decide +kernel) (by decide +kernel))⟩
theorem fl_X11_87 : tw_fl RX11 87 11 12 := ⟨_, _, _, rfl, by decide, in_X11, (tw_inc tm_2 (i := 226) (by decide +kernel) (by decide +kernel))⟩
theorem fl_X11_91 : tw_fl RX11 91 11 13 := ⟨_, _, _, rfl, by decide, in_X11, (tw_inc tm_2 (i := 227) (by decide +kernel) (by decide +kernel))⟩
theorem fl_X11_95 : tw_fl RX11 95 11 14 := ⟨_, _, _, rfl, by decide, in_X11, (tw_inc tm_2 (i := 228) (by decide +kernel) (by decide +kernel))⟩
theorem fl_X11_106 : tw_fl RX11 106 9 10 := ⟨_, _, _, rfl, by decide, in_X9, (tw_inc tm_1 (i := 111) (by decide +kernel) (by decide +kernel))⟩
theorem fl_X11_112 : tw_fl RX11 112 9 11 := ⟨_, _, _, rfl, by decide, in_X9, (tw_inc tm_1 (i := 113) (by decide +kernel) (by decide +kernel))⟩
theorem fl_X11_115 : tw_fl RX11 115 9 12 := ⟨_, _, _, rfl, by decide, in_X9, (tw_inc tm_1 (i := 115) (by decide +kernel) (by decide +kernel))⟩
theorem fl_X11_118 : tw_fl RX11 118 9 9 := ⟨_, _, _, rfl, by decide, in_X9, (tw_inc tm_1 (i := 109) (by decide +kernel) (by decide +kernel))⟩
theorem fl_X11_124 : tw_fl RX11 124 3 6 := ⟨_, _, _, rfl, by decide, in_X3, (tw_inc tm_1 (i := 204) (by decide +kernel) (by decide +kernel))⟩
theorem fl_X11_133 : tw_fl RX11 133 9 13 := ⟨_, _, _, rfl, by decide, in_X9, (tw_inc tm_1 (i := 117) (by decide +kernel) (by decide +kernel))⟩
theorem fl_X11_136 : tw_fl RX11 136 3 4 := ⟨_, _, _, rfl, by decide, in_X3, (tw_inc tm_1 (i := 200) (by decide +kernel) (by decide +kernel))⟩
theorem fl_X11_139 : tw_fl RX11 139 3 5 := ⟨_, _, _, rfl, by decide, in_X3, (tw_inc tm_1 (i := 202) (by decide +kernel) (by decide +kernel))⟩
theorem fl_X11_142 : tw_fl RX11 142 10 0 := ⟨_, _, _, rfl, by decide, in_X10, (tw_inc tm_1 (i := 44) (by decide +kernel) (by decide +kernel))⟩
theorem fl_X11_146 : tw_fl RX11 146 3 1 := ⟨_, _, _, rfl, by decide, in_X3, (tw_inc tm_1 (i := 194) (by decide +kernel) (by decide +kernel))⟩
theorem fl_X11_153 : tw_fl RX11 153 10 2 := ⟨_, _, _, rfl, by decide, in_X10, (tw_inc tm_1 (i := 54) (by decide +kernel) (by decide +kernel))⟩
theorem fl_X11_156 : tw_fl RX11 156 10 3 := ⟨_, _, _, rfl, by decide, in_X10, (tw_inc tm_1 (i := 59) (by decide +kernel) (by decide +kernel))⟩
theorem fl_X11_159 : tw_fl RX11 159 10 4 := ⟨_, _, _, rfl, by decide, in_X10, (tw_inc tm_1 (i := 62) (by decide +kernel) (by decide +kernel))⟩
theorem fl_X11_162 : tw_fl RX11 162 10 5 := ⟨_, _, _, rfl, by decide, in_X10, (tw_inc tm_1 (i := 66) (by decide +kernel) (by decide +kernel))⟩
theorem fl_X11_165 : tw_fl RX11 165 10 6 := ⟨_, _, _, rfl, by decide, in_X10, (tw_inc tm_1 (i := 69) (by decide +kernel) (by decide +kernel))⟩
theorem fl_X11_168 : tw_fl RX11 168 3 0 := ⟨_, _, _, rfl, by decide, in_X3, (tw_inc tm_1 (i := 192) (by decide +kernel) (by decide +kernel))⟩
theorem fl_X11_184 : tw_fl RX11 184 7 3 := ⟨_, _, _, rfl, by decide, in_X7, (tw_inc tm_1 (i := 180) (by decide +kernel) (by decide +kernel))⟩
theorem fl_X11_187 : tw_fl RX11 187 7 0 := ⟨_, _, _, rfl, by decide, in_X7, (tw_inc tm_1 (i := 167) (by decide +kernel) (by decide +kernel))⟩
theorem fl_X11_190 : tw_fl RX11 190 7 1 := ⟨_, _, _, rfl, by decide, in_X7, (tw_inc tm_1 (i := 173) (by decide +kernel) (by decide +kernel))⟩
theorem fl_X11_193 : tw_fl RX11 193 7 2 := ⟨_, _, _, rfl, by decide, in_X7, (tw_inc tm_1 (i := 178) (by decide +kernel) (by decide +kernel))⟩
theorem fl_X11_218 : tw_fl RX11 218 2 0 := ⟨_, _, _, rfl, by decide, in_X2, (tw_inc tm_1 (i := 227) (by decide +kernel) (by decide +kernel))⟩
theorem fl_X11_227 : tw_fl RX11 227 2 1 := ⟨_, _, _, rfl, by decide, in_X2, (tw_inc tm_1 (i := 230) (by decide +kernel) (by decide +kernel))⟩
theorem fl_X11_230 : tw_fl RX11 230 2 2 := ⟨_, _, _, rfl, by decide, in_X2, (tw_inc tm_1 (i := 232) (by decide +kernel) (by decide +kernel))⟩
theorem fl_X11_233 : tw_fl RX11 233 2 3 := ⟨_, _, _, rfl, by decide, in_X2, (tw_inc tm_1 (i := 234) (by decide +kernel) (by decide +kernel))⟩
theorem fl_X11_236 : tw_fl RX11 236 2 4 := ⟨_, _, _, rfl, by decide, in_X2, (tw_inc tm_1 (i := 236) (by decide +kernel) (by decide +kernel))⟩
theorem fl_X11_239 : tw_fl RX11 239 2 5 := ⟨_, _, _, rfl, by decide, in_X2, (tw_inc tm_1 (i := 239) (by decide +kernel) (by decide +kernel))⟩
theorem fl_X11_266 : tw_fl RX11 266 4 2 := ⟨_, _, _, rfl, by decide, in_X4, (tw_inc tm_2 (i := 25) (by decide +kernel) (by decide +kernel))⟩
theorem fl_X11_269 : tw_fl RX11 269 4 3 := ⟨_, _, _, rfl, by decide, in_X4, (tw_inc tm_2 (i := 28) (by decide +kernel) (by decide +kernel))⟩
theorem fl_X11_275 : tw_fl RX11 275 4 5 := ⟨_, _, _, rfl, by decide, in_X4, (tw_inc tm_2 (i := 32) (by decide +kernel) (by decide +kernel))⟩
theorem fl_X11_278 : tw_fl RX11 278 4 4 := ⟨_, _, _, rfl, by decide, in_X4, (tw_inc tm_2 (i := 30) (by decide +kernel) (by decide +kernel))⟩
theorem fl_X11_284 : tw_fl RX11 284 5 10 := ⟨_, _, _, rfl, by decide, in_X5, (tw_inc tm_2 (i := 87) (by decide +kernel) (by decide +kernel))⟩
theorem fl_X11_287 : tw_fl RX11 287 5 9 := ⟨_, _, _, rfl, by decide, in_X5, (tw_inc tm_2 (i := 85) (by decide +kernel) (by decide +kernel))⟩
theorem fl_X11_294 : tw_fl RX11 294 5 11 := ⟨_, _, _, rfl, by decide, in_X5, (tw_inc tm_2 (i := 89) (by decide +kernel) (by decide +kernel))⟩
theorem fl_X11_314 : tw_fl RX11 314 5 12 := ⟨_, _, _, rfl, by decide, in_X5, (tw_inc tm_2 (i := 91) (by decide +kernel) (by decide +kernel))⟩
theorem fl_X11_317 : tw_fl RX11 317 5 13 := ⟨_, _, _, rfl, by decide, in_X5, (tw_inc tm_2 (i := 93) (by decide +kernel) (by decide +kernel))⟩
theorem fl_X11_339 : tw_fl RX11 339 6 6 := ⟨_, _, _, rfl, by decide, in_X6, (tw_inc tm_2 (i := 138) (by decide +kernel) (by decide +kernel))⟩
theorem fl_X11_340 : tw_fl RX11 340 6 4 := ⟨_, _, _, rfl, by decide, in_X6, (tw_inc tm_2 (i := 134) (by decide +kernel) (by decide +kernel))⟩
theorem fl_X11_350 : tw_fl RX11 350 6 7 := ⟨_, _, _, rfl, by decide, in_X6, (tw_inc tm_2 (i := 140) (by decide +kernel) (by decide +kernel))⟩
theorem fl_X11_353 : tw_fl RX11 353 6 5 := ⟨_, _, _, rfl, by decide, in_X6, (tw_inc tm_2 (i := 136) (by decide +kernel) (by decide +kernel))⟩
theorem fl_X11_362 : tw_fl RX11 362 3 2 := ⟨_, _, _, rfl, by decide, in_X3, (tw_inc tm_1 (i := 196) (by decide +kernel) (by decide +kernel))⟩
theorem fl_X11_365 : tw_fl RX11 365 3 3 := ⟨_, _, _, rfl, by decide, in_X3, (tw_inc tm_1 (i := 198) (by decide +kernel) (by decide +kernel))⟩
theorem fl_X11_391 : tw_fl RX11 391 0 4 := ⟨_, _, _, rfl, by decide, in_X0, (tw_inc tm_2 (i := 170) (by decide +kernel) (by decide +kernel))⟩
theorem fl_X11_392 : tw_fl RX11 392 0 5 := ⟨_, _, _, rfl, by decide, in_X0, (tw_inc tm_2 (i := 172) (by decide +kernel) (by decide +kernel))⟩
theorem fl_X11_395 : tw_fl RX11 395 0 3 := ⟨_, _, _, rfl, by decide, in_X0, (tw_inc tm_2 (i := 168) (by decide +kernel) (by decide +kernel))⟩
theorem fl_X11_409 : tw_fl RX11 409 8 1 := ⟨_, _, _, rfl, by decide, in_X8, (tw_inc tm_2 (i := 196) (by decide +kernel) (by decide +kernel))⟩
theorem fl_X11_416 : tw_fl RX11 416 8 2 := ⟨_, _, _, rfl, by decide, in_X8, (tw_inc tm_2 (i := 198) (by decide +kernel) (by decide +kernel))⟩
theorem fl_X11_419 : tw_fl RX11 419 8 0 := ⟨_, _, _, rfl, by decide, in_X8, (tw_inc tm_2 (i := 194) (by decide +kernel) (by decide +kernel))⟩
theorem fl_X11_429 : tw_fl RX11 429 8 3 := ⟨_, _, _, rfl, by decide, in_X8, (tw_inc tm_2 (i := 200) (by decide +kernel) (by decide +kernel))⟩
theorem fl_X0_9 : tw_fl RX0 9 0 1 := ⟨_, _, _, rfl, by decide, in_X0, (tw_inc tm_2 (i := 165) (by decide +kernel) (by decide +kernel))⟩
theorem fl_X0_15 : tw_fl RX0 15 0 2 := ⟨_, _, _, rfl, by decide, in_X0, (tw_inc tm_2 (i := 166) (by decide +kernel) (by decide +kernel))⟩
theorem fl_X0_19 : tw_fl RX0 19 0 3 := ⟨_, _, _, rfl, by decide, in_X0, (tw_inc tm_2 (i := 167) (by decide +kernel) (by decide +kernel))⟩
theorem fl_X0_22 : tw_fl RX0 22 0 4 := ⟨_, _, _, rfl, by decide, in_X0, (tw_inc tm_2 (i := 169) (by decide +kernel) (by decide +kernel))⟩
theorem fl_X0_26 : tw_fl RX0 26 0 5 := ⟨_, _, _, rfl, by decide, in_X0, (tw_inc tm_2 (i := 171) (by decide +kernel) (by decide +kernel))⟩
theorem fl_X0_29 : tw_fl RX0 29 0 0 := ⟨_, _, _, rfl, by decide, in_X0, (tw_inc tm_2 (i := 164) (by decide +kernel) (by decide +kernel))⟩
theorem fl_X0_39 : tw_fl RX0 39 10 0 := ⟨_, _, _, rfl, by decide, in_X10, (tw_inc tm_1 (i := 42) (by decide +kernel) (by decide +kernel))⟩
theorem fl_X1_12 : tw_fl RX1 12 1 1 := ⟨_, _, _, rfl, by decide, in_X1, (tw_inc tm_2 (i := 55) (by decide +kernel) (by decide +kernel))⟩
theorem fl_X1_18 : tw_fl RX1 18 1 2 := ⟨_, _, _, rfl, by decide, in_X1, (tw_inc tm_2 (i := 56) (by decide +kernel) (by decide +kernel))⟩
theorem fl_X1_22 : tw_fl RX1 22 1 3 := ⟨_, _, _, rfl, by decide, in_X1, (tw_inc tm_2 (i := 57) (by decide +kernel) (by decide +kernel))⟩
theorem fl_X1_25 : tw_fl RX1 25 1 0 := ⟨_, _, _, rfl, by decide, in_X1, (tw_inc tm_2 (i := 54) (by decide +kernel) (by decide +kernel))⟩
theorem fl_X1_29 : tw_fl RX1 29 3 0 := ⟨_, _, _, rfl, by decide, in_X3, (tw_inc tm_1 (i := 191) (by decide +kernel) (by decide +kernel))⟩
theorem fl_X1_35 : tw_fl RX1 35 7 0 := ⟨_, _, _, rfl, by decide, in_X7, (tw_inc tm_1 (i := 165) (by decide +kernel) (by decide +kernel))⟩
theorem fl_X1_41 : tw_fl RX1 41 7 1 := ⟨_, _, _, rfl, by decide, in_X7, (tw_inc tm_1 (i := 170) (by decide +kernel) (by decide +kernel))⟩
theorem fl_X1_51 : tw_fl RX1 51 7 2 := ⟨_, _, _, rfl, by decide, in_X7, (tw_inc tm_1 (i := 176) (by decide +kernel) (by decide +kernel))⟩
theorem fl_X1_88 : tw_fl RX1 88 10 2 := ⟨_, _, _, rfl, by decide, in_X10, (tw_inc tm_1 (i := 53) (by decide +kernel) (by decide +kernel))⟩
theorem fl_X1_91 : tw_fl RX1 91 2 1 := ⟨_, _, _, rfl, by decide, in_X2, (tw_inc tm_1 (i := 229) (by decide +kernel) (by decide +kernel))⟩
theorem fl_X2_9 : tw_fl RX2 9 2 0 := ⟨_, _, _, rfl, by decide, in_X2, (tw_inc tm_1 (i := 226) (by decide +kernel) (by decide +kernel))⟩
theorem fl_X2_15 : tw_fl RX2 15 2 1 := ⟨_, _, _, rfl, by decide, in_X2, (tw_inc tm_1 (i := 228) (by decide +kernel) (by decide +kernel))⟩
theorem fl_X2_18 : tw_fl RX2 18 2 2 := ⟨_, _, _, rfl, by decide, in_X2, (tw_inc tm_1 (i := 231) (by decide +kernel) (by decide +kernel))⟩
theorem fl_X2_21 : tw_fl RX2 21 2 3 := ⟨_, _, _, rfl, by decide, in_X2, (tw_inc tm_1 (i := 233) (by decide +kernel) (by decide +kernel))⟩
theorem fl_X2_24 : tw_fl RX2 24 2 4 := ⟨_, _, _, rfl, by decide, in_X2, (tw_inc tm_1 (i := 235) (by decide +kernel) (by decide +kernel))⟩
theorem fl_X2_27 : tw_fl RX2 27 2 5 := ⟨_, _, _, rfl, by decide, in_X2, (tw_inc tm_1 (i := 237) (by decide +kernel) (by decide +kernel))⟩
theorem fl_X2_30 : tw_fl RX2 30 7 0 := ⟨_, _, _, rfl, by decide, in_X7, (tw_inc tm_1 (i := 163) (by decide +kernel) (by decide +kernel))⟩
theorem fl_X2_35 : tw_fl RX2 35 7 1 := ⟨_, _, _, rfl, by decide, in_X7, (tw_inc tm_1 (i := 169) (by decide +kernel) (by decide +kernel))⟩
theorem fl_X2_48 : tw_fl RX2 48 7 2 := ⟨_, _, _, rfl, by decide, in_X7, (tw_inc tm_1 (i := 175) (by decide +kernel) (by decide +kernel))⟩
theorem fl_X3_12 : tw_fl RX3 12 3 0 := ⟨_, _, _, rfl, by decide, in_X3, (tw_inc tm_1 (i := 190) (by decide +kernel) (by decide +kernel))⟩
theorem fl_X3_18 : tw_fl RX3 18 3 1 := ⟨_, _, _, rfl, by decide, in_X3, (tw_inc tm_1 (i := 193) (by decide +kernel) (by decide +kernel))⟩
theorem fl_X3_22 : tw_fl RX3 22 3 2 := ⟨_, _, _, rfl, by decide, in_X3, (tw_inc tm_1 (i := 195) (by decide +kernel) (by decide +kernel))⟩
theorem fl_X3_25 : tw_fl RX3 25 3 3 := ⟨_, _, _, rfl, by decide, in_X3, (tw_inc tm_1 (i := 197) (by decide +kernel) (by decide +kernel))⟩
theorem fl_X3_28 : tw_fl RX3 28 3 4 := ⟨_, _, _, rfl, by decide, in_X3, (tw_inc tm_1 (i := 199) (by decide +kernel) (by decide +kernel))⟩
theorem fl_X3_32 : tw_fl RX3 32 3 5 := ⟨_, _, _, rfl, by decide, in_X3, (tw_inc tm_1 (i := 201) (by decide +kernel) (by decide +kernel))⟩
theorem fl_X3_35 : tw_fl RX3 35 3 6 := ⟨_, _, _, rfl, by decide, in_X3, (tw_inc tm_1 (i := 203) (by decide +kernel) (by decide +kernel))⟩
theorem fl_X3_39 : tw_fl RX3 39 7 0 := ⟨_, _, _, rfl, by decide, in_X7, (tw_inc tm_1 (i := 162) (by decide +kernel) (by decide +kernel))⟩
theorem fl_X3_42 : tw_fl RX3 42 10 1 := ⟨_, _, _, rfl, by decide, in_X10, (tw_inc tm_1 (i := 47) (by decide +kernel) (by decide +kernel))⟩
theorem fl_X3_45 : tw_fl RX3 45 10 0 := ⟨_, _, _, rfl, by decide, in_X10, (tw_inc tm_1 (i := 40) (by decide +kernel) (by decide +kernel))⟩
theorem fl_X3_56 : tw_fl RX3 56 10 3 := ⟨_, _, _, rfl, by decide, in_X10, (tw_inc tm_1 (i := 57) (by decide +kernel) (by decide +kernel))⟩
theorem fl_X3_72 : tw_fl RX3 72 7 2 := ⟨_, _, _, rfl, by decide, in_X7, (tw_inc tm_1 (i := 177) (by decide +kernel) (by decide +kernel))⟩
theorem fl_X3_82 : tw_fl RX3 82 7 1 := ⟨_, _, _, rfl, by decide, in_X7, (tw_inc tm_1 (i := 172) (by decide +kernel) (by decide +kernel))⟩
theorem fl_X4_10 : tw_fl RX4 10 4 1 := ⟨_, _, _, rfl, by decide, in_X4, (tw_inc tm_2 (i := 22) (by decide +kernel) (by decide +kernel))⟩
theorem fl_X4_16 : tw_fl RX4 16 4 2 := ⟨_, _, _, rfl, by decide, in_X4, (tw_inc tm_2 (i := 23) (by decide +kernel) (by decide +kernel))⟩
theorem fl_X4_20 : tw_fl RX4 20 4 3 := ⟨_, _, _, rfl, by decide, in_X4, (tw_inc tm_2 (i := 26) (by decide +kernel) (by decide +kernel))⟩
theorem fl_X4_23 : tw_fl RX4 23 4 4 := ⟨_, _, _, rfl, by decide, in_X4, (tw_inc tm_2 (i := 29) (by decide +kernel) (by decide +kernel))⟩
theorem fl_X4_26 : tw_fl RX4 26 4 5 := ⟨_, _, _, rfl, by decide, in_X4, (tw_inc tm_2 (i := 31) (by decide +kernel) (by decide +kernel))⟩
theorem fl_X4_29 : tw_fl RX4 29 4 0 := ⟨_, _, _, rfl, by decide, in_X4, (tw_inc tm_2 (i := 21) (by decide +kernel) (by decide +kernel))⟩
theorem fl_X4_43 : tw_fl RX4 43 10 0 := ⟨_, _, _, rfl, by decide, in_X10, (tw_inc tm_1 (i := 41) (by decide +kernel) (by decide +kernel))⟩
theorem fl_X4_57 : tw_fl RX4 57 10 2 := ⟨_, _, _, rfl, by decide, in_X10, (tw_inc tm_1 (i := 51) (by decide +kernel) (by decide +kernel))⟩
theorem fl_X4_60 : tw_fl RX4 60 2 5 := ⟨_, _, _, rfl, by decide, in_X2, (tw_inc tm_1 (i := 238) (by decide +kernel) (by decide +kernel))⟩
theorem fl_X4_77 : tw_fl RX4 77 7 0 := ⟨_, _, _, rfl, by decide, in_X7, (tw_inc tm_1 (i := 166) (by decide +kernel) (by decide +kernel))⟩
theorem fl_X4_80 : tw_fl RX4 80 7 1 := ⟨_, _, _, rfl, by decide, in_X7, (tw_inc tm_1 (i := 171) (by decide +kernel) (by decide +kernel))⟩
theorem fl_X4_83 : tw_fl RX4 83 10 5 := ⟨_, _, _, rfl, by decide, in_X10, (tw_inc tm_1 (i := 65) (by decide +kernel) (by decide +kernel))⟩
theorem fl_X5_12 : tw_fl RX5 12 5 2 := ⟨_, _, _, rfl, by decide, in_X5, (tw_inc tm_2 (i := 77) (by decide +kernel) (by decide +kernel))⟩
theorem fl_X5_18 : tw_fl RX5 18 5 3 := ⟨_, _, _, rfl, by decide, in_X5, (tw_inc tm_2 (i := 78) (by decide +kernel) (by decide +kernel))⟩
theorem fl_X5_22 : tw_fl RX5 22 5 4 := ⟨_, _, _, rfl, by decide, in_X5, (tw_inc tm_2 (i := 79) (by decide +kernel) (by decide +kernel))⟩
theorem fl_X5_25 : tw_fl RX5 25 5 5 := ⟨_, _, _, rfl, by decide, in_X5, (tw_inc tm_2 (i := 80) (by decide +kernel) (by decide +kernel))⟩
theorem fl_X5_29 : tw_fl RX5 29 5 6 := ⟨_, _, _, rfl, by decide, in_X5, (tw_inc tm_2 (i := 81) (by decide +kernel) (by decide +kernel))⟩
theorem fl_X5_33 : tw_fl RX5 33 5 7 := ⟨_, _, _, rfl, by decide, in_X5, (tw_inc tm_2 (i := 82) (by decide +kernel) (by decide +kernel))⟩
theorem fl_X5_36 : tw_fl RX5 36 5 8 := ⟨_, _, _, rfl, by decide, in_X5, (tw_inc tm_2 (i := 83) (by decide +kernel) (by decide +kernel))⟩
theorem fl_X5_39 : tw_fl RX5 39 5 9 := ⟨_, _, _, rfl, by decide, in_X5, (tw_inc tm_2 (i := 84) (by decide +kernel) (by decide +kernel))⟩
theorem fl_X5_42 : tw_fl RX5 42 5 10 := ⟨_, _, _, rfl, by decide, in_X5, (tw_inc tm_2 (i := 86) (by decide +kernel) (by decide +kernel))⟩
theorem fl_X5_45 : tw_fl RX5 45 5 11 := ⟨_, _, _, rfl, by decide, in_X5, (tw_inc tm_2 (i := 88) (by decide +kernel) (by decide +kernel))⟩
theorem fl_X5_48 : tw_fl RX5 48 5 12 := ⟨_, _, _, rfl, by decide, in_X5, (tw_inc tm_2 (i := 90) (by decide +kernel) (by decide +kernel))⟩
theorem fl_X5_51 : tw_fl RX5 51 5 13 := ⟨_, _, _, rfl, by decide, in_X5, (tw_inc tm_2 (i := 92) (by decide +kernel) (by decide +kernel))⟩
theorem fl_X5_54 : tw_fl RX5 54 5 0 := ⟨_, _, _, rfl, by decide, in_X5, (tw_inc tm_2 (i := 75) (by decide +kernel) (by decide +kernel))⟩
theorem fl_X5_58 : tw_fl RX5 58 5 1 := ⟨_, _, _, rfl, by decide, in_X5, (tw_inc tm_2 (i := 76) (by decide +kernel) (by decide +kernel))⟩
theorem fl_X5_69 : tw_fl RX5 69 7 0 := ⟨_, _, _, rfl, by decide, in_X7, (tw_inc tm_1 (i := 164) (by decide +kernel) (by decide +kernel))⟩
theorem fl_X5_72 : tw_fl RX5 72 10 1 := ⟨_, _, _, rfl, by decide, in_X10, (tw_inc tm_1 (i := 48) (by decide +kernel) (by decide +kernel))⟩
theorem fl_X5_81 : tw_fl RX5 81 10 3 := ⟨_, _, _, rfl, by decide, in_X10, (tw_inc tm_1 (i := 58) (by decide +kernel) (by decide +kernel))⟩
theorem fl_X5_93 : tw_fl RX5 93 4 3 := ⟨_, _, _, rfl, by decide, in_X4, (tw_inc tm_2 (i := 27) (by decide +kernel) (by decide +kernel))⟩
theorem fl_X5_96 : tw_fl RX5 96 4 2 := ⟨_, _, _, rfl, by decide, in_X4, (tw_inc tm_2 (i := 24) (by decide +kernel) (by decide +kernel))⟩
theorem fl_X6_9 : tw_fl RX6 9 6 1 := ⟨_, _, _, rfl, by decide, in_X6, (tw_inc tm_2 (i := 130) (by decide +kernel) (by decide +kernel))⟩
theorem fl_X6_15 : tw_fl RX6 15 6 2 := ⟨_, _, _, rfl, by decide, in_X6, (tw_inc tm_2 (i := 131) (by decide +kernel) (by decide +kernel))⟩
theorem fl_X6_19 : tw_fl RX6 19 6 3 := ⟨_, _, _, rfl, by decide, in_X6, (tw_inc tm_2 (i := 132) (by decide +kernel) (by decide +kernel))⟩
theorem fl_X6_22 : tw_fl RX6 22 6 4 := ⟨_, _, _, rfl, by decide, in_X6, (tw_inc tm_2 (i := 133) (by decide +kernel) (by decide +kernel))⟩
theorem fl_X6_25 : tw_fl RX6 25 6 5 := ⟨_, _, _, rfl, by decide, in_X6, (tw_inc tm_2 (i := 135) (by decide +kernel) (by decide +kernel))⟩
theorem fl_X6_28 : tw_fl RX6 28 6 6 := ⟨_, _, _, rfl, by decide, in_X6, (tw_inc tm_2 (i := 137) (by decide +kernel) (by decide +kernel))⟩
theorem fl_X6_32 : tw_fl RX6 32 6 7 := ⟨_, _, _, rfl, by decide, in_X6, (tw_inc tm_2 (i := 139) (by decide +kernel) (by decide +kernel))⟩
theorem fl_X6_35 : tw_fl RX6 35 6 0 := ⟨_, _, _, rfl, by decide, in_X6, (tw_inc tm_2 (i := 129) (by decide +kernel) (by decide +kernel))⟩
theorem fl_X6_58 : tw_fl RX6 58 10 0 := ⟨_, _, _, rfl, by decide, in_X10, (tw_inc tm_1 (i := 43) (by decide +kernel) (by decide +kernel))⟩
theorem fl_X6_68 : tw_fl RX6 68 10 2 := ⟨_, _, _, rfl, by decide, in_X10, (tw_inc tm_1 (i := 52) (by decide +kernel) (by decide +kernel))⟩
theorem fl_X7_9 : tw_fl RX7 9 7 0 := ⟨_, _, _, rfl, by decide, in_X7, (tw_inc tm_1 (i := 161) (by decide +kernel) (by decide +kernel))⟩
theorem fl_X7_15 : tw_fl RX7 15 7 1 := ⟨_, _, _, rfl, by decide, in_X7, (tw_inc tm_1 (i := 168) (by decide +kernel) (by decide +kernel))⟩
theorem fl_X7_19 : tw_fl RX7 19 7 2 := ⟨_, _, _, rfl, by decide, in_X7, (tw_inc tm_1 (i := 174) (by decide +kernel) (by decide +kernel))⟩
theorem fl_X7_22 : tw_fl RX7 22 7 3 := ⟨_, _, _, rfl, by decide, in_X7, (tw_inc tm_1 (i := 179) (by decide +kernel) (by decide +kernel))⟩
theorem fl_X7_29 : tw_fl RX7 29 10 6 := ⟨_, _, _, rfl, by decide, in_X10, (tw_inc tm_1 (i := 70) (by decide +kernel) (by decide +kernel))⟩
theorem fl_X8_9 : tw_fl RX8 9 8 0 := ⟨_, _, _, rfl, by decide, in_X8, (tw_inc tm_2 (i := 193) (by decide +kernel) (by decide +kernel))⟩
theorem fl_X8_15 : tw_fl RX8 15 8 1 := ⟨_, _, _, rfl, by decide, in_X8, (tw_inc tm_2 (i := 195) (by decide +kernel) (by decide +kernel))⟩
theorem fl_X8_19 : tw_fl RX8 19 8 2 := ⟨_, _, _, rfl, by decide, in_X8, (tw_inc tm_2 (i := 197) (by decide +kernel) (by decide +kernel))⟩
theorem fl_X8_23 : tw_fl RX8 23 8 3 := ⟨_, _, _, rfl, by decide, in_X8, (tw_inc tm_2 (i := 199) (by decide +kernel) (by decide +kernel))⟩
theorem fl_X9_9 : tw_fl RX9 9 9 0 := ⟨_, _, _, rfl, by decide, in_X9, (tw_inc tm_1 (i := 99) (by decide +kernel) (by decide +kernel))⟩
theorem fl_X9_15 : tw_fl RX9 15 9 1 := ⟨_, _, _, rfl, by decide, in_X9, (tw_inc tm_1 (i := 100) (by decide +kernel) (by decide +kernel))⟩
theorem fl_X9_19 : tw_fl RX9 19 9 2 := ⟨_, _, _, rfl, by decide, in_X9, (tw_inc tm_1 (i := 101) (by decide +kernel) (by decide +kernel))⟩
theorem fl_X9_25 : tw_fl RX9 25 9 9 := ⟨_, _, _, rfl, by decide, in_X9, (tw_inc tm_1 (i := 108) (by decide +kernel) (by decide +kernel))⟩
theorem fl_X9_29 : tw_fl RX9 29 9 10 := ⟨_, _, _, rfl, by decide, in_X9, (tw_inc tm_1 (i := 110) (by decide +kernel) (by decide +kernel))⟩
theorem fl_X9_33 : tw_fl RX9 33 9 11 := ⟨_, _, _, rfl, by decide, in_X9, (tw_inc tm_1 (i := 112) (by decide +kernel) (by decide +kernel))⟩
theorem fl_X9_36 : tw_fl RX9 36 9 12 := ⟨_, _, _, rfl, by decide, in_X9, (tw_inc tm_1 (i := 114) (by decide +kernel) (by decide +kernel))⟩
theorem fl_X9_39 : tw_fl RX9 39 9 13 := ⟨_, _, _, rfl, by decide, in_X9, (tw_inc tm_1 (i := 116) (by decide +kernel) (by decide +kernel))⟩
theorem fl_X9_48 : tw_fl RX9 48 9 6 := ⟨_, _, _, rfl, by decide, in_X9, (tw_inc tm_1 (i := 105) (by decide +kernel) (by decide +kernel))⟩
theorem fl_X9_54 : tw_fl RX9 54 9 4 := ⟨_, _, _, rfl, by decide, in_X9, (tw_inc tm_1 (i := 103) (by decide +kernel) (by decide +kernel))⟩
theorem fl_X9_66 : tw_fl RX9 66 9 3 := ⟨_, _, _, rfl, by decide, in_X9, (tw_inc tm_1 (i := 102) (by decide +kernel) (by decide +kernel))⟩
theorem fl_X9_69 : tw_fl RX9 69 9 5 := ⟨_, _, _, rfl, by decide, in_X9, (tw_inc tm_1 (i := 104) (by decide +kernel) (by decide +kernel))⟩
theorem fl_X9_76 : tw_fl RX9 76 9 7 := ⟨_, _, _, rfl, by decide, in_X9, (tw_inc tm_1 (i := 106) (by decide +kernel) (by decide +kernel))⟩
theorem fl_X9_95 : tw_fl RX9 95 9 8 := ⟨_, _, _, rfl, by decide, in_X9, (tw_inc tm_1 (i := 107) (by decide +kernel) (by decide +kernel))⟩
theorem fl_X9_161 : tw_fl RX9 161 10 2 := ⟨_, _, _, rfl, by decide, in_X10, (tw_inc tm_1 (i := 55) (by decide +kernel) (by decide +kernel))⟩
theorem fl_X9_171 : tw_fl RX9 171 10 4 := ⟨_, _, _, rfl, by decide, in_X10, (tw_inc tm_1 (i := 63) (by decide +kernel) (by decide +kernel))⟩
theorem fl_X9_173 : tw_fl RX9 173 10 5 := ⟨_, _, _, rfl, by decide, in_X10, (tw_inc tm_1 (i := 67) (by decide +kernel) (by decide +kernel))⟩
theorem fl_X9_175 : tw_fl RX9 175 10 3 := ⟨_, _, _, rfl, by decide, in_X10, (tw_inc tm_1 (i := 60) (by decide +kernel) (by decide +kernel))⟩
theorem fl_X9_177 : tw_fl RX9 177 10 6 := ⟨_, _, _, rfl, by decide, in_X10, (tw_inc tm_1 (i := 71) (by decide +kernel) (by decide +kernel))⟩
theorem fl_X9_179 : tw_fl RX9 179 10 1 := ⟨_, _, _, rfl, by decide, in_X10, (tw_inc tm_1 (i := 49) (by decide +kernel) (by decide +kernel))⟩
theorem fl_X9_181 : tw_fl RX9 181 10 0 := ⟨_, _, _, rfl, by decide, in_X10, (tw_inc tm_1 (i := 45) (by decide +kernel) (by decide +kernel))⟩
theorem fl_X10_11 : tw_fl RX10 11 10 0 := ⟨_, _, _, rfl, by decide, in_X10, (tw_inc tm_1 (i := 39) (by decide +kernel) (by decide +kernel))⟩
theorem fl_X10_15 : tw_fl RX10 15 10 1 := ⟨_, _, _, rfl, by decide, in_X10, (tw_inc tm_1 (i := 46) (by decide +kernel) (by decide +kernel))⟩
theorem fl_X10_18 : tw_fl RX10 18 10 2 := ⟨_, _, _, rfl, by decide, in_X10, (tw_inc tm_1 (i := 50) (by decide +kernel) (by decide +kernel))⟩
theorem fl_X10_21 : tw_fl RX10 21 10 3 := ⟨_, _, _, rfl, by decide, in_X10, (tw_inc tm_1 (i := 56) (by decide +kernel) (by decide +kernel))⟩
theorem fl_X10_24 : tw_fl RX10 24 10 4 := ⟨_, _, _, rfl, by decide, in_X10, (tw_inc tm_1 (i := 61) (by decide +kernel) (by decide +kernel))⟩
theorem fl_X10_27 : tw_fl RX10 27 10 5 := ⟨_, _, _, rfl, by decide, in_X10, (tw_inc tm_1 (i := 64) (by decide +kernel) (by decide +kernel))⟩
theorem fl_X10_30 : tw_fl RX10 30 10 6 := ⟨_, _, _, rfl, by decide, in_X10, (tw_inc tm_1 (i := 68) (by decide +kernel) (by decide +kernel))⟩
theorem fl_X10_33 : tw_fl RX10 33 10 7 := ⟨_, _, _, rfl, by decide, in_X10, (tw_inc tm_1 (i := 72) (by decide +kernel) (by decide +kernel))⟩
theorem fl_X12_7 : tw_fl RX12 7 12 0 := ⟨_, _, _, rfl, by decide, in_X12, (tw_inc tm_6 (i := 9) (by decide +kernel) (by decide +kernel))⟩
theorem fl_X12_13 : tw_fl RX12 13 12 1 := ⟨_, _, _, rfl, by decide, in_X12, (tw_inc tm_6 (i := 10) (by decide +kernel) (by decide +kernel))⟩
theorem fl_X12_17 : tw_fl RX12 17 12 2 := ⟨_, _, _, rfl, by decide, in_X12, (tw_inc tm_6 (i := 11) (by decide +kernel) (by decide +kernel))⟩
theorem fl_X12_20 : tw_fl RX12 20 12 3 := ⟨_, _, _, rfl, by decide, in_X12, (tw_inc tm_6 (i := 12) (by decide +kernel) (by decide +kernel))⟩
theorem fl_X12_23 : tw_fl RX12 23 12 4 := ⟨_, _, _, rfl, by decide, in_X12, (tw_inc tm_6 (i := 13) (by decide +kernel) (by decide +kernel))⟩
theorem fl_X12_26 : tw_fl RX12 26 12 5 := ⟨_, _, _, rfl, by decide, in_X12, (tw_inc tm_6 (i := 14) (by decide +kernel) (by decide +kernel))⟩
theorem fl_X12_29 : tw_fl RX12 29 12 6 := ⟨_, _, _, rfl, by decide, in_X12, (tw_inc tm_6 (i := 15) (by decide +kernel) (by decide +kernel))⟩
theorem fl_X12_32 : tw_fl RX12 32 12 7 := ⟨_, _, _, rfl, by decide, in_X12, (tw_inc tm_6 (i := 16) (by decide +kernel) (by decide +kernel))⟩
theorem fl_X12_35 : tw_fl RX12 35 12 8 := ⟨_, _, _, rfl, by decide, in_X12, (tw_inc tm_6 (i := 17) (by decide +kernel) (by decide +kernel))⟩
theorem fl_X12_38 : tw_fl RX12 38 12 11 := ⟨_, _, _, rfl, by decide, in_X12, (tw_inc tm_6 (i := 20) (by decide +kernel) (by decide +kernel))⟩
theorem fl_X12_41 : tw_fl RX12 41 12 28 := ⟨_, _, _, rfl, by decide, in_X12, (tw_inc tm_6 (i := 37) (by decide +kernel) (by decide +kernel))⟩
theorem fl_X12_44 : tw_fl RX12 44 12 29 := ⟨_, _, _, rfl, by decide, in_X12, (tw_inc tm_6 (i := 38) (by decide +kernel) (by decide +kernel))⟩
theorem fl_X12_47 : tw_fl RX12 47 12 31 := ⟨_, _, _, rfl, by decide, in_X12, (tw_inc tm_6 (i := 40) (by decide +kernel) (by decide +kernel))⟩
theorem fl_X12_50 : tw_fl RX12 50 12 32 := ⟨_, _, _, rfl, by decide, in_X12, (tw_inc tm_6 (i := 41) (by decide +kernel) (by decide +kernel))⟩
theorem fl_X12_53 : tw_fl RX12 53 12 33 := ⟨_, _, _, rfl, by decide, in_X12, (tw_inc tm_6 (i := 42) (by decide +kernel) (by decide +kernel))⟩
theorem fl_X12_56 : tw_fl RX12 56 12 35 := ⟨_, _, _, rfl, by decide, in_X12, (tw_inc tm_6 (i := 44) (by decide +kernel) (by decide +kernel))⟩
theorem fl_X12_59 : tw_fl RX12 59 12 36 := ⟨_, _, _, rfl, by decide, in_X12, (tw_inc tm_6 (i := 45) (by decide +kernel) (by decide +kernel))⟩
theorem fl_X12_62 : tw_fl RX12 62 12 37 := ⟨_, _, _, rfl, by decide, in_X12, (tw_inc tm_6 (i := 46) (by decide +kernel) (by decide +kernel))⟩
theorem fl_X12_71 : tw_fl RX12 71 12 9 := ⟨_, _, _, rfl, by decide, in_X12, (tw_inc tm_6 (i := 18) (by decide +kernel) (by decide +kernel))⟩
theorem fl_X12_75 : tw_fl RX12 75 12 10 := ⟨_, _, _, rfl, by decide, in_X12, (tw_inc tm_6 (i := 19) (by decide +kernel) (by decide +kernel))⟩
theorem fl_X12_86 : tw_fl RX12 86 12 12 := ⟨_, _, _, rfl, by decide, in_X12, (tw_inc tm_6 (i := 21) (by decide +kernel) (by decide +kernel))⟩
theorem fl_X12_91 : tw_fl RX12 91 12 17 := ⟨_, _, _, rfl, by decide, in_X12, (tw_inc tm_6 (i := 26) (by decide +kernel) (by decide +kernel))⟩
theorem fl_X12_94 : tw_fl RX12 94 12 14 := ⟨_, _, _, rfl, by decide, in_X12, (tw_inc tm_6 (i := 23) (by decide +kernel) (by decide +kernel))⟩
theorem fl_X12_97 : tw_fl RX12 97 12 18 := ⟨_, _, _, rfl, by decide, in_X12, (tw_inc tm_6 (i := 27) (by decide +kernel) (by decide +kernel))⟩
theorem fl_X12_100 : tw_fl RX12 100 12 13 := ⟨_, _, _, rfl, by decide, in_X12, (tw_inc tm_6 (i := 22) (by decide +kernel) (by decide +kernel))⟩
theorem fl_X12_115 : tw_fl RX12 115 12 15 := ⟨_, _, _, rfl, by decide, in_X12, (tw_inc tm_6 (i := 24) (by decide +kernel) (by decide +kernel))⟩
theorem fl_X12_126 : tw_fl RX12 126 12 16 := ⟨_, _, _, rfl, by decide, in_X12, (tw_inc tm_6 (i := 25) (by decide +kernel) (by decide +kernel))⟩
theorem fl_X12_220 : tw_fl RX12 220 12 19 := ⟨_, _, _, rfl, by decide, in_X12, (tw_inc tm_6 (i := 28) (by decide +kernel) (by decide +kernel))⟩
theorem fl_X12_223 : tw_fl RX12 223 12 23 := ⟨_, _, _, rfl, by decide, in_X12, (tw_inc tm_6 (i := 32) (by decide +kernel) (by decide +kernel))⟩
theorem fl_X12_226 : tw_fl RX12 226 12 20 := ⟨_, _, _, rfl, by decide, in_X12, (tw_inc tm_6 (i := 29) (by decide +kernel) (by decide +kernel))⟩
theorem fl_X12_229 : tw_fl RX12 229 12 21 := ⟨_, _, _, rfl, by decide, in_X12, (tw_inc tm_6 (i := 30) (by decide +kernel) (by decide +kernel))⟩
theorem fl_X12_232 : tw_fl RX12 232 12 22 := ⟨_, _, _, rfl, by decide, in_X12, (tw_inc tm_6 (i := 31) (by decide +kernel) (by decide +kernel))⟩
theorem fl_X12_271 : tw_fl RX12 271 12 24 := ⟨_, _, _, rfl, by decide, in_X12, (tw_inc tm_6 (i := 33) (by decide +kernel) (by decide +kernel))⟩
theorem fl_X12_274 : tw_fl RX12 274 12 25 := ⟨_, _, _, rfl, by decide, in_X12, (tw_inc tm_6 (i := 34) (by decide +kernel) (by decide +kernel))⟩
theorem fl_X12_292 : tw_fl RX12 292 12 26 := ⟨_, _, _, rfl, by decide, in_X12, (tw_inc tm_6 (i := 35) (by decide +kernel) (by decide +kernel))⟩
theorem fl_X12_295 : tw_fl RX12 295 12 27 := ⟨_, _, _, rfl, by decide, in_X12, (tw_inc tm_6 (i := 36) (by decide +kernel) (by decide +kernel))⟩
theorem fl_X12_326 : tw_fl RX12 326 12 30 := ⟨_, _, _, rfl, by decide, in_X12, (tw_inc tm_6 (i := 39) (by decide +kernel) (by decide +kernel))⟩
theorem fl_X12_363 : tw_fl RX12 363 12 34 := ⟨_, _, _, rfl, by decide, in_X12, (tw_inc tm_6 (i := 43) (by decide +kernel) (by decide +kernel))⟩
theorem fl_X12_383 : tw_fl RX12 383 12 38 := ⟨_, _, _, rfl, by decide, in_X12, (tw_inc tm_6 (i := 47) (by decide +kernel) (by decide +kernel))⟩
theorem fp_X0_1 : tw_fp 0 1 .boolean := ⟨_, _, _, tyX0, rfl, tyX0_ok, nmX0, rfl, rfl⟩
theorem fp_X0_4 : tw_fp 0 4 .int := ⟨_, _, _, tyX0, rfl, tyX0_ok, nmX0, rfl, rfl⟩
theorem fp_X0_5 : tw_fp 0 5 .boolean := ⟨_, _, _, tyX0, rfl, tyX0_ok, nmX0, rfl, rfl⟩
theorem fp_X1_2 : tw_fp 1 2 .long := ⟨_, _, _, tyX1, rfl, tyX1_ok, nmX1, rfl, rfl⟩
theorem fp_X1_3 : tw_fp 1 3 .long := ⟨_, _, _, tyX1, rfl, tyX1_ok, nmX1, rfl, rfl⟩
theorem fp_X2_0 : tw_fp 2 0 .int := ⟨_, _, _, tyX2, rfl, tyX2_ok, nmX2, rfl, rfl⟩
theorem fp_X2_1 : tw_fp 2 1 .int := ⟨_, _, _, tyX2, rfl, tyX2_ok, nmX2, rfl, rfl⟩
theorem fp_X2_2 : tw_fp 2 2 .int := ⟨_, _, _, tyX2, rfl, tyX2_ok, nmX2, rfl, rfl⟩
theorem fp_X2_3 : tw_fp 2 3 .int := ⟨_, _, _, tyX2, rfl, tyX2_ok, nmX2, rfl, rfl⟩
theorem fp_X2_4 : tw_fp 2 4 .int := ⟨_, _, _, tyX2, rfl, tyX2_ok, nmX2, rfl, rfl⟩
theorem fp_X2_5 : tw_fp 2 5 .int := ⟨_, _, _, tyX2, rfl, tyX2_ok, nmX2, rfl, rfl⟩
theorem fp_X3_4 : tw_fp 3 4 .int := ⟨_, _, _, tyX3, rfl, tyX3_ok, nmX3, rfl, rfl⟩
theorem fp_X3_5 : tw_fp 3 5 .int := ⟨_, _, _, tyX3, rfl, tyX3_ok, nmX3, rfl, rfl⟩
theorem fp_X3_6 : tw_fp 3 6 .boolean := ⟨_, _, _, tyX3, rfl, tyX3_ok, nmX3, rfl, rfl⟩
theorem fp_X4_2 : tw_fp 4 2 .int := ⟨_, _, _, tyX4, rfl, tyX4_ok, nmX4, rfl, rfl⟩
theorem fp_X4_3 : tw_fp 4 3 .int := ⟨_, _, _, tyX4, rfl, tyX4_ok, nmX4, rfl, rfl⟩
theorem fp_X4_4 : tw_fp 4 4 .int := ⟨_, _, _, tyX4, rfl, tyX4_ok, nmX4, rfl, rfl⟩
theorem fp_X4_5 : tw_fp 4 5 .int := ⟨_, _, _, tyX4, rfl, tyX4_ok, nmX4, rfl, rfl⟩
theorem fp_X5_5 : tw_fp 5 5 .int := ⟨_, _, _, tyX5, rfl, tyX5_ok, nmX5, rfl, rfl⟩
theorem fp_X5_6 : tw_fp 5 6 .boolean := ⟨_, _, _, tyX5, rfl, tyX5_ok, nmX5, rfl, rfl⟩
theorem fp_X5_7 : tw_fp 5 7 .boolean := ⟨_, _, _, tyX5, rfl, tyX5_ok, nmX5, rfl, rfl⟩
theorem fp_X5_8 : tw_fp 5 8 .int := ⟨_, _, _, tyX5, rfl, tyX5_ok, nmX5, rfl, rfl⟩
theorem fp_X5_10 : tw_fp 5 10 .boolean := ⟨_, _, _, tyX5, rfl, tyX5_ok, nmX5, rfl, rfl⟩
theorem fp_X5_11 : tw_fp 5 11 .int := ⟨_, _, _, tyX5, rfl, tyX5_ok, nmX5, rfl, rfl⟩
theorem fp_X5_12 : tw_fp 5 12 .int := ⟨_, _, _, tyX5, rfl, tyX5_ok, nmX5, rfl, rfl⟩
theorem fp_X5_13 : tw_fp 5 13 .int := ⟨_, _, _, tyX5, rfl, tyX5_ok, nmX5, rfl, rfl⟩
theorem fp_X6_1 : tw_fp 6 1 .boolean := ⟨_, _, _, tyX6, rfl, tyX6_ok, nmX6, rfl, rfl⟩
theorem fp_X6_6 : tw_fp 6 6 .int := ⟨_, _, _, tyX6, rfl, tyX6_ok, nmX6, rfl, rfl⟩
theorem fp_X6_7 : tw_fp 6 7 .int := ⟨_, _, _, tyX6, rfl, tyX6_ok, nmX6, rfl, rfl⟩
theorem fp_X7_0 : tw_fp 7 0 .int := ⟨_, _, _, tyX7, rfl, tyX7_ok, nmX7, rfl, rfl⟩
theorem fp_X8_1 : tw_fp 8 1 .boolean := ⟨_, _, _, tyX8, rfl, tyX8_ok, nmX8, rfl, rfl⟩
theorem fp_X8_2 : tw_fp 8 2 .int := ⟨_, _, _, tyX8, rfl, tyX8_ok, nmX8, rfl, rfl⟩
theorem fp_X8_3 : tw_fp 8 3 .int := ⟨_, _, _, tyX8, rfl, tyX8_ok, nmX8, rfl, rfl⟩
theorem fp_X9_3 : tw_fp 9 3 .int := ⟨_, _, _, tyX9, rfl, tyX9_ok, nmX9, rfl, rfl⟩
theorem fp_X9_4 : tw_fp 9 4 .int := ⟨_, _, _, tyX9, rfl, tyX9_ok, nmX9, rfl, rfl⟩
theorem fp_X9_5 : tw_fp 9 5 .int := ⟨_, _, _, tyX9, rfl, tyX9_ok, nmX9, rfl, rfl⟩
theorem fp_X9_6 : tw_fp 9 6 .int := ⟨_, _, _, tyX9, rfl, tyX9_ok, nmX9, rfl, rfl⟩
theorem fp_X9_7 : tw_fp 9 7 .int := ⟨_, _, _, tyX9, rfl, tyX9_ok, nmX9, rfl, rfl⟩
theorem fp_X9_8 : tw_fp 9 8 .int := ⟨_, _, _, tyX9, rfl, tyX9_ok, nmX9, rfl, rfl⟩
theorem fp_X9_10 : tw_fp 9 10 .int := ⟨_, _, _, tyX9, rfl, tyX9_ok, nmX9, rfl, rfl⟩
theorem fp_X9_11 : tw_fp 9 11 .int := ⟨_, _, _, tyX9, rfl, tyX9_ok, nmX9, rfl, rfl⟩
theorem fp_X9_12 : tw_fp 9 12 .int := ⟨_, _, _, tyX9, rfl, tyX9_ok, nmX9, rfl, rfl⟩
theorem fp_X9_13 : tw_fp 9 13 .int := ⟨_, _, _, tyX9, rfl, tyX9_ok, nmX9, rfl, rfl⟩
theorem fp_X11_13 : tw_fp 11 13 .int := ⟨_, _, _, tyX11, rfl, tyX11_ok, nmX11, rfl, rfl⟩
theorem fp_X11_14 : tw_fp 11 14 .int := ⟨_, _, _, tyX11, rfl, tyX11_ok, nmX11, rfl, rfl⟩
theorem fp_X12_9 : tw_fp 12 9 .int := ⟨_, _, _, tyX12, rfl, tyX12_ok, nmX12, rfl, rfl⟩
theorem fp_X12_10 : tw_fp 12 10 .int := ⟨_, _, _, tyX12, rfl, tyX12_ok, nmX12, rfl, rfl⟩
theorem fp_X12_12 : tw_fp 12 12 .int := ⟨_, _, _, tyX12, rfl, tyX12_ok, nmX12, rfl, rfl⟩
theorem fp_X12_13 : tw_fp 12 13 .int := ⟨_, _, _, tyX12, rfl, tyX12_ok, nmX12, rfl, rfl⟩
theorem fp_X12_14 : tw_fp 12 14 .int := ⟨_, _, _, tyX12, rfl, tyX12_ok, nmX12, rfl, rfl⟩
theorem fp_X12_15 : tw_fp 12 15 .int := ⟨_, _, _, tyX12, rfl, tyX12_ok, nmX12, rfl, rfl⟩
theorem fp_X12_16 : tw_fp 12 16 .int := ⟨_, _, _, tyX12, rfl, tyX12_ok, nmX12, rfl, rfl⟩
theorem fp_X12_17 : tw_fp 12 17 .int := ⟨_, _, _, tyX12, rfl, tyX12_ok, nmX12, rfl, rfl⟩
theorem fp_X12_18 : tw_fp 12 18 .int := ⟨_, _, _, tyX12, rfl, tyX12_ok, nmX12, rfl, rfl⟩
theorem fp_X12_19 : tw_fp 12 19 .int := ⟨_, _, _, tyX12, rfl, tyX12_ok, nmX12, rfl, rfl⟩
theorem fp_X12_20 : tw_fp 12 20 .int := ⟨_, _, _, tyX12, rfl, tyX12_ok, nmX12, rfl, rfl⟩
theorem fp_X12_21 : tw_fp 12 21 .int := ⟨_, _, _, tyX12, rfl, tyX12_ok, nmX12, rfl, rfl⟩
theorem fp_X12_22 : tw_fp 12 22 .int := ⟨_, _, _, tyX12, rfl, tyX12_ok, nmX12, rfl, rfl⟩
theorem fp_X12_23 : tw_fp 12 23 .int := ⟨_, _, _, tyX12, rfl, tyX12_ok, nmX12, rfl, rfl⟩
theorem fp_X12_24 : tw_fp 12 24 .int := ⟨_, _, _, tyX12, rfl, tyX12_ok, nmX12, rfl, rfl⟩
theorem fp_X12_25 : tw_fp 12 25 .int := ⟨_, _, _, tyX12, rfl, tyX12_ok, nmX12, rfl, rfl⟩
theorem fp_X12_26 : tw_fp 12 26 .int := ⟨_, _, _, tyX12, rfl, tyX12_ok, nmX12, rfl, rfl⟩
theorem fp_X12_27 : tw_fp 12 27 .int := ⟨_, _, _, tyX12, rfl, tyX12_ok, nmX12, rfl, rfl⟩
theorem fp_X12_30 : tw_fp 12 30 .int := ⟨_, _, _, tyX12, rfl, tyX12_ok, nmX12, rfl, rfl⟩
theorem fp_X12_34 : tw_fp 12 34 .int := ⟨_, _, _, tyX12, rfl, tyX12_ok, nmX12, rfl, rfl⟩
theorem fp_X12_38 : tw_fp 12 38 .int := ⟨_, _, _, tyX12, rfl, tyX12_ok, nmX12, rfl, rfl⟩
theorem mv_X11_99 : tw_cV RX11 99 yX3_begin cX3_begin 3 none 1 := ⟨(tw_all [(2, 210), (2, 211), (2, 212), (1, 4), (2, 213)] (by decide +kernel) (by decide)), rfl, by decide +kernel, by decide +kernel, by decide +kernel⟩
theorem mv_X11_102 : tw_cV RX11 102 yX9_append cX9_append 4 (some .boolean) 1 := ⟨(tw_all [(3, 24), (3, 25), (3, 26), (1, 3), (3, 27)] (by decide +kernel) (by decide)), rfl, by decide +kernel, by decide +kernel, by decide +kernel⟩
theorem mv_X11_109 : tw_cV RX11 109 yX9_readAll cX9_readAll 2 none 0 := ⟨(tw_all [(3, 36), (3, 37), (3, 38), (1, 3), (3, 39)] (by decide +kernel) (by decide)), rfl, by decide +kernel, by decide +kernel, by decide +kernel⟩
theorem mv_X11_121 : tw_cV RX11 121 yX10_copyOf cX10_copyOf 4 none 1 := ⟨(tw_all [(3, 188), (3, 189), (3, 190), (1, 2), (3, 191)] (by decide +kernel) (by decide)), rfl, by decide +kernel, by decide +kernel, by decide +kernel⟩
theorem mv_X11_128 : tw_cV RX11 128 yX5_forget cX5_forget 1 none 0 := ⟨(tw_all [(3, 192), (3, 193), (3, 194), (1, 9), (3, 195)] (by decide +kernel) (by decide)), rfl, by decide +kernel, by decide +kernel, by decide +kernel⟩
theorem mv_X11_131 : tw_cV RX11 131 yX6_forget cX6_forget 1 none 0 := ⟨(tw_all [(3, 196), (3, 197), (3, 198), (1, 10), (3, 199)] (by decide +kernel) (by decide)), rfl, by decide +kernel, by decide +kernel, by decide +kernel⟩
theorem mv_X11_132 : tw_cV RX11 132 yX0_forget cX0_forget 1 none 0 := ⟨(tw_all [(3, 200), (3, 201), (3, 202), (1, 11), (3, 203)] (by decide +kernel) (by decide)), rfl, by decide +kernel, by decide +kernel, by decide +kernel⟩
theorem mv_X11_149 : tw_cV RX11 149 yX10_isFoot cX10_isFoot 2 (some .boolean) 1 := ⟨(tw_all [(3, 216), (3, 217), (3, 218), (1, 2), (3, 219)] (by decide +kernel) (by decide)), rfl, by decide +kernel, by decide +kernel, by decide +kernel⟩
theorem mv_X11_172 : tw_cV RX11 172 yX7_at cX7_at 3 (some .int) 1 := ⟨(tw_all [(3, 220), (3, 221), (3, 222), (1, 5), (3, 223)] (by decide +kernel) (by decide)), rfl, by decide +kernel, by decide +kernel, by decide +kernel⟩
theorem mv_X11_178 : tw_cV RX11 178 yX3_place cX3_place 5 (some .int) 3 := ⟨(tw_all [(3, 228), (3, 229), (3, 230), (1, 4), (3, 231)] (by decide +kernel) (by decide)), rfl, by decide +kernel, by decide +kernel, by decide +kernel⟩
theorem mv_X11_181 : tw_cV RX11 181 yX3_takeOut cX3_takeOut 3 (some .int) 1 := ⟨(tw_all [(4, 5), (4, 6), (4, 7), (1, 4), (4, 8)] (by decide +kernel) (by decide)), rfl, by decide +kernel, by decide +kernel, by decide +kernel⟩
theorem mv_X11_196 : tw_cV RX11 196 yX3_chance cX3_chance 3 (some .int) 2 := ⟨(tw_all [(4, 21), (4, 22), (4, 23), (1, 4), (4, 24)] (by decide +kernel) (by decide)), rfl, by decide +kernel, by decide +kernel, by decide +kernel⟩
theorem mv_X11_200 : tw_cV RX11 200 yX7_isLifted cX7_isLifted 6 (some .boolean) 2 := ⟨(tw_all [(4, 25), (4, 26), (4, 27), (1, 5), (4, 28)] (by decide +kernel) (by decide)), rfl, by decide +kernel, by decide +kernel, by decide +kernel⟩
theorem mv_X11_204 : tw_cV RX11 204 yX7_counted cX7_counted 3 (some .int) 2 := ⟨(tw_all [(4, 34), (4, 35), (4, 36), (1, 5), (4, 37)] (by decide +kernel) (by decide)), rfl, by decide +kernel, by decide +kernel, by decide +kernel⟩
theorem mv_X11_207 : tw_cV RX11 207 yX3_takeAll cX3_takeAll 3 (some .int) 0 := ⟨(tw_all [(4, 47), (4, 48), (4, 49), (1, 4), (4, 50)] (by decide +kernel) (by decide)), rfl, by decide +kernel, by decide +kernel, by decide +kernel⟩
theorem mv_X11_211 : tw_cV RX11 211 yX7_has cX7_has 2 (some .boolean) 1 := ⟨(tw_all [(4, 56), (4, 57), (4, 58), (1, 5), (4, 59)] (by decide +kernel) (by decide)), rfl, by decide +kernel, by decide +kernel, by decide +kernel⟩
theorem mv_X11_214 : tw_cV RX11 214 yX2_from cX2_from 8 none 4 := ⟨(tw_all [(4, 64), (4, 65), (4, 66), (1, 6), (4, 67)] (by decide +kernel) (by decide)), rfl, by decide +kernel, by decide +kernel, by decide +kernel⟩
theorem mm_X11_221 : tw_cM RX11 221 Lib.Math.max.name Lib.Math.max.code 2 := (tw_all [(4, 88), (3, 154), (1, 18), (3, 155)] (by decide +kernel) (by decide))
theorem ms_X11_242 : tw_cS RX11 242 yX11_isPart cX11_isPart 1 (some .boolean) 1 := ⟨(tw_all [(4, 93), (4, 94), (1, 1), (4, 95)] (by decide +kernel) (by decide)), by decide +kernel, by decide +kernel, by decide +kernel⟩
theorem mv_X11_247 : tw_cV RX11 247 yX1_spread cX1_spread 14 none 3 := ⟨(tw_all [(4, 97), (4, 98), (4, 99), (1, 8), (4, 100)] (by decide +kernel) (by decide)), rfl, by decide +kernel, by decide +kernel, by decide +kernel⟩
theorem mv_X11_251 : tw_cV RX11 251 yX1_part cX1_part 2 (some .long) 1 := ⟨(tw_all [(4, 114), (4, 115), (4, 116), (1, 8), (4, 117)] (by decide +kernel) (by decide)), rfl, by decide +kernel, by decide +kernel, by decide +kernel⟩
theorem mv_X11_255 : tw_cV RX11 255 yX7_all cX7_all 1 (some .int) 0 := ⟨(tw_all [(4, 126), (4, 61), (4, 62), (1, 5), (4, 63)] (by decide +kernel) (by decide)), rfl, by decide +kernel, by decide +kernel, by decide +kernel⟩
theorem mv_X11_258 : tw_cV RX11 258 yX4_riskOf cX4_riskOf 3 (some .int) 2 := ⟨(tw_all [(4, 127), (4, 128), (4, 129), (1, 7), (4, 130)] (by decide +kernel) (by decide)), rfl, by decide +kernel, by decide +kernel, by decide +kernel⟩
theorem mv_X11_262 : tw_cV RX11 262 yX4_climbAll cX4_climbAll 2 none 1 := ⟨(tw_all [(4, 138), (4, 139), (4, 140), (1, 7), (4, 141)] (by decide +kernel) (by decide)), rfl, by decide +kernel, by decide +kernel, by decide +kernel⟩
theorem mv_X11_272 : tw_cV RX11 272 yX4_findWorst cX4_findWorst 3 none 1 := ⟨(tw_all [(4, 154), (4, 155), (4, 156), (1, 7), (4, 157)] (by decide +kernel) (by decide)), rfl, by decide +kernel, by decide +kernel, by decide +kernel⟩
theorem mv_X11_281 : tw_cV RX11 281 yX5_findPlan cX5_findPlan 1 none 0 := ⟨(tw_all [(4, 167), (4, 168), (4, 169), (1, 9), (4, 170)] (by decide +kernel) (by decide)), rfl, by decide +kernel, by decide +kernel, by decide +kernel⟩
theorem ms_X11_290 : tw_cS RX11 290 yX11_isOf cX11_isOf 3 (some .boolean) 3 := ⟨(tw_all [(4, 198), (4, 199), (1, 1), (4, 200)] (by decide +kernel) (by decide)), by decide +kernel, by decide +kernel, by decide +kernel⟩
theorem mv_X11_297 : tw_cV RX11 297 yX5_follow cX5_follow 6 none 1 := ⟨(tw_all [(4, 205), (4, 206), (4, 207), (1, 9), (4, 208)] (by decide +kernel) (by decide)), rfl, by decide +kernel, by decide +kernel, by decide +kernel⟩
theorem mv_X11_301 : tw_cV RX11 301 yX5_ruleRisk cX5_ruleRisk 1 (some .int) 0 := ⟨(tw_all [(4, 209), (4, 210), (4, 211), (1, 9), (4, 212)] (by decide +kernel) (by decide)), rfl, by decide +kernel, by decide +kernel, by decide +kernel⟩
theorem mv_X11_304 : tw_cV RX11 304 yX5_ruleSize cX5_ruleSize 1 (some .int) 0 := ⟨(tw_all [(4, 214), (4, 215), (4, 216), (1, 9), (4, 217)] (by decide +kernel) (by decide)), rfl, by decide +kernel, by decide +kernel, by decide +kernel⟩
theorem mv_X11_307 : tw_cV RX11 307 yX5_ruleIsTooMuch cX5_ruleIsTooMuch 1 (some .boolean) 0 := ⟨(tw_all [(4, 218), (4, 219), (4, 220), (1, 9), (4, 221)] (by decide +kernel) (by decide)), rfl, by decide +kernel, by decide +kernel, by decide +kernel⟩
theorem mv_X11_311 : tw_cV RX11 311 yX5_findBest cX5_findBest 3 none 0 := ⟨(tw_all [(4, 227), (4, 228), (4, 229), (1, 9), (4, 230)] (by decide +kernel) (by decide)), rfl, by decide +kernel, by decide +kernel, by decide +kernel⟩
theorem mv_X11_320 : tw_cV RX11 320 yX7_dragOf cX7_dragOf 4 (some .int) 1 := ⟨(tw_all [(5, 3), (5, 4), (5, 5), (1, 5), (5, 6)] (by decide +kernel) (by decide)), rfl, by decide +kernel, by decide +kernel, by decide +kernel⟩
theorem mv_X11_324 : tw_cV RX11 324 yX7_liftedOf cX7_liftedOf 4 (some .int) 1 := ⟨(tw_all [(5, 8), (5, 9), (5, 10), (1, 5), (5, 11)] (by decide +kernel) (by decide)), rfl, by decide +kernel, by decide +kernel, by decide +kernel⟩
theorem mv_X11_327 : tw_cV RX11 327 yX10_top cX10_top 1 (some .int) 0 := ⟨(tw_all [(5, 13), (3, 185), (3, 186), (1, 2), (3, 187)] (by decide +kernel) (by decide)), rfl, by decide +kernel, by decide +kernel, by decide +kernel⟩
theorem mv_X11_330 : tw_cV RX11 330 yX7_bestSlings cX7_bestSlings 9 (some .int) 2 := ⟨(tw_all [(5, 18), (5, 19), (5, 20), (1, 5), (5, 21)] (by decide +kernel) (by decide)), rfl, by decide +kernel, by decide +kernel, by decide +kernel⟩
theorem mv_X11_333 : tw_cV RX11 333 yX7_dragWith cX7_dragWith 5 (some .int) 2 := ⟨(tw_all [(5, 22), (5, 23), (5, 24), (1, 5), (5, 25)] (by decide +kernel) (by decide)), rfl, by decide +kernel, by decide +kernel, by decide +kernel⟩
theorem mv_X11_336 : tw_cV RX11 336 yX6_findPitches cX6_findPitches 4 none 0 := ⟨(tw_all [(5, 30), (5, 31), (5, 32), (1, 10), (5, 33)] (by decide +kernel) (by decide)), rfl, by decide +kernel, by decide +kernel, by decide +kernel⟩
theorem mv_X11_343 : tw_cV RX11 343 yX6_takeTurns cX6_takeTurns 7 none 2 := ⟨(tw_all [(5, 56), (5, 57), (5, 58), (1, 10), (5, 59)] (by decide +kernel) (by decide)), rfl, by decide +kernel, by decide +kernel, by decide +kernel⟩
theorem mv_X11_347 : tw_cV RX11 347 yX6_leadFreely cX6_leadFreely 6 none 2 := ⟨(tw_all [(5, 68), (5, 69), (5, 70), (1, 10), (5, 71)] (by decide +kernel) (by decide)), rfl, by decide +kernel, by decide +kernel, by decide +kernel⟩
theorem mv_X11_356 : tw_cV RX11 356 yX6_leftFrom cX6_leftFrom 3 (some .int) 1 := ⟨(tw_all [(5, 76), (5, 77), (5, 78), (1, 10), (5, 79)] (by decide +kernel) (by decide)), rfl, by decide +kernel, by decide +kernel, by decide +kernel⟩
theorem mv_X11_359 : tw_cV RX11 359 yX3_tries cX3_tries 1 (some .int) 0 := ⟨(tw_all [(5, 88), (5, 89), (5, 90), (1, 4), (5, 91)] (by decide +kernel) (by decide)), rfl, by decide +kernel, by decide +kernel, by decide +kernel⟩
theorem mv_X11_368 : tw_cV RX11 368 yX1_fraction cX1_fraction 12 none 2 := ⟨(tw_all [(5, 96), (4, 111), (4, 112), (1, 8), (4, 113)] (by decide +kernel) (by decide)), rfl, by decide +kernel, by decide +kernel, by decide +kernel⟩
theorem mv_X11_372 : tw_cV RX11 372 yX3_learned cX3_learned 3 (some .int) 2 := ⟨(tw_all [(5, 101), (5, 102), (5, 103), (1, 4), (5, 104)] (by decide +kernel) (by decide)), rfl, by decide +kernel, by decide +kernel, by decide +kernel⟩
theorem mv_X11_375 : tw_cV RX11 375 yX11_isStory cX11_isStory 3 (some .boolean) 2 := ⟨(tw_all [(5, 109), (5, 111), (0, 28), (1, 1), (5, 112)] (by decide +kernel) (by decide)), rfl, by decide +kernel, by decide +kernel, by decide +kernel⟩
theorem mv_X11_379 : tw_cV RX11 379 yX2_isSo cX2_isSo 3 (some .boolean) 2 := ⟨(tw_all [(5, 113), (5, 114), (5, 115), (1, 6), (5, 116)] (by decide +kernel) (by decide)), rfl, by decide +kernel, by decide +kernel, by decide +kernel⟩
theorem mv_X11_382 : tw_cV RX11 382 yX1_ofStory cX1_ofStory 9 (some .long) 4 := ⟨(tw_all [(5, 122), (5, 123), (5, 124), (1, 8), (5, 125)] (by decide +kernel) (by decide)), rfl, by decide +kernel, by decide +kernel, by decide +kernel⟩
theorem mv_X11_388 : tw_cV RX11 388 yX0_find cX0_find 5 none 0 := ⟨(tw_all [(5, 138), (5, 139), (5, 140), (1, 11), (5, 141)] (by decide +kernel) (by decide)), rfl, by decide +kernel, by decide +kernel, by decide +kernel⟩
theorem mv_X11_398 : tw_cV RX11 398 yX3_copyOf cX3_copyOf 3 none 1 := ⟨(tw_all [(5, 174), (5, 175), (5, 176), (1, 4), (5, 177)] (by decide +kernel) (by decide)), rfl, by decide +kernel, by decide +kernel, by decide +kernel⟩
theorem mv_X11_401 : tw_cV RX11 401 yX11_isSheet cX11_isSheet 2 (some .boolean) 1 := ⟨(tw_all [(5, 187), (5, 189), (0, 36), (1, 1), (5, 190)] (by decide +kernel) (by decide)), rfl, by decide +kernel, by decide +kernel, by decide +kernel⟩
theorem ms_X11_404 : tw_cS RX11 404 yX11_isLane cX11_isLane 1 (some .boolean) 1 := ⟨(tw_all [(5, 191), (5, 192), (1, 1), (5, 193)] (by decide +kernel) (by decide)), by decide +kernel, by decide +kernel, by decide +kernel⟩
theorem mv_X11_407 : tw_cV RX11 407 yX8_begin cX8_begin 4 none 2 := ⟨(tw_all [(5, 194), (5, 195), (5, 196), (1, 12), (5, 197)] (by decide +kernel) (by decide)), rfl, by decide +kernel, by decide +kernel, by decide +kernel⟩
theorem mv_X11_412 : tw_cV RX11 412 yX8_has cX8_has 2 (some .boolean) 1 := ⟨(tw_all [(5, 202), (5, 203), (5, 204), (1, 12), (5, 205)] (by decide +kernel) (by decide)), rfl, by decide +kernel, by decide +kernel, by decide +kernel⟩
theorem mv_X11_413 : tw_cV RX11 413 yX8_set cX8_set 3 none 2 := ⟨(tw_all [(5, 206), (5, 207), (5, 208), (1, 12), (5, 209)] (by decide +kernel) (by decide)), rfl, by decide +kernel, by decide +kernel, by decide +kernel⟩
theorem mv_X11_422 : tw_cV RX11 422 yX10_countOf cX10_countOf 4 (some .int) 1 := ⟨(tw_all [(5, 222), (5, 223), (5, 224), (1, 2), (5, 225)] (by decide +kernel) (by decide)), rfl, by decide +kernel, by decide +kernel, by decide +kernel⟩
theorem mv_X11_426 : tw_cV RX11 426 yX3_inRack cX3_inRack 3 (some .int) 0 := ⟨(tw_all [(5, 226), (5, 227), (5, 228), (1, 4), (5, 229)] (by decide +kernel) (by decide)), rfl, by decide +kernel, by decide +kernel, by decide +kernel⟩
theorem mv_X0_33 : tw_cV RX0 33 yX10_top cX10_top 1 (some .int) 0 := ⟨(tw_all [(5, 142), (3, 185), (3, 186), (1, 2), (3, 187)] (by decide +kernel) (by decide)), rfl, by decide +kernel, by decide +kernel, by decide +kernel⟩
theorem mv_X0_42 : tw_cV RX0 42 yX0_fewestFrom cX0_fewestFrom 5 (some .int) 1 := ⟨(tw_all [(5, 143), (5, 145), (0, 30), (1, 11), (5, 146)] (by decide +kernel) (by decide)), rfl, by decide +kernel, by decide +kernel, by decide +kernel⟩
theorem mm_X0_46 : tw_cM RX0 46 Lib.Math.min.name Lib.Math.min.code 2 := (tw_all [(5, 157), (5, 40), (1, 18), (5, 41)] (by decide +kernel) (by decide))
theorem mv_X0_52 : tw_cV RX0 52 yX0_isLowest cX0_isLowest 2 (some .boolean) 1 := ⟨(tw_all [(5, 158), (5, 160), (0, 33), (1, 11), (5, 161)] (by decide +kernel) (by decide)), rfl, by decide +kernel, by decide +kernel, by decide +kernel⟩
theorem mv_X0_56 : tw_cV RX0 56 yX0_collect cX0_collect 6 none 1 := ⟨(tw_all [(5, 162), (5, 164), (0, 34), (1, 11), (5, 165)] (by decide +kernel) (by decide)), rfl, by decide +kernel, by decide +kernel, by decide +kernel⟩
theorem mv_X0_60 : tw_cV RX0 60 yX10_dropOf cX10_dropOf 3 (some .int) 2 := ⟨(tw_all [(5, 155), (4, 69), (4, 70), (1, 2), (4, 71)] (by decide +kernel) (by decide)), rfl, by decide +kernel, by decide +kernel, by decide +kernel⟩
theorem mv_X0_63 : tw_cV RX0 63 yX10_struckOf cX10_struckOf 3 (some .int) 2 := ⟨(tw_all [(5, 156), (4, 81), (4, 82), (1, 2), (4, 83)] (by decide +kernel) (by decide)), rfl, by decide +kernel, by decide +kernel, by decide +kernel⟩
theorem mv_X0_66 : tw_cV RX0 66 yX0_isSafe cX0_isSafe 3 (some .boolean) 2 := ⟨(tw_all [(5, 151), (5, 153), (0, 32), (1, 11), (5, 154)] (by decide +kernel) (by decide)), rfl, by decide +kernel, by decide +kernel, by decide +kernel⟩
theorem mv_X0_70 : tw_cV RX0 70 yX0_reach cX0_reach 4 (some .int) 1 := ⟨(tw_all [(5, 147), (5, 149), (0, 31), (1, 11), (5, 150)] (by decide +kernel) (by decide)), rfl, by decide +kernel, by decide +kernel, by decide +kernel⟩
theorem mv_X0_73 : tw_cV RX0 73 yX0_firstWith cX0_firstWith 6 (some .int) 3 := ⟨(tw_all [(5, 166), (5, 168), (0, 35), (1, 11), (5, 169)] (by decide +kernel) (by decide)), rfl, by decide +kernel, by decide +kernel, by decide +kernel⟩
theorem mv_X1_45 : tw_cV RX1 45 yX10_dropOf cX10_dropOf 3 (some .int) 2 := ⟨(tw_all [(4, 101), (4, 69), (4, 70), (1, 2), (4, 71)] (by decide +kernel) (by decide)), rfl, by decide +kernel, by decide +kernel, by decide +kernel⟩
theorem mv_X1_54 : tw_cV RX1 54 yX10_pullOf cX10_pullOf 3 (some .int) 2 := ⟨(tw_all [(4, 102), (4, 73), (4, 74), (1, 2), (4, 75)] (by decide +kernel) (by decide)), rfl, by decide +kernel, by decide +kernel, by decide +kernel⟩
theorem mv_X1_57 : tw_cV RX1 57 yX10_holds cX10_holds 3 (some .boolean) 2 := ⟨(tw_all [(4, 103), (4, 77), (4, 78), (1, 2), (4, 79)] (by decide +kernel) (by decide)), rfl, by decide +kernel, by decide +kernel, by decide +kernel⟩
theorem mv_X1_61 : tw_cV RX1 61 yX3_chance cX3_chance 3 (some .int) 2 := ⟨(tw_all [(4, 104), (4, 22), (4, 23), (1, 4), (4, 24)] (by decide +kernel) (by decide)), rfl, by decide +kernel, by decide +kernel, by decide +kernel⟩
theorem mv_X1_67 : tw_cV RX1 67 yX10_harmOf cX10_harmOf 3 (some .int) 2 := ⟨(tw_all [(4, 106), (4, 85), (4, 86), (1, 2), (4, 87)] (by decide +kernel) (by decide)), rfl, by decide +kernel, by decide +kernel, by decide +kernel⟩
theorem ms_X1_70 : tw_cS RX1 70 yX1_worth cX1_worth 2 (some .int) 2 := ⟨(tw_all [(4, 107), (4, 108), (1, 8), (4, 109)] (by decide +kernel) (by decide)), by decide +kernel, by decide +kernel, by decide +kernel⟩
theorem mv_X1_73 : tw_cV RX1 73 yX1_fraction cX1_fraction 12 none 2 := ⟨(tw_all [(4, 110), (4, 111), (4, 112), (1, 8), (4, 113)] (by decide +kernel) (by decide)), rfl, by decide +kernel, by decide +kernel, by decide +kernel⟩
theorem mv_X1_77 : tw_cV RX1 77 yX7_all cX7_all 1 (some .int) 0 := ⟨(tw_all [(5, 126), (4, 61), (4, 62), (1, 5), (4, 63)] (by decide +kernel) (by decide)), rfl, by decide +kernel, by decide +kernel, by decide +kernel⟩
theorem mv_X1_81 : tw_cV RX1 81 yX2_from cX2_from 8 none 4 := ⟨(tw_all [(5, 127), (4, 65), (4, 66), (1, 6), (4, 67)] (by decide +kernel) (by decide)), rfl, by decide +kernel, by decide +kernel, by decide +kernel⟩
theorem mv_X1_85 : tw_cV RX1 85 yX2_isSo cX2_isSo 3 (some .boolean) 2 := ⟨(tw_all [(5, 128), (5, 114), (5, 115), (1, 6), (5, 116)] (by decide +kernel) (by decide)), rfl, by decide +kernel, by decide +kernel, by decide +kernel⟩
theorem mv_X1_94 : tw_cV RX1 94 yX1_couldHold cX1_couldHold 4 (some .boolean) 3 := ⟨(tw_all [(5, 129), (5, 131), (0, 29), (1, 8), (5, 132)] (by decide +kernel) (by decide)), rfl, by decide +kernel, by decide +kernel, by decide +kernel⟩
theorem mv_X2_39 : tw_cV RX2 39 yX10_dropOf cX10_dropOf 3 (some .int) 2 := ⟨(tw_all [(4, 68), (4, 69), (4, 70), (1, 2), (4, 71)] (by decide +kernel) (by decide)), rfl, by decide +kernel, by decide +kernel, by decide +kernel⟩
theorem mv_X2_45 : tw_cV RX2 45 yX10_pullOf cX10_pullOf 3 (some .int) 2 := ⟨(tw_all [(4, 72), (4, 73), (4, 74), (1, 2), (4, 75)] (by decide +kernel) (by decide)), rfl, by decide +kernel, by decide +kernel, by decide +kernel⟩
theorem mv_X2_51 : tw_cV RX2 51 yX10_holds cX10_holds 3 (some .boolean) 2 := ⟨(tw_all [(4, 76), (4, 77), (4, 78), (1, 2), (4, 79)] (by decide +kernel) (by decide)), rfl, by decide +kernel, by decide +kernel, by decide +kernel⟩
theorem mv_X2_55 : tw_cV RX2 55 yX10_struckOf cX10_struckOf 3 (some .int) 2 := ⟨(tw_all [(4, 80), (4, 81), (4, 82), (1, 2), (4, 83)] (by decide +kernel) (by decide)), rfl, by decide +kernel, by decide +kernel, by decide +kernel⟩
theorem mv_X2_58 : tw_cV RX2 58 yX10_harmOf cX10_harmOf 3 (some .int) 2 := ⟨(tw_all [(4, 84), (4, 85), (4, 86), (1, 2), (4, 87)] (by decide +kernel) (by decide)), rfl, by decide +kernel, by decide +kernel, by decide +kernel⟩
theorem mm_X2_61 : tw_cM RX2 61 Lib.Math.max.name Lib.Math.max.code 2 := (tw_all [(5, 117), (3, 154), (1, 18), (3, 155)] (by decide +kernel) (by decide))
theorem mv_X3_48 : tw_cV RX3 48 yX7_copyOf cX7_copyOf 3 none 1 := ⟨(tw_all [(5, 178), (4, 189), (4, 190), (1, 5), (4, 191)] (by decide +kernel) (by decide)), rfl, by decide +kernel, by decide +kernel, by decide +kernel⟩
theorem mv_X3_52 : tw_cV RX3 52 yX10_isFoot cX10_isFoot 2 (some .boolean) 1 := ⟨(tw_all [(3, 232), (3, 217), (3, 218), (1, 2), (3, 219)] (by decide +kernel) (by decide)), rfl, by decide +kernel, by decide +kernel, by decide +kernel⟩
theorem mv_X3_59 : tw_cV RX3 59 yX7_at cX7_at 3 (some .int) 1 := ⟨(tw_all [(3, 233), (3, 221), (3, 222), (1, 5), (3, 223)] (by decide +kernel) (by decide)), rfl, by decide +kernel, by decide +kernel, by decide +kernel⟩
theorem mm_X3_63 : tw_cM RX3 63 Lib.Math.abs.name Lib.Math.abs.code 1 := (tw_all [(3, 234), (3, 235), (1, 18), (3, 236)] (by decide +kernel) (by decide))
theorem mv_X3_68 : tw_cV RX3 68 yX7_insert cX7_insert 4 (some .int) 2 := ⟨(tw_all [(3, 237), (3, 238), (3, 239), (1, 5), (4, 0)] (by decide +kernel) (by decide)), rfl, by decide +kernel, by decide +kernel, by decide +kernel⟩
theorem mv_X3_75 : tw_cV RX3 75 yX7_remove cX7_remove 3 none 1 := ⟨(tw_all [(4, 9), (4, 10), (4, 11), (1, 5), (4, 12)] (by decide +kernel) (by decide)), rfl, by decide +kernel, by decide +kernel, by decide +kernel⟩
theorem mv_X3_79 : tw_cV RX3 79 yX3_takeOut cX3_takeOut 3 (some .int) 1 := ⟨(tw_all [(4, 51), (4, 6), (4, 7), (1, 4), (4, 8)] (by decide +kernel) (by decide)), rfl, by decide +kernel, by decide +kernel, by decide +kernel⟩
theorem mv_X4_33 : tw_cV RX4 33 yX10_top cX10_top 1 (some .int) 0 := ⟨(tw_all [(4, 131), (3, 185), (3, 186), (1, 2), (3, 187)] (by decide +kernel) (by decide)), rfl, by decide +kernel, by decide +kernel, by decide +kernel⟩
theorem mv_X4_39 : tw_cV RX4 39 yX4_riskOver cX4_riskOver 7 (some .int) 4 := ⟨(tw_all [(4, 132), (4, 133), (4, 134), (1, 7), (4, 135)] (by decide +kernel) (by decide)), rfl, by decide +kernel, by decide +kernel, by decide +kernel⟩
theorem mm_X4_47 : tw_cM RX4 47 Lib.Math.max.name Lib.Math.max.code 2 := (tw_all [(4, 136), (3, 154), (1, 18), (3, 155)] (by decide +kernel) (by decide))
theorem mv_X4_53 : tw_cV RX4 53 yX2_from cX2_from 8 none 4 := ⟨(tw_all [(4, 137), (4, 65), (4, 66), (1, 6), (4, 67)] (by decide +kernel) (by decide)), rfl, by decide +kernel, by decide +kernel, by decide +kernel⟩
theorem mv_X4_63 : tw_cV RX4 63 yX4_begin cX4_begin 2 none 1 := ⟨(tw_all [(4, 142), (4, 143), (4, 144), (1, 7), (4, 145)] (by decide +kernel) (by decide)), rfl, by decide +kernel, by decide +kernel, by decide +kernel⟩
theorem mv_X4_67 : tw_cV RX4 67 yX4_climb cX4_climb 6 none 3 := ⟨(tw_all [(4, 146), (4, 147), (4, 148), (1, 7), (4, 149)] (by decide +kernel) (by decide)), rfl, by decide +kernel, by decide +kernel, by decide +kernel⟩
theorem mv_X4_71 : tw_cV RX4 71 yX7_firstFrom cX7_firstFrom 3 (some .int) 1 := ⟨(tw_all [(4, 150), (4, 151), (4, 152), (1, 5), (4, 153)] (by decide +kernel) (by decide)), rfl, by decide +kernel, by decide +kernel, by decide +kernel⟩
theorem mv_X4_86 : tw_cV RX4 86 yX7_all cX7_all 1 (some .int) 0 := ⟨(tw_all [(4, 158), (4, 61), (4, 62), (1, 5), (4, 63)] (by decide +kernel) (by decide)), rfl, by decide +kernel, by decide +kernel, by decide +kernel⟩
theorem mv_X5_62 : tw_cV RX5 62 yX5_begin cX5_begin 2 none 0 := ⟨(tw_all [(4, 171), (4, 173), (0, 19), (1, 9), (4, 174)] (by decide +kernel) (by decide)), rfl, by decide +kernel, by decide +kernel, by decide +kernel⟩
theorem mv_X5_65 : tw_cV RX5 65 yX5_choose cX5_choose 9 none 4 := ⟨(tw_all [(4, 176), (4, 178), (0, 20), (1, 9), (4, 179)] (by decide +kernel) (by decide)), rfl, by decide +kernel, by decide +kernel, by decide +kernel⟩
theorem mv_X5_77 : tw_cV RX5 77 yX10_top cX10_top 1 (some .int) 0 := ⟨(tw_all [(4, 175), (3, 185), (3, 186), (1, 2), (3, 187)] (by decide +kernel) (by decide)), rfl, by decide +kernel, by decide +kernel, by decide +kernel⟩
theorem mv_X5_84 : tw_cV RX5 84 yX4_begin cX4_begin 2 none 1 := ⟨(tw_all [(4, 180), (4, 143), (4, 144), (1, 7), (4, 145)] (by decide +kernel) (by decide)), rfl, by decide +kernel, by decide +kernel, by decide +kernel⟩
theorem mv_X5_89 : tw_cV RX5 89 yX4_climb cX4_climb 6 none 3 := ⟨(tw_all [(4, 181), (4, 147), (4, 148), (1, 7), (4, 149)] (by decide +kernel) (by decide)), rfl, by decide +kernel, by decide +kernel, by decide +kernel⟩
theorem mv_X5_99 : tw_cV RX5 99 yX7_all cX7_all 1 (some .int) 0 := ⟨(tw_all [(4, 182), (4, 61), (4, 62), (1, 5), (4, 63)] (by decide +kernel) (by decide)), rfl, by decide +kernel, by decide +kernel, by decide +kernel⟩
theorem mv_X5_102 : tw_cV RX5 102 yX4_riskOver cX4_riskOver 7 (some .int) 4 := ⟨(tw_all [(4, 183), (4, 133), (4, 134), (1, 7), (4, 135)] (by decide +kernel) (by decide)), rfl, by decide +kernel, by decide +kernel, by decide +kernel⟩
theorem mv_X5_106 : tw_cV RX5 106 yX5_keepIfBetter cX5_keepIfBetter 4 none 2 := ⟨(tw_all [(4, 184), (4, 186), (0, 21), (1, 9), (4, 187)] (by decide +kernel) (by decide)), rfl, by decide +kernel, by decide +kernel, by decide +kernel⟩
theorem mv_X5_110 : tw_cV RX5 110 yX5_goOn cX5_goOn 7 none 4 := ⟨(tw_all [(4, 192), (4, 194), (0, 22), (1, 9), (4, 195)] (by decide +kernel) (by decide)), rfl, by decide +kernel, by decide +kernel, by decide +kernel⟩
theorem mv_X5_113 : tw_cV RX5 113 yX7_insert cX7_insert 4 (some .int) 2 := ⟨(tw_all [(4, 196), (3, 238), (3, 239), (1, 5), (4, 0)] (by decide +kernel) (by decide)), rfl, by decide +kernel, by decide +kernel, by decide +kernel⟩
theorem mv_X5_117 : tw_cV RX5 117 yX7_remove cX7_remove 3 none 1 := ⟨(tw_all [(4, 197), (4, 10), (4, 11), (1, 5), (4, 12)] (by decide +kernel) (by decide)), rfl, by decide +kernel, by decide +kernel, by decide +kernel⟩
theorem mv_X5_120 : tw_cV RX5 120 yX7_copyOf cX7_copyOf 3 none 1 := ⟨(tw_all [(4, 188), (4, 189), (4, 190), (1, 5), (4, 191)] (by decide +kernel) (by decide)), rfl, by decide +kernel, by decide +kernel, by decide +kernel⟩
theorem mv_X5_124 : tw_cV RX5 124 yX4_riskOf cX4_riskOf 3 (some .int) 2 := ⟨(tw_all [(4, 213), (4, 128), (4, 129), (1, 7), (4, 130)] (by decide +kernel) (by decide)), rfl, by decide +kernel, by decide +kernel, by decide +kernel⟩
theorem mv_X5_128 : tw_cV RX5 128 yX4_climbAll cX4_climbAll 2 none 1 := ⟨(tw_all [(4, 222), (4, 139), (4, 140), (1, 7), (4, 141)] (by decide +kernel) (by decide)), rfl, by decide +kernel, by decide +kernel, by decide +kernel⟩
theorem mv_X5_131 : tw_cV RX5 131 yX5_findPlan cX5_findPlan 1 none 0 := ⟨(tw_all [(4, 231), (4, 168), (4, 169), (1, 9), (4, 170)] (by decide +kernel) (by decide)), rfl, by decide +kernel, by decide +kernel, by decide +kernel⟩
theorem mv_X5_134 : tw_cV RX5 134 yX5_follow cX5_follow 6 none 1 := ⟨(tw_all [(4, 232), (4, 206), (4, 207), (1, 9), (4, 208)] (by decide +kernel) (by decide)), rfl, by decide +kernel, by decide +kernel, by decide +kernel⟩
theorem mv_X5_137 : tw_cV RX5 137 yX5_ruleIsTooMuch cX5_ruleIsTooMuch 1 (some .boolean) 0 := ⟨(tw_all [(4, 233), (4, 219), (4, 220), (1, 9), (4, 221)] (by decide +kernel) (by decide)), rfl, by decide +kernel, by decide +kernel, by decide +kernel⟩
theorem mv_X5_141 : tw_cV RX5 141 yX5_ruleRisk cX5_ruleRisk 1 (some .int) 0 := ⟨(tw_all [(4, 234), (4, 210), (4, 211), (1, 9), (4, 212)] (by decide +kernel) (by decide)), rfl, by decide +kernel, by decide +kernel, by decide +kernel⟩
theorem mv_X6_39 : tw_cV RX6 39 yX10_top cX10_top 1 (some .int) 0 := ⟨(tw_all [(5, 34), (3, 185), (3, 186), (1, 2), (3, 187)] (by decide +kernel) (by decide)), rfl, by decide +kernel, by decide +kernel, by decide +kernel⟩
theorem mv_X6_45 : tw_cV RX6 45 yX6_pitchesFrom cX6_pitchesFrom 5 (some .int) 1 := ⟨(tw_all [(5, 35), (5, 37), (0, 23), (1, 10), (5, 38)] (by decide +kernel) (by decide)), rfl, by decide +kernel, by decide +kernel, by decide +kernel⟩
theorem mm_X6_49 : tw_cM RX6 49 Lib.Math.max.name Lib.Math.max.code 2 := (tw_all [(5, 47), (3, 154), (1, 18), (3, 155)] (by decide +kernel) (by decide))
theorem mv_X6_55 : tw_cV RX6 55 yX6_nextStance cX6_nextStance 4 (some .int) 1 := ⟨(tw_all [(5, 48), (5, 50), (0, 24), (1, 10), (5, 51)] (by decide +kernel) (by decide)), rfl, by decide +kernel, by decide +kernel, by decide +kernel⟩
theorem mm_X6_61 : tw_cM RX6 61 Lib.Math.min.name Lib.Math.min.code 2 := (tw_all [(5, 39), (5, 40), (1, 18), (5, 41)] (by decide +kernel) (by decide))
theorem mv_X6_64 : tw_cV RX6 64 yX10_isStance cX10_isStance 2 (some .boolean) 1 := ⟨(tw_all [(5, 42), (5, 43), (5, 44), (1, 2), (5, 45)] (by decide +kernel) (by decide)), rfl, by decide +kernel, by decide +kernel, by decide +kernel⟩
theorem mv_X6_71 : tw_cV RX6 71 yX6_costOf cX6_costOf 5 (some .int) 2 := ⟨(tw_all [(5, 64), (5, 66), (0, 26), (1, 10), (5, 67)] (by decide +kernel) (by decide)), rfl, by decide +kernel, by decide +kernel, by decide +kernel⟩
theorem mv_X6_74 : tw_cV RX6 74 yX6_costOfTurns cX6_costOfTurns 6 (some .int) 3 := ⟨(tw_all [(5, 60), (5, 62), (0, 25), (1, 10), (5, 63)] (by decide +kernel) (by decide)), rfl, by decide +kernel, by decide +kernel, by decide +kernel⟩
theorem mv_X6_78 : tw_cV RX6 78 yX6_leastLeft cX6_leastLeft 5 (some .int) 1 := ⟨(tw_all [(5, 80), (5, 82), (0, 27), (1, 10), (5, 83)] (by decide +kernel) (by decide)), rfl, by decide +kernel, by decide +kernel, by decide +kernel⟩
theorem mv_X7_25 : tw_cV RX7 25 yX7_all cX7_all 1 (some .int) 0 := ⟨(tw_all [(4, 60), (4, 61), (4, 62), (1, 5), (4, 63)] (by decide +kernel) (by decide)), rfl, by decide +kernel, by decide +kernel, by decide +kernel⟩
theorem mv_X7_34 : tw_cV RX7 34 yX10_top cX10_top 1 (some .int) 0 := ⟨(tw_all [(4, 33), (3, 185), (3, 186), (1, 2), (3, 187)] (by decide +kernel) (by decide)), rfl, by decide +kernel, by decide +kernel, by decide +kernel⟩
theorem mv_X7_37 : tw_cV RX7 37 yX7_sideOf cX7_sideOf 3 (some .int) 2 := ⟨(tw_all [(4, 29), (4, 31), (0, 17), (1, 5), (4, 32)] (by decide +kernel) (by decide)), rfl, by decide +kernel, by decide +kernel, by decide +kernel⟩
theorem mm_X7_41 : tw_cM RX7 41 Lib.Math.abs.name Lib.Math.abs.code 1 := (tw_all [(4, 42), (3, 235), (1, 18), (3, 236)] (by decide +kernel) (by decide))
theorem mv_X7_47 : tw_cV RX7 47 yX7_off cX7_off 3 (some .int) 2 := ⟨(tw_all [(4, 38), (4, 40), (0, 18), (1, 5), (4, 41)] (by decide +kernel) (by decide)), rfl, by decide +kernel, by decide +kernel, by decide +kernel⟩
theorem mv_X7_50 : tw_cV RX7 50 yX7_counted cX7_counted 3 (some .int) 2 := ⟨(tw_all [(5, 7), (4, 35), (4, 36), (1, 5), (4, 37)] (by decide +kernel) (by decide)), rfl, by decide +kernel, by decide +kernel, by decide +kernel⟩
theorem mv_X7_53 : tw_cV RX7 53 yX7_isLifted cX7_isLifted 6 (some .boolean) 2 := ⟨(tw_all [(5, 12), (4, 26), (4, 27), (1, 5), (4, 28)] (by decide +kernel) (by decide)), rfl, by decide +kernel, by decide +kernel, by decide +kernel⟩
theorem mv_X9_42 : tw_cV RX9 42 yX9_begin cX9_begin 2 none 0 := ⟨(tw_all [(3, 40), (3, 42), (0, 0), (1, 3), (3, 43)] (by decide +kernel) (by decide)), rfl, by decide +kernel, by decide +kernel, by decide +kernel⟩
theorem mv_X9_45 : tw_cV RX9 45 yX9_advance cX9_advance 2 none 0 := ⟨(tw_all [(3, 45), (3, 47), (0, 1), (1, 3), (3, 48)] (by decide +kernel) (by decide)), rfl, by decide +kernel, by decide +kernel, by decide +kernel⟩
theorem mv_X9_51 : tw_cV RX9 51 yX9_line cX9_line 2 none 0 := ⟨(tw_all [(3, 75), (3, 77), (0, 7), (1, 3), (3, 78)] (by decide +kernel) (by decide)), rfl, by decide +kernel, by decide +kernel, by decide +kernel⟩
theorem mv_X9_57 : tw_cV RX9 57 yX10_top cX10_top 1 (some .int) 0 := ⟨(tw_all [(3, 184), (3, 185), (3, 186), (1, 2), (3, 187)] (by decide +kernel) (by decide)), rfl, by decide +kernel, by decide +kernel, by decide +kernel⟩
theorem mv_X9_61 : tw_cV RX9 61 yX9_fail cX9_fail 3 none 2 := ⟨(tw_all [(3, 67), (3, 69), (0, 5), (1, 3), (3, 70)] (by decide +kernel) (by decide)), rfl, by decide +kernel, by decide +kernel, by decide +kernel⟩
theorem mv_X9_65 : tw_cV RX9 65 yX10_begin cX10_begin 2 none 0 := ⟨(tw_all [(3, 44), (1, 34), (1, 35), (1, 2), (1, 36)] (by decide +kernel) (by decide)), rfl, by decide +kernel, by decide +kernel, by decide +kernel⟩
theorem mv_X9_72 : tw_cV RX9 72 yX9_byteAt cX9_byteAt 2 (some .int) 1 := ⟨(tw_all [(3, 49), (3, 51), (0, 2), (1, 3), (3, 52)] (by decide +kernel) (by decide)), rfl, by decide +kernel, by decide +kernel, by decide +kernel⟩
theorem ms_X9_79 : tw_cS RX9 79 yX9_isLetter cX9_isLetter 1 (some .boolean) 1 := ⟨(tw_all [(3, 53), (3, 54), (1, 3), (3, 55)] (by decide +kernel) (by decide)), by decide +kernel, by decide +kernel, by decide +kernel⟩
theorem mv_X9_83 : tw_cV RX9 83 yX9_readName cX9_readName 2 none 0 := ⟨(tw_all [(3, 56), (3, 58), (0, 3), (1, 3), (3, 59)] (by decide +kernel) (by decide)), rfl, by decide +kernel, by decide +kernel, by decide +kernel⟩
theorem ms_X9_86 : tw_cS RX9 86 yX9_isFigure cX9_isFigure 1 (some .boolean) 1 := ⟨(tw_all [(3, 60), (3, 61), (1, 3), (3, 62)] (by decide +kernel) (by decide)), by decide +kernel, by decide +kernel, by decide +kernel⟩
theorem mv_X9_89 : tw_cV RX9 89 yX9_readNumber cX9_readNumber 2 none 0 := ⟨(tw_all [(3, 63), (3, 65), (0, 4), (1, 3), (3, 66)] (by decide +kernel) (by decide)), rfl, by decide +kernel, by decide +kernel, by decide +kernel⟩
theorem mv_X9_92 : tw_cV RX9 92 yX9_readSign cX9_readSign 1 none 0 := ⟨(tw_all [(3, 71), (3, 73), (0, 6), (1, 3), (3, 74)] (by decide +kernel) (by decide)), rfl, by decide +kernel, by decide +kernel, by decide +kernel⟩
theorem mv_X9_98 : tw_cV RX9 98 yJ0_length_8abf5 cJ0_length_8abf5 1 (some .int) 0 := ⟨(tw_all [(3, 88), (3, 89), (3, 90), (1, 14), (3, 91)] (by decide +kernel) (by decide)), rfl, by decide +kernel, by decide +kernel, by decide +kernel⟩
theorem mv_X9_102 : tw_cV RX9 102 yJ0_charAt_5068e cJ0_charAt_5068e 2 (some .char) 1 := ⟨(tw_all [(3, 98), (3, 99), (3, 100), (1, 14), (3, 101)] (by decide +kernel) (by decide)), rfl, by decide +kernel, by decide +kernel, by decide +kernel⟩
theorem mv_X9_108 : tw_cV RX9 108 yX9_isName cX9_isName 3 (some .boolean) 1 := ⟨(tw_all [(3, 84), (3, 86), (0, 9), (1, 3), (3, 87)] (by decide +kernel) (by decide)), rfl, by decide +kernel, by decide +kernel, by decide +kernel⟩
theorem mv_X9_136 : tw_cV RX9 136 yX9_lineName cX9_lineName 1 (some .int) 0 := ⟨(tw_all [(3, 79), (3, 81), (0, 8), (1, 3), (3, 82)] (by decide +kernel) (by decide)), rfl, by decide +kernel, by decide +kernel, by decide +kernel⟩
theorem mv_X9_139 : tw_cV RX9 139 yX9_footLine cX9_footLine 5 none 0 := ⟨(tw_all [(3, 145), (3, 147), (0, 10), (1, 3), (3, 148)] (by decide +kernel) (by decide)), rfl, by decide +kernel, by decide +kernel, by decide +kernel⟩
theorem mv_X9_142 : tw_cV RX9 142 yX9_rackLine cX9_rackLine 2 none 0 := ⟨(tw_all [(3, 168), (3, 170), (0, 14), (1, 3), (3, 171)] (by decide +kernel) (by decide)), rfl, by decide +kernel, by decide +kernel, by decide +kernel⟩
theorem mv_X9_145 : tw_cV RX9 145 yX9_ruleLine cX9_ruleLine 2 none 1 := ⟨(tw_all [(3, 172), (3, 174), (0, 15), (1, 3), (3, 175)] (by decide +kernel) (by decide)), rfl, by decide +kernel, by decide +kernel, by decide +kernel⟩
theorem mv_X9_149 : tw_cV RX9 149 yX9_lineEnd cX9_lineEnd 1 none 0 := ⟨(tw_all [(3, 180), (3, 182), (0, 16), (1, 3), (3, 183)] (by decide +kernel) (by decide)), rfl, by decide +kernel, by decide +kernel, by decide +kernel⟩
theorem mv_X9_152 : tw_cV RX9 152 yX9_number cX9_number 3 (some .int) 2 := ⟨(tw_all [(3, 149), (3, 151), (0, 11), (1, 3), (3, 152)] (by decide +kernel) (by decide)), rfl, by decide +kernel, by decide +kernel, by decide +kernel⟩
theorem mm_X9_156 : tw_cM RX9 156 Lib.Math.max.name Lib.Math.max.code 2 := (tw_all [(3, 153), (3, 154), (1, 18), (3, 155)] (by decide +kernel) (by decide))
theorem mv_X9_165 : tw_cV RX9 165 yX9_withName cX9_withName 1 (some .int) 0 := ⟨(tw_all [(3, 156), (3, 158), (0, 12), (1, 3), (3, 159)] (by decide +kernel) (by decide)), rfl, by decide +kernel, by decide +kernel, by decide +kernel⟩
theorem mv_X9_168 : tw_cV RX9 168 yX9_readWith cX9_readWith 3 none 2 := ⟨(tw_all [(3, 164), (3, 166), (0, 13), (1, 3), (3, 167)] (by decide +kernel) (by decide)), rfl, by decide +kernel, by decide +kernel, by decide +kernel⟩
theorem mv_X10_36 : tw_cV RX10 36 yX10_begin cX10_begin 2 none 0 := ⟨(tw_all [(1, 33), (1, 34), (1, 35), (1, 2), (1, 36)] (by decide +kernel) (by decide)), rfl, by decide +kernel, by decide +kernel, by decide +kernel⟩
theorem mv_X10_42 : tw_cV RX10 42 yX10_isFoot cX10_isFoot 2 (some .boolean) 1 := ⟨(tw_all [(5, 46), (3, 217), (3, 218), (1, 2), (3, 219)] (by decide +kernel) (by decide)), rfl, by decide +kernel, by decide +kernel, by decide +kernel⟩
theorem mv_L_15 : tw_cV RL 15 yX11_feed cX11_feed 3 (some .int) 1 := ⟨(tw_all [(3, 20), (3, 21), (3, 22), (1, 1), (3, 23)] (by decide +kernel) (by decide)), rfl, by decide +kernel, by decide +kernel, by decide +kernel⟩
theorem mv_L_19 : tw_cV RL 19 yX12_feed cX12_feed 4 (some .int) 1 := ⟨(tw_all [(6, 127), (6, 128), (6, 129), (1, 13), (6, 130)] (by decide +kernel) (by decide)), rfl, by decide +kernel, by decide +kernel, by decide +kernel⟩
theorem mv_L_20 : tw_cV RL 20 yX11_end cX11_end 3 (some .int) 1 := ⟨(tw_all [(3, 28), (3, 29), (3, 30), (1, 1), (3, 31)] (by decide +kernel) (by decide)), rfl, by decide +kernel, by decide +kernel, by decide +kernel⟩
theorem mv_L_24 : tw_cV RL 24 yX12_end cX12_end 3 (some .int) 1 := ⟨(tw_all [(6, 132), (6, 133), (6, 134), (1, 13), (6, 135)] (by decide +kernel) (by decide)), rfl, by decide +kernel, by decide +kernel, by decide +kernel⟩
theorem mv_L_25 : tw_cV RL 25 yX11_text cX11_text 1 (some .int) 0 := ⟨(tw_all [(3, 32), (3, 33), (3, 34), (1, 1), (3, 35)] (by decide +kernel) (by decide)), rfl, by decide +kernel, by decide +kernel, by decide +kernel⟩
theorem mv_L_29 : tw_cV RL 29 yX12_text cX12_text 2 (some .int) 0 := ⟨(tw_all [(6, 136), (6, 137), (6, 138), (1, 13), (6, 139)] (by decide +kernel) (by decide)), rfl, by decide +kernel, by decide +kernel, by decide +kernel⟩
theorem mv_L_30 : tw_cV RL 30 yX11_fault cX11_fault 1 (some .int) 0 := ⟨(tw_all [(3, 204), (3, 205), (3, 206), (1, 1), (3, 207)] (by decide +kernel) (by decide)), rfl, by decide +kernel, by decide +kernel, by decide +kernel⟩
theorem mv_L_33 : tw_cV RL 33 yX12_fault cX12_fault 1 (some .int) 0 := ⟨(tw_all [(6, 197), (6, 198), (6, 199), (1, 13), (6, 200)] (by decide +kernel) (by decide)), rfl, by decide +kernel, by decide +kernel, by decide +kernel⟩
theorem mv_L_34 : tw_cV RL 34 yX11_rule cX11_rule 3 (some .int) 1 := ⟨(tw_all [(3, 208), (3, 209), (3, 210), (1, 1), (3, 211)] (by decide +kernel) (by decide)), rfl, by decide +kernel, by decide +kernel, by decide +kernel⟩
theorem mv_L_37 : tw_cV RL 37 yX12_rule cX12_rule 2 (some .int) 1 := ⟨(tw_all [(6, 201), (6, 202), (6, 203), (1, 13), (6, 204)] (by decide +kernel) (by decide)), rfl, by decide +kernel, by decide +kernel, by decide +kernel⟩
theorem mv_L_38 : tw_cV RL 38 yX11_foot cX11_foot 3 (some .int) 2 := ⟨(tw_all [(3, 212), (3, 213), (3, 214), (1, 1), (3, 215)] (by decide +kernel) (by decide)), rfl, by decide +kernel, by decide +kernel, by decide +kernel⟩
theorem mv_L_42 : tw_cV RL 42 yX12_foot cX12_foot 3 (some .int) 2 := ⟨(tw_all [(6, 207), (6, 208), (6, 209), (1, 13), (6, 210)] (by decide +kernel) (by decide)), rfl, by decide +kernel, by decide +kernel, by decide +kernel⟩
theorem mv_L_43 : tw_cV RL 43 yX11_put cX11_put 3 (some .int) 2 := ⟨(tw_all [(3, 224), (3, 225), (3, 226), (1, 1), (3, 227)] (by decide +kernel) (by decide)), rfl, by decide +kernel, by decide +kernel, by decide +kernel⟩
theorem mv_L_46 : tw_cV RL 46 yX12_put cX12_put 4 (some .int) 2 := ⟨(tw_all [(6, 231), (6, 232), (6, 233), (1, 13), (6, 234)] (by decide +kernel) (by decide)), rfl, by decide +kernel, by decide +kernel, by decide +kernel⟩
theorem mv_L_47 : tw_cV RL 47 yX11_take cX11_take 3 (some .int) 1 := ⟨(tw_all [(4, 1), (4, 2), (4, 3), (1, 1), (4, 4)] (by decide +kernel) (by decide)), rfl, by decide +kernel, by decide +kernel, by decide +kernel⟩
theorem mv_L_50 : tw_cV RL 50 yX12_take cX12_take 3 (some .int) 1 := ⟨(tw_all [(7, 7), (7, 8), (7, 9), (1, 13), (7, 10)] (by decide +kernel) (by decide)), rfl, by decide +kernel, by decide +kernel, by decide +kernel⟩
theorem mv_L_51 : tw_cV RL 51 yX11_sling cX11_sling 5 (some .int) 2 := ⟨(tw_all [(4, 13), (4, 14), (4, 15), (1, 1), (4, 16)] (by decide +kernel) (by decide)), rfl, by decide +kernel, by decide +kernel, by decide +kernel⟩
theorem mv_L_55 : tw_cV RL 55 yX12_sling cX12_sling 4 (some .int) 2 := ⟨(tw_all [(7, 11), (7, 12), (7, 13), (1, 13), (7, 14)] (by decide +kernel) (by decide)), rfl, by decide +kernel, by decide +kernel, by decide +kernel⟩
theorem mv_L_56 : tw_cV RL 56 yX11_piece cX11_piece 4 (some .int) 2 := ⟨(tw_all [(4, 17), (4, 18), (4, 19), (1, 1), (4, 20)] (by decide +kernel) (by decide)), rfl, by decide +kernel, by decide +kernel, by decide +kernel⟩
theorem mv_L_59 : tw_cV RL 59 yX12_piece cX12_piece 4 (some .int) 2 := ⟨(tw_all [(7, 15), (7, 16), (7, 17), (1, 13), (7, 18)] (by decide +kernel) (by decide)), rfl, by decide +kernel, by decide +kernel, by decide +kernel⟩
theorem mv_L_60 : tw_cV RL 60 yX11_strip cX11_strip 1 (some .int) 0 := ⟨(tw_all [(4, 43), (4, 44), (4, 45), (1, 1), (4, 46)] (by decide +kernel) (by decide)), rfl, by decide +kernel, by decide +kernel, by decide +kernel⟩
theorem mv_L_63 : tw_cV RL 63 yX12_strip cX12_strip 3 (some .int) 0 := ⟨(tw_all [(7, 43), (7, 44), (7, 45), (1, 13), (7, 46)] (by decide +kernel) (by decide)), rfl, by decide +kernel, by decide +kernel, by decide +kernel⟩
theorem mv_L_64 : tw_cV RL 64 yX11_fall cX11_fall 4 (some .int) 3 := ⟨(tw_all [(4, 52), (4, 53), (4, 54), (1, 1), (4, 55)] (by decide +kernel) (by decide)), rfl, by decide +kernel, by decide +kernel, by decide +kernel⟩
theorem mv_L_68 : tw_cV RL 68 yX12_fall cX12_fall 4 (some .int) 3 := ⟨(tw_all [(7, 48), (7, 49), (7, 50), (1, 13), (7, 51)] (by decide +kernel) (by decide)), rfl, by decide +kernel, by decide +kernel, by decide +kernel⟩
theorem mv_L_69 : tw_cV RL 69 yX11_harm cX11_harm 4 (some .long) 3 := ⟨(tw_all [(4, 89), (4, 90), (4, 91), (1, 1), (4, 92)] (by decide +kernel) (by decide)), rfl, by decide +kernel, by decide +kernel, by decide +kernel⟩
theorem mv_L_73 : tw_cV RL 73 yX12_harm cX12_harm 7 (some .long) 3 := ⟨(tw_all [(7, 76), (7, 77), (7, 78), (1, 13), (7, 79)] (by decide +kernel) (by decide)), rfl, by decide +kernel, by decide +kernel, by decide +kernel⟩
theorem mv_L_74 : tw_cV RL 74 yX11_mean cX11_mean 3 (some .long) 2 := ⟨(tw_all [(4, 118), (4, 119), (4, 120), (1, 1), (4, 121)] (by decide +kernel) (by decide)), rfl, by decide +kernel, by decide +kernel, by decide +kernel⟩
theorem mv_L_78 : tw_cV RL 78 yX12_mean cX12_mean 6 (some .long) 2 := ⟨(tw_all [(7, 93), (7, 94), (7, 95), (1, 13), (7, 96)] (by decide +kernel) (by decide)), rfl, by decide +kernel, by decide +kernel, by decide +kernel⟩
theorem mv_L_79 : tw_cV RL 79 yX11_risk cX11_risk 3 (some .int) 1 := ⟨(tw_all [(4, 122), (4, 123), (4, 124), (1, 1), (4, 125)] (by decide +kernel) (by decide)), rfl, by decide +kernel, by decide +kernel, by decide +kernel⟩
theorem mv_L_82 : tw_cV RL 82 yX12_risk cX12_risk 5 (some .int) 1 := ⟨(tw_all [(7, 97), (7, 98), (7, 99), (1, 13), (7, 100)] (by decide +kernel) (by decide)), rfl, by decide +kernel, by decide +kernel, by decide +kernel⟩
theorem mv_L_83 : tw_cV RL 83 yX11_needless cX11_needless 5 (some .int) 0 := ⟨(tw_all [(4, 159), (4, 160), (4, 161), (1, 1), (4, 162)] (by decide +kernel) (by decide)), rfl, by decide +kernel, by decide +kernel, by decide +kernel⟩
theorem mv_L_86 : tw_cV RL 86 yX12_needless cX12_needless 4 (some .int) 0 := ⟨(tw_all [(7, 109), (7, 110), (7, 111), (1, 13), (7, 112)] (by decide +kernel) (by decide)), rfl, by decide +kernel, by decide +kernel, by decide +kernel⟩
theorem mv_L_87 : tw_cV RL 87 yX11_plan cX11_plan 3 (some .int) 1 := ⟨(tw_all [(4, 163), (4, 164), (4, 165), (1, 1), (4, 166)] (by decide +kernel) (by decide)), rfl, by decide +kernel, by decide +kernel, by decide +kernel⟩
theorem mv_L_90 : tw_cV RL 90 yX12_plan cX12_plan 2 (some .int) 1 := ⟨(tw_all [(7, 117), (7, 118), (7, 119), (1, 13), (7, 120)] (by decide +kernel) (by decide)), rfl, by decide +kernel, by decide +kernel, by decide +kernel⟩
theorem mv_L_91 : tw_cV RL 91 yX11_keep cX11_keep 3 (some .int) 2 := ⟨(tw_all [(4, 201), (4, 202), (4, 203), (1, 1), (4, 204)] (by decide +kernel) (by decide)), rfl, by decide +kernel, by decide +kernel, by decide +kernel⟩
theorem mv_L_94 : tw_cV RL 94 yX12_keep cX12_keep 3 (some .int) 2 := ⟨(tw_all [(7, 145), (7, 146), (7, 147), (1, 13), (7, 148)] (by decide +kernel) (by decide)), rfl, by decide +kernel, by decide +kernel, by decide +kernel⟩
theorem mv_L_95 : tw_cV RL 95 yX11_best cX11_best 2 (some .int) 1 := ⟨(tw_all [(4, 223), (4, 224), (4, 225), (1, 1), (4, 226)] (by decide +kernel) (by decide)), rfl, by decide +kernel, by decide +kernel, by decide +kernel⟩
theorem mv_L_98 : tw_cV RL 98 yX12_best cX12_best 7 (some .int) 1 := ⟨(tw_all [(7, 154), (7, 155), (7, 156), (1, 13), (7, 157)] (by decide +kernel) (by decide)), rfl, by decide +kernel, by decide +kernel, by decide +kernel⟩
theorem mv_L_99 : tw_cV RL 99 yX11_adopt cX11_adopt 3 (some .int) 0 := ⟨(tw_all [(4, 235), (4, 236), (4, 237), (1, 1), (4, 238)] (by decide +kernel) (by decide)), rfl, by decide +kernel, by decide +kernel, by decide +kernel⟩
theorem mv_L_102 : tw_cV RL 102 yX12_adopt cX12_adopt 1 (some .int) 0 := ⟨(tw_all [(7, 158), (7, 159), (7, 160), (1, 13), (7, 161)] (by decide +kernel) (by decide)), rfl, by decide +kernel, by decide +kernel, by decide +kernel⟩
theorem mv_L_103 : tw_cV RL 103 yX11_drag cX11_drag 3 (some .int) 1 := ⟨(tw_all [(4, 239), (5, 0), (5, 1), (1, 1), (5, 2)] (by decide +kernel) (by decide)), rfl, by decide +kernel, by decide +kernel, by decide +kernel⟩
theorem mv_L_106 : tw_cV RL 106 yX12_drag cX12_drag 4 (some .int) 1 := ⟨(tw_all [(7, 162), (7, 163), (7, 164), (1, 13), (7, 165)] (by decide +kernel) (by decide)), rfl, by decide +kernel, by decide +kernel, by decide +kernel⟩
theorem mv_L_107 : tw_cV RL 107 yX11_slings cX11_slings 4 (some .int) 2 := ⟨(tw_all [(5, 14), (5, 15), (5, 16), (1, 1), (5, 17)] (by decide +kernel) (by decide)), rfl, by decide +kernel, by decide +kernel, by decide +kernel⟩
theorem mv_L_110 : tw_cV RL 110 yX12_slings cX12_slings 8 (some .int) 2 := ⟨(tw_all [(7, 174), (7, 175), (7, 176), (1, 13), (7, 177)] (by decide +kernel) (by decide)), rfl, by decide +kernel, by decide +kernel, by decide +kernel⟩
theorem mv_L_111 : tw_cV RL 111 yX11_pitches cX11_pitches 2 (some .int) 1 := ⟨(tw_all [(5, 26), (5, 27), (5, 28), (1, 1), (5, 29)] (by decide +kernel) (by decide)), rfl, by decide +kernel, by decide +kernel, by decide +kernel⟩
theorem mv_L_114 : tw_cV RL 114 yX12_pitches cX12_pitches 2 (some .int) 1 := ⟨(tw_all [(7, 178), (7, 179), (7, 180), (1, 13), (7, 181)] (by decide +kernel) (by decide)), rfl, by decide +kernel, by decide +kernel, by decide +kernel⟩
theorem mv_L_115 : tw_cV RL 115 yX11_leads cX11_leads 5 (some .int) 4 := ⟨(tw_all [(5, 52), (5, 53), (5, 54), (1, 1), (5, 55)] (by decide +kernel) (by decide)), rfl, by decide +kernel, by decide +kernel, by decide +kernel⟩
theorem mv_L_119 : tw_cV RL 119 yX12_leads cX12_leads 9 (some .int) 4 := ⟨(tw_all [(7, 191), (7, 192), (7, 193), (1, 13), (7, 194)] (by decide +kernel) (by decide)), rfl, by decide +kernel, by decide +kernel, by decide +kernel⟩
theorem mv_L_120 : tw_cV RL 120 yX11_down cX11_down 3 (some .int) 1 := ⟨(tw_all [(5, 72), (5, 73), (5, 74), (1, 1), (5, 75)] (by decide +kernel) (by decide)), rfl, by decide +kernel, by decide +kernel, by decide +kernel⟩
theorem mv_L_123 : tw_cV RL 123 yX12_down cX12_down 6 (some .int) 1 := ⟨(tw_all [(7, 204), (7, 205), (7, 206), (1, 13), (7, 207)] (by decide +kernel) (by decide)), rfl, by decide +kernel, by decide +kernel, by decide +kernel⟩
theorem mv_L_124 : tw_cV RL 124 yX11_tried cX11_tried 3 (some .int) 2 := ⟨(tw_all [(5, 84), (5, 85), (5, 86), (1, 1), (5, 87)] (by decide +kernel) (by decide)), rfl, by decide +kernel, by decide +kernel, by decide +kernel⟩
theorem mv_L_127 : tw_cV RL 127 yX12_tried cX12_tried 3 (some .int) 2 := ⟨(tw_all [(7, 208), (7, 209), (7, 210), (1, 13), (7, 211)] (by decide +kernel) (by decide)), rfl, by decide +kernel, by decide +kernel, by decide +kernel⟩
theorem mv_L_128 : tw_cV RL 128 yX11_eye cX11_eye 3 (some .int) 2 := ⟨(tw_all [(5, 92), (5, 93), (5, 94), (1, 1), (5, 95)] (by decide +kernel) (by decide)), rfl, by decide +kernel, by decide +kernel, by decide +kernel⟩
theorem mv_L_131 : tw_cV RL 131 yX12_eye cX12_eye 4 (some .int) 2 := ⟨(tw_all [(7, 216), (7, 217), (7, 218), (1, 13), (7, 219)] (by decide +kernel) (by decide)), rfl, by decide +kernel, by decide +kernel, by decide +kernel⟩
theorem mv_L_132 : tw_cV RL 132 yX11_learn cX11_learn 4 (some .int) 0 := ⟨(tw_all [(5, 97), (5, 98), (5, 99), (1, 1), (5, 100)] (by decide +kernel) (by decide)), rfl, by decide +kernel, by decide +kernel, by decide +kernel⟩
theorem mv_L_135 : tw_cV RL 135 yX12_learn cX12_learn 5 (some .int) 0 := ⟨(tw_all [(7, 220), (7, 221), (7, 222), (1, 13), (7, 223)] (by decide +kernel) (by decide)), rfl, by decide +kernel, by decide +kernel, by decide +kernel⟩
theorem mv_L_136 : tw_cV RL 136 yX11_story cX11_story 6 (some .long) 2 := ⟨(tw_all [(5, 105), (5, 106), (5, 107), (1, 1), (5, 108)] (by decide +kernel) (by decide)), rfl, by decide +kernel, by decide +kernel, by decide +kernel⟩
theorem mv_L_139 : tw_cV RL 139 yX12_story cX12_story 7 (some .long) 2 := ⟨(tw_all [(7, 224), (7, 225), (7, 226), (1, 13), (7, 227)] (by decide +kernel) (by decide)), rfl, by decide +kernel, by decide +kernel, by decide +kernel⟩
theorem mv_L_140 : tw_cV RL 140 yX11_odds cX11_odds 12 (some .long) 4 := ⟨(tw_all [(5, 118), (5, 119), (5, 120), (1, 1), (5, 121)] (by decide +kernel) (by decide)), rfl, by decide +kernel, by decide +kernel, by decide +kernel⟩
theorem mv_L_144 : tw_cV RL 144 yX12_odds cX12_odds 12 (some .long) 4 := ⟨(tw_all [(7, 232), (7, 233), (7, 234), (1, 13), (7, 235)] (by decide +kernel) (by decide)), rfl, by decide +kernel, by decide +kernel, by decide +kernel⟩
theorem mv_L_145 : tw_cV RL 145 yX11_bolts cX11_bolts 2 (some .int) 1 := ⟨(tw_all [(5, 134), (5, 135), (5, 136), (1, 1), (5, 137)] (by decide +kernel) (by decide)), rfl, by decide +kernel, by decide +kernel, by decide +kernel⟩
theorem mv_L_148 : tw_cV RL 148 yX12_bolts cX12_bolts 2 (some .int) 1 := ⟨(tw_all [(8, 1), (8, 2), (8, 3), (1, 13), (8, 4)] (by decide +kernel) (by decide)), rfl, by decide +kernel, by decide +kernel, by decide +kernel⟩
theorem mv_L_149 : tw_cV RL 149 yX11_image cX11_image 4 (some .int) 1 := ⟨(tw_all [(5, 170), (5, 171), (5, 172), (1, 1), (5, 173)] (by decide +kernel) (by decide)), rfl, by decide +kernel, by decide +kernel, by decide +kernel⟩
theorem mv_L_152 : tw_cV RL 152 yX12_image cX12_image 3 (some .int) 1 := ⟨(tw_all [(8, 25), (8, 26), (8, 27), (1, 13), (8, 28)] (by decide +kernel) (by decide)), rfl, by decide +kernel, by decide +kernel, by decide +kernel⟩
theorem mv_L_153 : tw_cV RL 153 yX11_back cX11_back 3 (some .int) 1 := ⟨(tw_all [(5, 179), (5, 180), (5, 181), (1, 1), (5, 182)] (by decide +kernel) (by decide)), rfl, by decide +kernel, by decide +kernel, by decide +kernel⟩
theorem mv_L_156 : tw_cV RL 156 yX12_back cX12_back 2 (some .int) 1 := ⟨(tw_all [(8, 29), (8, 30), (8, 31), (1, 13), (8, 32)] (by decide +kernel) (by decide)), rfl, by decide +kernel, by decide +kernel, by decide +kernel⟩
theorem mv_L_157 : tw_cV RL 157 yX11_sheet cX11_sheet 4 (some .int) 3 := ⟨(tw_all [(5, 183), (5, 184), (5, 185), (1, 1), (5, 186)] (by decide +kernel) (by decide)), rfl, by decide +kernel, by decide +kernel, by decide +kernel⟩
theorem mv_L_160 : tw_cV RL 160 yX12_sheet cX12_sheet 5 (some .int) 3 := ⟨(tw_all [(8, 33), (8, 34), (8, 35), (1, 13), (8, 36)] (by decide +kernel) (by decide)), rfl, by decide +kernel, by decide +kernel, by decide +kernel⟩
theorem mv_L_161 : tw_cV RL 161 yX11_lay cX11_lay 5 (some .int) 3 := ⟨(tw_all [(5, 198), (5, 199), (5, 200), (1, 1), (5, 201)] (by decide +kernel) (by decide)), rfl, by decide +kernel, by decide +kernel, by decide +kernel⟩
theorem mv_L_164 : tw_cV RL 164 yX12_lay cX12_lay 4 (some .int) 3 := ⟨(tw_all [(8, 41), (8, 42), (8, 43), (1, 13), (8, 44)] (by decide +kernel) (by decide)), rfl, by decide +kernel, by decide +kernel, by decide +kernel⟩
theorem mv_L_165 : tw_cV RL 165 yX11_read cX11_read 10 (some .int) 4 := ⟨(tw_all [(5, 210), (5, 211), (5, 212), (1, 1), (5, 213)] (by decide +kernel) (by decide)), rfl, by decide +kernel, by decide +kernel, by decide +kernel⟩
theorem mv_L_169 : tw_cV RL 169 yX12_read cX12_read 11 (some .int) 4 := ⟨(tw_all [(8, 45), (8, 46), (8, 47), (1, 13), (8, 48)] (by decide +kernel) (by decide)), rfl, by decide +kernel, by decide +kernel, by decide +kernel⟩
theorem mv_L_170 : tw_cV RL 170 yX11_torn cX11_torn 1 (some .int) 0 := ⟨(tw_all [(5, 214), (5, 215), (5, 216), (1, 1), (5, 217)] (by decide +kernel) (by decide)), rfl, by decide +kernel, by decide +kernel, by decide +kernel⟩
theorem mv_L_173 : tw_cV RL 173 yX12_torn cX12_torn 1 (some .int) 0 := ⟨(tw_all [(8, 50), (8, 51), (8, 52), (1, 13), (8, 53)] (by decide +kernel) (by decide)), rfl, by decide +kernel, by decide +kernel, by decide +kernel⟩
theorem mv_L_174 : tw_cV RL 174 yX11_count cX11_count 2 (some .int) 1 := ⟨(tw_all [(5, 218), (5, 219), (5, 220), (1, 1), (5, 221)] (by decide +kernel) (by decide)), rfl, by decide +kernel, by decide +kernel, by decide +kernel⟩
theorem mv_L_177 : tw_cV RL 177 yX12_count cX12_count 2 (some .int) 1 := ⟨(tw_all [(8, 54), (8, 55), (8, 56), (1, 13), (8, 57)] (by decide +kernel) (by decide)), rfl, by decide +kernel, by decide +kernel, by decide +kernel⟩
theorem mv_X12_65 : tw_cV RX12 65 yX12_firstDraft cX12_firstDraft 3 none 0 := ⟨(tw_all [(5, 236), (5, 238), (0, 37), (1, 13), (5, 239)] (by decide +kernel) (by decide)), rfl, by decide +kernel, by decide +kernel, by decide +kernel⟩
theorem mv_X12_68 : tw_cV RX12 68 yX12_keepDraft cX12_keepDraft 2 none 0 := ⟨(tw_all [(6, 0), (6, 2), (0, 38), (1, 13), (6, 3)] (by decide +kernel) (by decide)), rfl, by decide +kernel, by decide +kernel, by decide +kernel⟩
theorem ms_X12_82 : tw_cS RX12 82 yX12_in cX12_in 6 (some .boolean) 3 := ⟨(tw_all [(6, 6), (6, 7), (1, 13), (6, 8)] (by decide +kernel) (by decide)), by decide +kernel, by decide +kernel, by decide +kernel⟩
theorem mv_X12_103 : tw_cV RX12 103 yX12_look cX12_look 2 (some .int) 1 := ⟨(tw_all [(6, 144), (6, 146), (0, 40), (1, 13), (6, 147)] (by decide +kernel) (by decide)), rfl, by decide +kernel, by decide +kernel, by decide +kernel⟩
theorem mv_X12_107 : tw_cV RX12 107 yX12_is cX12_is 6 (some .boolean) 5 := ⟨(tw_all [(6, 164), (6, 166), (0, 44), (1, 13), (6, 167)] (by decide +kernel) (by decide)), rfl, by decide +kernel, by decide +kernel, by decide +kernel⟩
theorem mv_X12_111 : tw_cV RX12 111 yX12_withNow cX12_withNow 1 (some .int) 0 := ⟨(tw_all [(6, 168), (6, 170), (0, 45), (1, 13), (6, 171)] (by decide +kernel) (by decide)), rfl, by decide +kernel, by decide +kernel, by decide +kernel⟩
theorem mv_X12_129 : tw_cV RX12 129 yX12_needs cX12_needs 3 none 2 := ⟨(tw_all [(6, 152), (6, 154), (0, 41), (1, 13), (6, 155)] (by decide +kernel) (by decide)), rfl, by decide +kernel, by decide +kernel, by decide +kernel⟩
theorem mv_X12_133 : tw_cV RX12 133 yX12_isNumber cX12_isNumber 3 none 2 := ⟨(tw_all [(6, 177), (6, 179), (0, 47), (1, 13), (6, 180)] (by decide +kernel) (by decide)), rfl, by decide +kernel, by decide +kernel, by decide +kernel⟩
theorem mv_X12_137 : tw_cV RX12 137 yX12_next cX12_next 2 none 0 := ⟨(tw_all [(6, 140), (6, 142), (0, 39), (1, 13), (6, 143)] (by decide +kernel) (by decide)), rfl, by decide +kernel, by decide +kernel, by decide +kernel⟩
theorem mv_X12_140 : tw_cV RX12 140 yX12_readNumber cX12_readNumber 4 (some .int) 2 := ⟨(tw_all [(6, 181), (6, 183), (0, 48), (1, 13), (6, 184)] (by decide +kernel) (by decide)), rfl, by decide +kernel, by decide +kernel, by decide +kernel⟩
theorem mv_X12_144 : tw_cV RX12 144 yX12_nameNow cX12_nameNow 1 (some .int) 0 := ⟨(tw_all [(6, 160), (6, 162), (0, 43), (1, 13), (6, 163)] (by decide +kernel) (by decide)), rfl, by decide +kernel, by decide +kernel, by decide +kernel⟩
theorem mv_X12_149 : tw_cV RX12 149 yX12_readAt cX12_readAt 4 none 0 := ⟨(tw_all [(6, 173), (6, 175), (0, 46), (1, 13), (6, 176)] (by decide +kernel) (by decide)), rfl, by decide +kernel, by decide +kernel, by decide +kernel⟩
theorem mv_X12_152 : tw_cV RX12 152 yX12_readRack cX12_readRack 2 none 0 := ⟨(tw_all [(6, 185), (6, 187), (0, 49), (1, 13), (6, 188)] (by decide +kernel) (by decide)), rfl, by decide +kernel, by decide +kernel, by decide +kernel⟩
theorem mv_X12_155 : tw_cV RX12 155 yX12_lowest cX12_lowest 2 (some .int) 1 := ⟨(tw_all [(6, 189), (6, 191), (0, 50), (1, 13), (6, 192)] (by decide +kernel) (by decide)), rfl, by decide +kernel, by decide +kernel, by decide +kernel⟩
theorem mv_X12_158 : tw_cV RX12 158 yX12_highest cX12_highest 2 (some .int) 1 := ⟨(tw_all [(6, 193), (6, 195), (0, 51), (1, 13), (6, 196)] (by decide +kernel) (by decide)), rfl, by decide +kernel, by decide +kernel, by decide +kernel⟩
theorem mv_X12_161 : tw_cV RX12 161 yX12_readLine cX12_readLine 2 none 0 := ⟨(tw_all [(6, 156), (6, 158), (0, 42), (1, 13), (6, 159)] (by decide +kernel) (by decide)), rfl, by decide +kernel, by decide +kernel, by decide +kernel⟩
theorem ms_X12_168 : tw_cS RX12 168 yX12_flag cX12_flag 1 (some .int) 1 := ⟨(tw_all [(6, 224), (6, 225), (1, 13), (6, 226)] (by decide +kernel) (by decide)), by decide +kernel, by decide +kernel, by decide +kernel⟩
theorem mv_X12_172 : tw_cV RX12 172 yX12_pieces cX12_pieces 5 (some .int) 2 := ⟨(tw_all [(6, 220), (6, 222), (0, 54), (1, 13), (6, 223)] (by decide +kernel) (by decide)), rfl, by decide +kernel, by decide +kernel, by decide +kernel⟩
theorem mv_X12_175 : tw_cV RX12 175 yX12_isAt cX12_isAt 2 (some .boolean) 1 := ⟨(tw_all [(6, 211), (6, 213), (0, 52), (1, 13), (6, 214)] (by decide +kernel) (by decide)), rfl, by decide +kernel, by decide +kernel, by decide +kernel⟩
theorem mv_X12_181 : tw_cV RX12 181 yX12_numberAt cX12_numberAt 2 (some .int) 1 := ⟨(tw_all [(6, 216), (6, 218), (0, 53), (1, 13), (6, 219)] (by decide +kernel) (by decide)), rfl, by decide +kernel, by decide +kernel, by decide +kernel⟩
theorem mv_X12_184 : tw_cV RX12 184 yX12_of cX12_of 3 (some .int) 2 := ⟨(tw_all [(6, 227), (6, 229), (0, 55), (1, 13), (6, 230)] (by decide +kernel) (by decide)), rfl, by decide +kernel, by decide +kernel, by decide +kernel⟩
theorem ms_X12_189 : tw_cS RX12 189 yX12_size cX12_size 1 (some .int) 1 := ⟨(tw_all [(7, 0), (7, 1), (1, 13), (7, 2)] (by decide +kernel) (by decide)), by decide +kernel, by decide +kernel, by decide +kernel⟩
theorem mv_X12_192 : tw_cV RX12 192 yX12_all cX12_all 2 (some .int) 1 := ⟨(tw_all [(7, 3), (7, 5), (0, 57), (1, 13), (7, 6)] (by decide +kernel) (by decide)), rfl, by decide +kernel, by decide +kernel, by decide +kernel⟩
theorem mv_X12_195 : tw_cV RX12 195 yX12_whyNot cX12_whyNot 3 (some .int) 2 := ⟨(tw_all [(6, 235), (6, 237), (0, 56), (1, 13), (6, 238)] (by decide +kernel) (by decide)), rfl, by decide +kernel, by decide +kernel, by decide +kernel⟩
theorem mv_X12_198 : tw_cV RX12 198 yX12_footOf cX12_footOf 5 (some .int) 2 := ⟨(tw_all [(7, 19), (7, 21), (0, 58), (1, 13), (7, 22)] (by decide +kernel) (by decide)), rfl, by decide +kernel, by decide +kernel, by decide +kernel⟩
theorem mv_X12_201 : tw_cV RX12 201 yX12_sideOf cX12_sideOf 2 (some .int) 1 := ⟨(tw_all [(7, 31), (7, 33), (0, 61), (1, 13), (7, 34)] (by decide +kernel) (by decide)), rfl, by decide +kernel, by decide +kernel, by decide +kernel⟩
theorem mv_X12_204 : tw_cV RX12 204 yX12_hasSling cX12_hasSling 2 (some .boolean) 1 := ⟨(tw_all [(7, 35), (7, 37), (0, 62), (1, 13), (7, 38)] (by decide +kernel) (by decide)), rfl, by decide +kernel, by decide +kernel, by decide +kernel⟩
theorem mv_X12_207 : tw_cV RX12 207 yX12_chanceAt cX12_chanceAt 2 (some .int) 1 := ⟨(tw_all [(7, 23), (7, 25), (0, 59), (1, 13), (7, 26)] (by decide +kernel) (by decide)), rfl, by decide +kernel, by decide +kernel, by decide +kernel⟩
theorem mv_X12_210 : tw_cV RX12 210 yX12_isLifted cX12_isLifted 5 (some .boolean) 1 := ⟨(tw_all [(7, 27), (7, 29), (0, 60), (1, 13), (7, 30)] (by decide +kernel) (by decide)), rfl, by decide +kernel, by decide +kernel, by decide +kernel⟩
theorem mv_X12_213 : tw_cV RX12 213 yX12_offOf cX12_offOf 4 (some .int) 2 := ⟨(tw_all [(7, 39), (7, 41), (0, 63), (1, 13), (7, 42)] (by decide +kernel) (by decide)), rfl, by decide +kernel, by decide +kernel, by decide +kernel⟩
theorem mv_X12_217 : tw_cV RX12 217 yX12_take cX12_take 3 (some .int) 1 := ⟨(tw_all [(7, 47), (7, 8), (7, 9), (1, 13), (7, 10)] (by decide +kernel) (by decide)), rfl, by decide +kernel, by decide +kernel, by decide +kernel⟩
theorem mv_X12_235 : tw_cV RX12 235 yX12_dropOf cX12_dropOf 3 (some .int) 2 := ⟨(tw_all [(7, 60), (7, 62), (0, 66), (1, 13), (7, 63)] (by decide +kernel) (by decide)), rfl, by decide +kernel, by decide +kernel, by decide +kernel⟩
theorem mv_X12_238 : tw_cV RX12 238 yX12_findStruck cX12_findStruck 3 none 1 := ⟨(tw_all [(7, 64), (7, 66), (0, 67), (1, 13), (7, 67)] (by decide +kernel) (by decide)), rfl, by decide +kernel, by decide +kernel, by decide +kernel⟩
theorem mv_X12_242 : tw_cV RX12 242 yX12_arePieces cX12_arePieces 2 (some .boolean) 1 := ⟨(tw_all [(7, 52), (7, 54), (0, 64), (1, 13), (7, 55)] (by decide +kernel) (by decide)), rfl, by decide +kernel, by decide +kernel, by decide +kernel⟩
theorem mv_X12_245 : tw_cV RX12 245 yX12_falls cX12_falls 8 none 3 := ⟨(tw_all [(7, 56), (7, 58), (0, 65), (1, 13), (7, 59)] (by decide +kernel) (by decide)), rfl, by decide +kernel, by decide +kernel, by decide +kernel⟩
theorem mv_X12_249 : tw_cV RX12 249 yX12_hung cX12_hung 1 (some .int) 0 := ⟨(tw_all [(7, 68), (7, 70), (0, 68), (1, 13), (7, 71)] (by decide +kernel) (by decide)), rfl, by decide +kernel, by decide +kernel, by decide +kernel⟩
theorem mv_X12_252 : tw_cV RX12 252 yX12_harmNow cX12_harmNow 2 (some .int) 1 := ⟨(tw_all [(7, 72), (7, 74), (0, 69), (1, 13), (7, 75)] (by decide +kernel) (by decide)), rfl, by decide +kernel, by decide +kernel, by decide +kernel⟩
theorem mv_X12_259 : tw_cV RX12 259 yX12_likely cX12_likely 7 (some .long) 1 := ⟨(tw_all [(7, 82), (7, 84), (0, 70), (1, 13), (7, 85)] (by decide +kernel) (by decide)), rfl, by decide +kernel, by decide +kernel, by decide +kernel⟩
theorem mv_X12_263 : tw_cV RX12 263 yX12_whole cX12_whole 4 (some .long) 0 := ⟨(tw_all [(7, 86), (7, 88), (0, 71), (1, 13), (7, 89)] (by decide +kernel) (by decide)), rfl, by decide +kernel, by decide +kernel, by decide +kernel⟩
theorem ms_X12_267 : tw_cS RX12 267 yX12_told cX12_told 11 (some .long) 3 := ⟨(tw_all [(7, 90), (7, 91), (1, 13), (7, 92)] (by decide +kernel) (by decide)), by decide +kernel, by decide +kernel, by decide +kernel⟩
theorem mv_X12_277 : tw_cV RX12 277 yX12_findEffort cX12_findEffort 3 none 1 := ⟨(tw_all [(7, 101), (7, 103), (0, 72), (1, 13), (7, 104)] (by decide +kernel) (by decide)), rfl, by decide +kernel, by decide +kernel, by decide +kernel⟩
theorem mv_X12_280 : tw_cV RX12 280 yX12_riskOf cX12_riskOf 4 (some .int) 1 := ⟨(tw_all [(7, 105), (7, 107), (0, 73), (1, 13), (7, 108)] (by decide +kernel) (by decide)), rfl, by decide +kernel, by decide +kernel, by decide +kernel⟩
theorem mv_X12_283 : tw_cV RX12 283 yX12_copies cX12_copies 4 none 2 := ⟨(tw_all [(7, 113), (7, 115), (0, 74), (1, 13), (7, 116)] (by decide +kernel) (by decide)), rfl, by decide +kernel, by decide +kernel, by decide +kernel⟩
theorem mv_X12_286 : tw_cV RX12 286 yX12_bares cX12_bares 2 none 0 := ⟨(tw_all [(7, 134), (7, 136), (0, 78), (1, 13), (7, 137)] (by decide +kernel) (by decide)), rfl, by decide +kernel, by decide +kernel, by decide +kernel⟩
theorem mv_X12_289 : tw_cV RX12 289 yX12_puts cX12_puts 3 (some .boolean) 1 := ⟨(tw_all [(7, 138), (7, 140), (0, 79), (1, 13), (7, 141)] (by decide +kernel) (by decide)), rfl, by decide +kernel, by decide +kernel, by decide +kernel⟩
theorem mv_X12_298 : tw_cV RX12 298 yX12_cracks cX12_cracks 3 (some .int) 0 := ⟨(tw_all [(7, 126), (7, 128), (0, 76), (1, 13), (7, 129)] (by decide +kernel) (by decide)), rfl, by decide +kernel, by decide +kernel, by decide +kernel⟩
theorem mv_X12_301 : tw_cV RX12 301 yX12_lays cX12_lays 5 (some .boolean) 1 := ⟨(tw_all [(7, 130), (7, 132), (0, 77), (1, 13), (7, 133)] (by decide +kernel) (by decide)), rfl, by decide +kernel, by decide +kernel, by decide +kernel⟩
theorem ms_X12_304 : tw_cS RX12 304 yX12_countOf cX12_countOf 3 (some .int) 1 := ⟨(tw_all [(7, 142), (7, 143), (1, 13), (7, 144)] (by decide +kernel) (by decide)), by decide +kernel, by decide +kernel, by decide +kernel⟩
theorem mv_X12_309 : tw_cV RX12 309 yX12_findPlan cX12_findPlan 5 none 0 := ⟨(tw_all [(7, 122), (7, 124), (0, 75), (1, 13), (7, 125)] (by decide +kernel) (by decide)), rfl, by decide +kernel, by decide +kernel, by decide +kernel⟩
theorem mv_X12_314 : tw_cV RX12 314 yX12_follows cX12_follows 5 none 1 := ⟨(tw_all [(7, 150), (7, 152), (0, 80), (1, 13), (7, 153)] (by decide +kernel) (by decide)), rfl, by decide +kernel, by decide +kernel, by decide +kernel⟩
theorem mv_X12_317 : tw_cV RX12 317 yX12_slungNow cX12_slungNow 3 (some .int) 0 := ⟨(tw_all [(7, 166), (7, 168), (0, 81), (1, 13), (7, 169)] (by decide +kernel) (by decide)), rfl, by decide +kernel, by decide +kernel, by decide +kernel⟩
theorem mv_X12_320 : tw_cV RX12 320 yX12_dragBy cX12_dragBy 4 (some .int) 1 := ⟨(tw_all [(7, 170), (7, 172), (0, 82), (1, 13), (7, 173)] (by decide +kernel) (by decide)), rfl, by decide +kernel, by decide +kernel, by decide +kernel⟩
theorem mv_X12_323 : tw_cV RX12 323 yX12_isStance cX12_isStance 2 (some .boolean) 1 := ⟨(tw_all [(7, 187), (7, 189), (0, 84), (1, 13), (7, 190)] (by decide +kernel) (by decide)), rfl, by decide +kernel, by decide +kernel, by decide +kernel⟩
theorem mv_X12_331 : tw_cV RX12 331 yX12_findPitches cX12_findPitches 5 none 0 := ⟨(tw_all [(7, 183), (7, 185), (0, 83), (1, 13), (7, 186)] (by decide +kernel) (by decide)), rfl, by decide +kernel, by decide +kernel, by decide +kernel⟩
theorem mv_X12_334 : tw_cV RX12 334 yX12_costOf cX12_costOf 5 (some .int) 2 := ⟨(tw_all [(7, 200), (7, 202), (0, 86), (1, 13), (7, 203)] (by decide +kernel) (by decide)), rfl, by decide +kernel, by decide +kernel, by decide +kernel⟩
theorem mv_X12_339 : tw_cV RX12 339 yX12_turnsCost cX12_turnsCost 6 (some .int) 3 := ⟨(tw_all [(7, 196), (7, 198), (0, 85), (1, 13), (7, 199)] (by decide +kernel) (by decide)), rfl, by decide +kernel, by decide +kernel, by decide +kernel⟩
theorem mv_X12_343 : tw_cV RX12 343 yX12_triesAll cX12_triesAll 1 (some .int) 0 := ⟨(tw_all [(7, 212), (7, 214), (0, 87), (1, 13), (7, 215)] (by decide +kernel) (by decide)), rfl, by decide +kernel, by decide +kernel, by decide +kernel⟩
theorem mv_X12_346 : tw_cV RX12 346 yX12_isStory cX12_isStory 3 (some .boolean) 2 := ⟨(tw_all [(7, 228), (7, 230), (0, 88), (1, 13), (7, 231)] (by decide +kernel) (by decide)), rfl, by decide +kernel, by decide +kernel, by decide +kernel⟩
theorem mv_X12_350 : tw_cV RX12 350 yX12_weightOf cX12_weightOf 7 (some .long) 3 := ⟨(tw_all [(7, 236), (7, 238), (0, 89), (1, 13), (7, 239)] (by decide +kernel) (by decide)), rfl, by decide +kernel, by decide +kernel, by decide +kernel⟩
theorem mv_X12_356 : tw_cV RX12 356 yX12_isClear cX12_isClear 3 (some .boolean) 2 := ⟨(tw_all [(8, 17), (8, 19), (0, 93), (1, 13), (8, 20)] (by decide +kernel) (by decide)), rfl, by decide +kernel, by decide +kernel, by decide +kernel⟩
theorem mv_X12_359 : tw_cV RX12 359 yX12_areClear cX12_areClear 6 (some .boolean) 3 := ⟨(tw_all [(8, 13), (8, 15), (0, 92), (1, 13), (8, 16)] (by decide +kernel) (by decide)), rfl, by decide +kernel, by decide +kernel, by decide +kernel⟩
theorem mv_X12_366 : tw_cV RX12 366 yX12_findMore cX12_findMore 5 none 0 := ⟨(tw_all [(8, 9), (8, 11), (0, 91), (1, 13), (8, 12)] (by decide +kernel) (by decide)), rfl, by decide +kernel, by decide +kernel, by decide +kernel⟩
theorem mv_X12_369 : tw_cV RX12 369 yX12_canBegin cX12_canBegin 2 (some .boolean) 1 := ⟨(tw_all [(8, 21), (8, 23), (0, 94), (1, 13), (8, 24)] (by decide +kernel) (by decide)), rfl, by decide +kernel, by decide +kernel, by decide +kernel⟩
theorem mv_X12_372 : tw_cV RX12 372 yX12_findBolts cX12_findBolts 6 none 0 := ⟨(tw_all [(8, 5), (8, 7), (0, 90), (1, 13), (8, 8)] (by decide +kernel) (by decide)), rfl, by decide +kernel, by decide +kernel, by decide +kernel⟩
theorem ms_X12_377 : tw_cS RX12 377 yX12_isSheet cX12_isSheet 2 (some .boolean) 2 := ⟨(tw_all [(8, 37), (8, 38), (1, 13), (8, 39)] (by decide +kernel) (by decide)), by decide +kernel, by decide +kernel, by decide +kernel⟩
theorem mv_X12_380 : tw_cV RX12 380 yX12_put cX12_put 4 (some .int) 2 := ⟨(tw_all [(8, 49), (6, 232), (6, 233), (1, 13), (6, 234)] (by decide +kernel) (by decide)), rfl, by decide +kernel, by decide +kernel, by decide +kernel⟩
theorem mv_X12_386 : tw_cV RX12 386 yX12_feetWith cX12_feetWith 4 (some .int) 1 := ⟨(tw_all [(8, 58), (8, 60), (0, 95), (1, 13), (8, 61)] (by decide +kernel) (by decide)), rfl, by decide +kernel, by decide +kernel, by decide +kernel⟩
theorem mv_X12_389 : tw_cV RX12 389 yX12_racked cX12_racked 3 (some .int) 0 := ⟨(tw_all [(8, 62), (8, 64), (0, 96), (1, 13), (8, 65)] (by decide +kernel) (by decide)), rfl, by decide +kernel, by decide +kernel, by decide +kernel⟩
theorem mv_J0_335 : tw_cV RJ0 335 yJ0_coder_7d493 cJ0_coder_7d493 1 (some .byte) 0 := ⟨(tw_all [(3, 92), (3, 93), (3, 94), (1, 14), (3, 95)] (by decide +kernel) (by decide)), rfl, by decide +kernel, by decide +kernel, by decide +kernel⟩
theorem mv_J0_492 : tw_cV RJ0 492 yJ0_isLatin1_aae02 cJ0_isLatin1_aae02 1 (some .boolean) 0 := ⟨(tw_all [(3, 102), (3, 103), (3, 104), (1, 14), (3, 105)] (by decide +kernel) (by decide)), rfl, by decide +kernel, by decide +kernel, by decide +kernel⟩
theorem ms_J0_495 : tw_cS RJ0 495 yJ1_charAt_3b067 cJ1_charAt_3b067 2 (some .char) 2 := ⟨(tw_all [(3, 106), (3, 107), (1, 15), (3, 108)] (by decide +kernel) (by decide)), by decide +kernel, by decide +kernel, by decide +kernel⟩
theorem ms_J0_498 : tw_cS RJ0 498 yJ2_charAt_3b067 cJ2_charAt_3b067 2 (some .char) 2 := ⟨(tw_all [(3, 117), (3, 118), (1, 17), (3, 119)] (by decide +kernel) (by decide)), by decide +kernel, by decide +kernel, by decide +kernel⟩
theorem ms_J0_1059 : tw_cS RJ0 1059 yJ3_checkIndex_8e157 cJ3_checkIndex_8e157 3 (some .int) 3 := ⟨(tw_all [(3, 114), (3, 115), (1, 16), (3, 116)] (by decide +kernel) (by decide)), by decide +kernel, by decide +kernel, by decide +kernel⟩
theorem ms_J1_9 : tw_cS RJ1 9 yJ0_checkIndex_df160 cJ0_checkIndex_df160 2 none 2 := ⟨(tw_all [(3, 109), (3, 110), (1, 14), (3, 111)] (by decide +kernel) (by decide)), by decide +kernel, by decide +kernel, by decide +kernel⟩
theorem ms_J2_48 : tw_cS RJ2 48 yJ2_length_9d52b cJ2_length_9d52b 1 (some .int) 1 := ⟨(tw_all [(3, 123), (3, 124), (1, 17), (3, 125)] (by decide +kernel) (by decide)), by decide +kernel, by decide +kernel, by decide +kernel⟩
theorem ms_J2_67 : tw_cS RJ2 67 yJ2_checkIndex_2214a cJ2_checkIndex_2214a 2 none 2 := ⟨(tw_all [(3, 120), (3, 121), (1, 17), (3, 122)] (by decide +kernel) (by decide)), by decide +kernel, by decide +kernel, by decide +kernel⟩
theorem ms_J2_71 : tw_cS RJ2 71 yJ2_getChar_3b067 cJ2_getChar_3b067 2 (some .char) 2 := ⟨(tw_all [(3, 127), (3, 128), (1, 17), (3, 129)] (by decide +kernel) (by decide)), by decide +kernel, by decide +kernel, by decide +kernel⟩
theorem ms_J2_414 : tw_cS RJ2 414 yJ0_checkIndex_df160 cJ0_checkIndex_df160 2 none 2 := ⟨(tw_all [(3, 126), (3, 110), (1, 14), (3, 111)] (by decide +kernel) (by decide)), by decide +kernel, by decide +kernel, by decide +kernel⟩
