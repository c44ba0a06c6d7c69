/-! WORDS, letter by letter. -/
theorem nmE_0 (f : Int → Int) (s e : Int) : (nm f s e 0 = 1 ∧ e - s = 2 ∧ f s = 97 ∧ f (s + 1) = 116) ∨ (nm f s e 0 = 0 ∧ ¬ (e - s = 2 ∧ f s = 97 ∧ f (s + 1) = 116)) := by
  by_cases h : e - s = 2 ∧ f s = 97 ∧ f (s + 1) = 116
  · exact Or.inl ⟨nm_1 (t := 0) h.1 (fun i hi => match i, hi with | 0, _ => by rw [show s + ((0 : Nat) : Int) = s from Int.add_zero s]; exact h.2.1 | 1, _ => h.2.2 | j + 2, q => absurd q (show ¬ j + 2 < 2 by omega)), h⟩
  · refine Or.inr ⟨?_, h⟩
    unfold nm
    rw [if_neg (fun q => h ⟨q.1, by have z := q.2 0 (by decide); rw [show s + ((0 : Nat) : Int) = s from Int.add_zero s] at z; exact z, q.2 1 (by decide)⟩)]
theorem nmE_1 (f : Int → Int) (s e : Int) : (nm f s e 1 = 1 ∧ e - s = 4 ∧ f s = 114 ∧ f (s + 1) = 97 ∧ f (s + 2) = 99 ∧ f (s + 3) = 107) ∨ (nm f s e 1 = 0 ∧ ¬ (e - s = 4 ∧ f s = 114 ∧ f (s + 1) = 97 ∧ f (s + 2) = 99 ∧ f (s + 3) = 107)) := by
  by_cases h : e - s = 4 ∧ f s = 114 ∧ f (s + 1) = 97 ∧ f (s + 2) = 99 ∧ f (s + 3) = 107
  · exact Or.inl ⟨nm_1 (t := 1) h.1 (fun i hi => match i, hi with | 0, _ => by rw [show s + ((0 : Nat) : Int) = s from Int.add_zero s]; exact h.2.1 | 1, _ => h.2.2.1 | 2, _ => h.2.2.2.1 | 3, _ => h.2.2.2.2 | j + 4, q => absurd q (show ¬ j + 4 < 4 by omega)), h⟩
  · refine Or.inr ⟨?_, h⟩
    unfold nm
    rw [if_neg (fun q => h ⟨q.1, by have z := q.2 0 (by decide); rw [show s + ((0 : Nat) : Int) = s from Int.add_zero s] at z; exact z, q.2 1 (by decide), q.2 2 (by decide), q.2 3 (by decide)⟩)]
theorem nmE_2 (f : Int → Int) (s e : Int) : (nm f s e 2 = 1 ∧ e - s = 3 ∧ f s = 116 ∧ f (s + 1) = 111 ∧ f (s + 2) = 112) ∨ (nm f s e 2 = 0 ∧ ¬ (e - s = 3 ∧ f s = 116 ∧ f (s + 1) = 111 ∧ f (s + 2) = 112)) := by
  by_cases h : e - s = 3 ∧ f s = 116 ∧ f (s + 1) = 111 ∧ f (s + 2) = 112
  · exact Or.inl ⟨nm_1 (t := 2) h.1 (fun i hi => match i, hi with | 0, _ => by rw [show s + ((0 : Nat) : Int) = s from Int.add_zero s]; exact h.2.1 | 1, _ => h.2.2.1 | 2, _ => h.2.2.2 | j + 3, q => absurd q (show ¬ j + 3 < 3 by omega)), h⟩
  · refine Or.inr ⟨?_, h⟩
    unfold nm
    rw [if_neg (fun q => h ⟨q.1, by have z := q.2 0 (by decide); rw [show s + ((0 : Nat) : Int) = s from Int.add_zero s] at z; exact z, q.2 1 (by decide), q.2 2 (by decide)⟩)]
theorem nmE_3 (f : Int → Int) (s e : Int) : (nm f s e 3 = 1 ∧ e - s = 8 ∧ f s = 115 ∧ f (s + 1) = 116 ∧ f (s + 2) = 114 ∧ f (s + 3) = 101 ∧ f (s + 4) = 110 ∧ f (s + 5) = 103 ∧ f (s + 6) = 116 ∧ f (s + 7) = 104) ∨ (nm f s e 3 = 0 ∧ ¬ (e - s = 8 ∧ f s = 115 ∧ f (s + 1) = 116 ∧ f (s + 2) = 114 ∧ f (s + 3) = 101 ∧ f (s + 4) = 110 ∧ f (s + 5) = 103 ∧ f (s + 6) = 116 ∧ f (s + 7) = 104)) := by
  by_cases h : e - s = 8 ∧ f s = 115 ∧ f (s + 1) = 116 ∧ f (s + 2) = 114 ∧ f (s + 3) = 101 ∧ f (s + 4) = 110 ∧ f (s + 5) = 103 ∧ f (s + 6) = 116 ∧ f (s + 7) = 104
  · exact Or.inl ⟨nm_1 (t := 3) h.1 (fun i hi => match i, hi with | 0, _ => by rw [show s + ((0 : Nat) : Int) = s from Int.add_zero s]; exact h.2.1 | 1, _ => h.2.2.1 | 2, _ => h.2.2.2.1 | 3, _ => h.2.2.2.2.1 | 4, _ => h.2.2.2.2.2.1 | 5, _ => h.2.2.2.2.2.2.1 | 6, _ => h.2.2.2.2.2.2.2.1 | 7, _ => h.2.2.2.2.2.2.2.2 | j + 8, q => absurd q (show ¬ j + 8 < 8 by omega)), h⟩
  · refine Or.inr ⟨?_, h⟩
    unfold nm
    rw [if_neg (fun q => h ⟨q.1, by have z := q.2 0 (by decide); rw [show s + ((0 : Nat) : Int) = s from Int.add_zero s] at z; exact z, q.2 1 (by decide), q.2 2 (by decide), q.2 3 (by decide), q.2 4 (by decide), q.2 5 (by decide), q.2 6 (by decide), q.2 7 (by decide)⟩)]
theorem nmE_4 (f : Int → Int) (s e : Int) : (nm f s e 4 = 1 ∧ e - s = 5 ∧ f s = 112 ∧ f (s + 1) = 108 ∧ f (s + 2) = 97 ∧ f (s + 3) = 99 ∧ f (s + 4) = 101) ∨ (nm f s e 4 = 0 ∧ ¬ (e - s = 5 ∧ f s = 112 ∧ f (s + 1) = 108 ∧ f (s + 2) = 97 ∧ f (s + 3) = 99 ∧ f (s + 4) = 101)) := by
  by_cases h : e - s = 5 ∧ f s = 112 ∧ f (s + 1) = 108 ∧ f (s + 2) = 97 ∧ f (s + 3) = 99 ∧ f (s + 4) = 101
  · exact Or.inl ⟨nm_1 (t := 4) h.1 (fun i hi => match i, hi with | 0, _ => by rw [show s + ((0 : Nat) : Int) = s from Int.add_zero s]; exact h.2.1 | 1, _ => h.2.2.1 | 2, _ => h.2.2.2.1 | 3, _ => h.2.2.2.2.1 | 4, _ => h.2.2.2.2.2 | j + 5, q => absurd q (show ¬ j + 5 < 5 by omega)), h⟩
  · refine Or.inr ⟨?_, h⟩
    unfold nm
    rw [if_neg (fun q => h ⟨q.1, by have z := q.2 0 (by decide); rw [show s + ((0 : Nat) : Int) = s from Int.add_zero s] at z; exact z, q.2 1 (by decide), q.2 2 (by decide), q.2 3 (by decide), q.2 4 (by decide)⟩)]
theorem nmE_5 (f : Int → Int) (s e : Int) : (nm f s e 5 = 1 ∧ e - s = 4 ∧ f s = 114 ∧ f (s + 1) = 111 ∧ f (s + 2) = 112 ∧ f (s + 3) = 101) ∨ (nm f s e 5 = 0 ∧ ¬ (e - s = 4 ∧ f s = 114 ∧ f (s + 1) = 111 ∧ f (s + 2) = 112 ∧ f (s + 3) = 101)) := by
  by_cases h : e - s = 4 ∧ f s = 114 ∧ f (s + 1) = 111 ∧ f (s + 2) = 112 ∧ f (s + 3) = 101
  · exact Or.inl ⟨nm_1 (t := 5) h.1 (fun i hi => match i, hi with | 0, _ => by rw [show s + ((0 : Nat) : Int) = s from Int.add_zero s]; exact h.2.1 | 1, _ => h.2.2.1 | 2, _ => h.2.2.2.1 | 3, _ => h.2.2.2.2 | j + 4, q => absurd q (show ¬ j + 4 < 4 by omega)), h⟩
  · refine Or.inr ⟨?_, h⟩
    unfold nm
    rw [if_neg (fun q => h ⟨q.1, by have z := q.2 0 (by decide); rw [show s + ((0 : Nat) : Int) = s from Int.add_zero s] at z; exact z, q.2 1 (by decide), q.2 2 (by decide), q.2 3 (by decide)⟩)]
theorem nmE_6 (f : Int → Int) (s e : Int) : (nm f s e 6 = 1 ∧ e - s = 4 ∧ f s = 103 ∧ f (s + 1) = 105 ∧ f (s + 2) = 118 ∧ f (s + 3) = 101) ∨ (nm f s e 6 = 0 ∧ ¬ (e - s = 4 ∧ f s = 103 ∧ f (s + 1) = 105 ∧ f (s + 2) = 118 ∧ f (s + 3) = 101)) := by
  by_cases h : e - s = 4 ∧ f s = 103 ∧ f (s + 1) = 105 ∧ f (s + 2) = 118 ∧ f (s + 3) = 101
  · exact Or.inl ⟨nm_1 (t := 6) h.1 (fun i hi => match i, hi with | 0, _ => by rw [show s + ((0 : Nat) : Int) = s from Int.add_zero s]; exact h.2.1 | 1, _ => h.2.2.1 | 2, _ => h.2.2.2.1 | 3, _ => h.2.2.2.2 | j + 4, q => absurd q (show ¬ j + 4 < 4 by omega)), h⟩
  · refine Or.inr ⟨?_, h⟩
    unfold nm
    rw [if_neg (fun q => h ⟨q.1, by have z := q.2 0 (by decide); rw [show s + ((0 : Nat) : Int) = s from Int.add_zero s] at z; exact z, q.2 1 (by decide), q.2 2 (by decide), q.2 3 (by decide)⟩)]
theorem nmE_7 (f : Int → Int) (s e : Int) : (nm f s e 7 = 1 ∧ e - s = 4 ∧ f s = 102 ∧ f (s + 1) = 105 ∧ f (s + 2) = 116 ∧ f (s + 3) = 115) ∨ (nm f s e 7 = 0 ∧ ¬ (e - s = 4 ∧ f s = 102 ∧ f (s + 1) = 105 ∧ f (s + 2) = 116 ∧ f (s + 3) = 115)) := by
  by_cases h : e - s = 4 ∧ f s = 102 ∧ f (s + 1) = 105 ∧ f (s + 2) = 116 ∧ f (s + 3) = 115
  · exact Or.inl ⟨nm_1 (t := 7) h.1 (fun i hi => match i, hi with | 0, _ => by rw [show s + ((0 : Nat) : Int) = s from Int.add_zero s]; exact h.2.1 | 1, _ => h.2.2.1 | 2, _ => h.2.2.2.1 | 3, _ => h.2.2.2.2 | j + 4, q => absurd q (show ¬ j + 4 < 4 by omega)), h⟩
  · refine Or.inr ⟨?_, h⟩
    unfold nm
    rw [if_neg (fun q => h ⟨q.1, by have z := q.2 0 (by decide); rw [show s + ((0 : Nat) : Int) = s from Int.add_zero s] at z; exact z, q.2 1 (by decide), q.2 2 (by decide), q.2 3 (by decide)⟩)]
theorem nmE_8 (f : Int → Int) (s e : Int) : (nm f s e 8 = 1 ∧ e - s = 5 ∧ f s = 104 ∧ f (s + 1) = 111 ∧ f (s + 2) = 108 ∧ f (s + 3) = 100 ∧ f (s + 4) = 115) ∨ (nm f s e 8 = 0 ∧ ¬ (e - s = 5 ∧ f s = 104 ∧ f (s + 1) = 111 ∧ f (s + 2) = 108 ∧ f (s + 3) = 100 ∧ f (s + 4) = 115)) := by
  by_cases h : e - s = 5 ∧ f s = 104 ∧ f (s + 1) = 111 ∧ f (s + 2) = 108 ∧ f (s + 3) = 100 ∧ f (s + 4) = 115
  · exact Or.inl ⟨nm_1 (t := 8) h.1 (fun i hi => match i, hi with | 0, _ => by rw [show s + ((0 : Nat) : Int) = s from Int.add_zero s]; exact h.2.1 | 1, _ => h.2.2.1 | 2, _ => h.2.2.2.1 | 3, _ => h.2.2.2.2.1 | 4, _ => h.2.2.2.2.2 | j + 5, q => absurd q (show ¬ j + 5 < 5 by omega)), h⟩
  · refine Or.inr ⟨?_, h⟩
    unfold nm
    rw [if_neg (fun q => h ⟨q.1, by have z := q.2 0 (by decide); rw [show s + ((0 : Nat) : Int) = s from Int.add_zero s] at z; exact z, q.2 1 (by decide), q.2 2 (by decide), q.2 3 (by decide), q.2 4 (by decide)⟩)]
theorem nmE_9 (f : Int → Int) (s e : Int) : (nm f s e 9 = 1 ∧ e - s = 3 ∧ f s = 108 ∧ f (s + 1) = 111 ∧ f (s + 2) = 119) ∨ (nm f s e 9 = 0 ∧ ¬ (e - s = 3 ∧ f s = 108 ∧ f (s + 1) = 111 ∧ f (s + 2) = 119)) := by
  by_cases h : e - s = 3 ∧ f s = 108 ∧ f (s + 1) = 111 ∧ f (s + 2) = 119
  · exact Or.inl ⟨nm_1 (t := 9) h.1 (fun i hi => match i, hi with | 0, _ => by rw [show s + ((0 : Nat) : Int) = s from Int.add_zero s]; exact h.2.1 | 1, _ => h.2.2.1 | 2, _ => h.2.2.2 | j + 3, q => absurd q (show ¬ j + 3 < 3 by omega)), h⟩
  · refine Or.inr ⟨?_, h⟩
    unfold nm
    rw [if_neg (fun q => h ⟨q.1, by have z := q.2 0 (by decide); rw [show s + ((0 : Nat) : Int) = s from Int.add_zero s] at z; exact z, q.2 1 (by decide), q.2 2 (by decide)⟩)]
theorem nmE_10 (f : Int → Int) (s e : Int) : (nm f s e 10 = 1 ∧ e - s = 5 ∧ f s = 99 ∧ f (s + 1) = 114 ∧ f (s + 2) = 97 ∧ f (s + 3) = 99 ∧ f (s + 4) = 107) ∨ (nm f s e 10 = 0 ∧ ¬ (e - s = 5 ∧ f s = 99 ∧ f (s + 1) = 114 ∧ f (s + 2) = 97 ∧ f (s + 3) = 99 ∧ f (s + 4) = 107)) := by
  by_cases h : e - s = 5 ∧ f s = 99 ∧ f (s + 1) = 114 ∧ f (s + 2) = 97 ∧ f (s + 3) = 99 ∧ f (s + 4) = 107
  · exact Or.inl ⟨nm_1 (t := 10) h.1 (fun i hi => match i, hi with | 0, _ => by rw [show s + ((0 : Nat) : Int) = s from Int.add_zero s]; exact h.2.1 | 1, _ => h.2.2.1 | 2, _ => h.2.2.2.1 | 3, _ => h.2.2.2.2.1 | 4, _ => h.2.2.2.2.2 | j + 5, q => absurd q (show ¬ j + 5 < 5 by omega)), h⟩
  · refine Or.inr ⟨?_, h⟩
    unfold nm
    rw [if_neg (fun q => h ⟨q.1, by have z := q.2 0 (by decide); rw [show s + ((0 : Nat) : Int) = s from Int.add_zero s] at z; exact z, q.2 1 (by decide), q.2 2 (by decide), q.2 3 (by decide), q.2 4 (by decide)⟩)]
theorem nmE_11 (f : Int → Int) (s e : Int) : (nm f s e 11 = 1 ∧ e - s = 5 ∧ f s = 108 ∧ f (s + 1) = 101 ∧ f (s + 2) = 100 ∧ f (s + 3) = 103 ∧ f (s + 4) = 101) ∨ (nm f s e 11 = 0 ∧ ¬ (e - s = 5 ∧ f s = 108 ∧ f (s + 1) = 101 ∧ f (s + 2) = 100 ∧ f (s + 3) = 103 ∧ f (s + 4) = 101)) := by
  by_cases h : e - s = 5 ∧ f s = 108 ∧ f (s + 1) = 101 ∧ f (s + 2) = 100 ∧ f (s + 3) = 103 ∧ f (s + 4) = 101
  · exact Or.inl ⟨nm_1 (t := 11) h.1 (fun i hi => match i, hi with | 0, _ => by rw [show s + ((0 : Nat) : Int) = s from Int.add_zero s]; exact h.2.1 | 1, _ => h.2.2.1 | 2, _ => h.2.2.2.1 | 3, _ => h.2.2.2.2.1 | 4, _ => h.2.2.2.2.2 | j + 5, q => absurd q (show ¬ j + 5 < 5 by omega)), h⟩
  · refine Or.inr ⟨?_, h⟩
    unfold nm
    rw [if_neg (fun q => h ⟨q.1, by have z := q.2 0 (by decide); rw [show s + ((0 : Nat) : Int) = s from Int.add_zero s] at z; exact z, q.2 1 (by decide), q.2 2 (by decide), q.2 3 (by decide), q.2 4 (by decide)⟩)]
theorem nmE_12 (f : Int → Int) (s e : Int) : (nm f s e 12 = 1 ∧ e - s = 4 ∧ f s = 114 ∧ f (s + 1) = 101 ∧ f (s + 2) = 115 ∧ f (s + 3) = 116) ∨ (nm f s e 12 = 0 ∧ ¬ (e - s = 4 ∧ f s = 114 ∧ f (s + 1) = 101 ∧ f (s + 2) = 115 ∧ f (s + 3) = 116)) := by
  by_cases h : e - s = 4 ∧ f s = 114 ∧ f (s + 1) = 101 ∧ f (s + 2) = 115 ∧ f (s + 3) = 116
  · exact Or.inl ⟨nm_1 (t := 12) h.1 (fun i hi => match i, hi with | 0, _ => by rw [show s + ((0 : Nat) : Int) = s from Int.add_zero s]; exact h.2.1 | 1, _ => h.2.2.1 | 2, _ => h.2.2.2.1 | 3, _ => h.2.2.2.2 | j + 4, q => absurd q (show ¬ j + 4 < 4 by omega)), h⟩
  · refine Or.inr ⟨?_, h⟩
    unfold nm
    rw [if_neg (fun q => h ⟨q.1, by have z := q.2 0 (by decide); rw [show s + ((0 : Nat) : Int) = s from Int.add_zero s] at z; exact z, q.2 1 (by decide), q.2 2 (by decide), q.2 3 (by decide)⟩)]
theorem nmE_13 (f : Int → Int) (s e : Int) : (nm f s e 13 = 1 ∧ e - s = 4 ∧ f s = 115 ∧ f (s + 1) = 105 ∧ f (s + 2) = 100 ∧ f (s + 3) = 101) ∨ (nm f s e 13 = 0 ∧ ¬ (e - s = 4 ∧ f s = 115 ∧ f (s + 1) = 105 ∧ f (s + 2) = 100 ∧ f (s + 3) = 101)) := by
  by_cases h : e - s = 4 ∧ f s = 115 ∧ f (s + 1) = 105 ∧ f (s + 2) = 100 ∧ f (s + 3) = 101
  · exact Or.inl ⟨nm_1 (t := 13) h.1 (fun i hi => match i, hi with | 0, _ => by rw [show s + ((0 : Nat) : Int) = s from Int.add_zero s]; exact h.2.1 | 1, _ => h.2.2.1 | 2, _ => h.2.2.2.1 | 3, _ => h.2.2.2.2 | j + 4, q => absurd q (show ¬ j + 4 < 4 by omega)), h⟩
  · refine Or.inr ⟨?_, h⟩
    unfold nm
    rw [if_neg (fun q => h ⟨q.1, by have z := q.2 0 (by decide); rw [show s + ((0 : Nat) : Int) = s from Int.add_zero s] at z; exact z, q.2 1 (by decide), q.2 2 (by decide), q.2 3 (by decide)⟩)]
