/-! methods with a table of their own -/
abbrev kx_row (h : ExceptionTableEntry) : Nat × Nat × Nat × Nat := (h.startPc, h.endPc, h.handlerPc, h.catchType)
theorem kx_tab1 {l : List ExceptionTableEntry} {a : Nat × Nat × Nat × Nat} (h : l.map kx_row = [a]) : ∃ x1, l = [x1] ∧ kx_row x1 = a := by
  rcases l with _ | ⟨x1, l⟩
  · exact absurd h (by simp)
  · rcases l with _ | ⟨x2, l⟩
    · exact ⟨x1, rfl, by simpa using h⟩
    · exact absurd h (by simp)
theorem kx_tab2 {l : List ExceptionTableEntry} {a b : Nat × Nat × Nat × Nat} (h : l.map kx_row = [a, b]) : ∃ x1 x2, l = [x1, x2] ∧ kx_row x1 = a ∧ kx_row x2 = b := by
  rcases l with _ | ⟨x1, l⟩
  · exact absurd h (by simp)
  · rw [List.map_cons] at h
    obtain ⟨h1, h2⟩ := List.cons.inj h
    obtain ⟨x2, e, h3⟩ := kx_tab1 h2
    exact ⟨x1, x2, by rw [e], h1, h3⟩
theorem kx_tab3 {l : List ExceptionTableEntry} {a b d : Nat × Nat × Nat × Nat} (h : l.map kx_row = [a, b, d]) : ∃ x1 x2 x3, l = [x1, x2, x3] ∧ kx_row x1 = a ∧ kx_row x2 = b ∧ kx_row x3 = d := by
  rcases l with _ | ⟨x1, l⟩
  · exact absurd h (by simp)
  · rw [List.map_cons] at h
    obtain ⟨h1, h2⟩ := List.cons.inj h
    obtain ⟨x2, x3, e, h3, h4⟩ := kx_tab2 h2
    exact ⟨x1, x2, x3, by rw [e], h1, h3, h4⟩
