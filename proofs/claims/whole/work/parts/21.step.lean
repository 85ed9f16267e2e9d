/-! one box is settled, in the town and in the reference -/
theorem rl_up_fr {s t s' t' : kx_S} {i : Nat} (h7 : s' 9 i 7 = s 9 i 7) (h17 : t' 17 0 = t 17 0) (h18 : t' 18 0 i = t 18 0 i) (h19 : t' 19 0 i = t 19 0 i) (h21 : t' 21 0 = t 21 0) (h22 : t' 22 0 = t 22 0) (h23 : t' 23 0 = t 23 0) (h24 : t' 24 0 = t 24 0) (h29 : t' 29 0 = t 29 0) (h : rl_up s t i) : rl_up s' t' i := by
  have en : tm_n t' i = tm_n t i := by unfold tm_n; rw [h17]
  have est : ∀ n, tm_st t' i n = tm_st t i n := fun n => tm_st_eq h21 h22 h23 h24 h29
  have epl : tm_pl t' i = tm_pl t i := by unfold tm_pl; rw [h21]
  have edl : ∀ n, tm_dl t' i n = tm_dl t i n := fun n => by unfold tm_dl; rw [est, epl]
  unfold rl_up
  rw [en, est, edl, h7, h18, h19]
  exact h
theorem rl_raw_fr {nb : Nat} {s t s' t' : kx_S} (h0 : s' 0 0 = s 0 0) (h3 : s' 3 0 = s 3 0) (h8 : ∀ d, s' 8 d = s 8 d) (h90 : ∀ i, s' 9 i 0 = s 9 i 0) (h91 : ∀ i, s' 9 i 1 = s 9 i 1) (h96 : ∀ i, s' 9 i 6 = s 9 i 6) (h10 : ∀ i, s' 10 i = s 10 i) (h11 : ∀ i, s' 11 i = s 11 i) (h12 : ∀ i, s' 12 i = s 12 i) (h13 : ∀ i, s' 13 i = s 13 i)
    (t0 : t' 14 0 0 = t 14 0 0) (t7 : t' 14 0 7 = t 14 0 7) (t17 : t' 14 0 17 = t 14 0 17) (hq : ∀ q, 15 ≤ q → q ≤ 29 → q ≠ 18 → q ≠ 19 → q ≠ 20 → t' q 0 = t q 0) (t18 : ∀ i, nb ≤ i → t' 18 0 i = t 18 0 i) (t19 : ∀ i, nb ≤ i → t' 19 0 i = t 19 0 i) (h : rl_raw nb s t) : rl_raw nb s' t' := by
  have en : ∀ i, tm_n t' i = tm_n t i := fun i => by unfold tm_n; rw [hq 17 (by decide) (by decide) (by decide) (by decide) (by decide)]
  obtain ⟨a1, a2, a3, a4, a5, a6, a7, a8, a9, a10, a11⟩ := h
  refine ⟨a1, by rw [h0]; exact a2, by rw [t7]; exact a3, by rw [h0, t0]; exact a4, by rw [t0]; exact a5, by rw [t0]; exact a6, by rw [h0, t17]; exact a7, fun w hw => by rw [h3, hq 24 (by decide) (by decide) (by decide) (by decide) (by decide)]; exact a8 w hw, fun d hd => ?_, fun i hi => ?_, fun i h1 h2 => ?_⟩
  · have h := a9 d hd
    unfold rl_door at h ⊢
    rw [h8, hq 25 (by decide) (by decide) (by decide) (by decide) (by decide), hq 26 (by decide) (by decide) (by decide) (by decide) (by decide), hq 27 (by decide) (by decide) (by decide) (by decide) (by decide), hq 28 (by decide) (by decide) (by decide) (by decide) (by decide), hq 29 (by decide) (by decide) (by decide) (by decide) (by decide)]
    exact h
  · have h := a10 i hi
    unfold rl_box rl_scan at h ⊢
    rw [en, h90, h91, h96, h10, h11, h12, h13, t0, hq 15 (by decide) (by decide) (by decide) (by decide) (by decide), hq 16 (by decide) (by decide) (by decide) (by decide) (by decide), hq 17 (by decide) (by decide) (by decide) (by decide) (by decide), hq 21 (by decide) (by decide) (by decide) (by decide) (by decide), hq 22 (by decide) (by decide) (by decide) (by decide) (by decide), hq 23 (by decide) (by decide) (by decide) (by decide) (by decide)]
    exact h
  · rw [hq 17 (by decide) (by decide) (by decide) (by decide) (by decide), t18 i h1, t19 i h1]
    exact a11 i h1 h2
theorem tw_stl_f (sg : kx_S) (i n : Nat) {j : Nat} (h7 : j ≠ 7) (h8 : j ≠ 8) (h9 : j ≠ 9) (h10 : j ≠ 10) : (tw_stl sg i n).1 j = sg 9 i j := by
  have hA : ∀ (dl : Bool) (x : tw_R), (tw_debA dl x).1 j = x.1 j := by
    intro dl x; unfold tw_debA; split
    · exact upd_n h8
    · rfl
  have hB : ∀ (dl : Bool) (co : Int32) (x : tw_R), (tw_debB dl co x).1 j = x.1 j := by
    intro dl co x; unfold tw_debB; split
    · show upd (upd x.1 9 1) 10 co j = x.1 j
      rw [upd_n h10, upd_n h9]
    · rfl
  have hC : ∀ (dl : Bool) (x : tw_R), (tw_debC dl x).1 j = x.1 j := by
    intro dl x; unfold tw_debC; split
    · exact upd_n h9
    · rfl
  unfold tw_stl tw_deb
  rw [hC, hB, hA]
  exact upd_n h7
theorem tm_deb_18 (dl : Bool) (i : Nat) (co v : Int32) (x : tm_R) {j : Nat} (hj : j ≠ i) : (tm_debB dl i co (tm_debA dl i v x)).2.1 j = x.2.1 j ∧ (tm_debB dl i co (tm_debA dl i v x)).2.2.1 j = x.2.2.1 j ∧ (tm_debB dl i co (tm_debA dl i v x)).2.2.2 j = x.2.2.2 j := by
  have hA : (tm_debA dl i v x).2.1 j = x.2.1 j ∧ (tm_debA dl i v x).2.2.1 j = x.2.2.1 j ∧ (tm_debA dl i v x).2.2.2 j = x.2.2.2 j := by
    unfold tm_debA; split
    · exact ⟨upd_n hj, rfl, rfl⟩
    · exact ⟨rfl, rfl, rfl⟩
  have hB : ∀ x : tm_R, (tm_debB dl i co x).2.1 j = x.2.1 j ∧ (tm_debB dl i co x).2.2.1 j = x.2.2.1 j ∧ (tm_debB dl i co x).2.2.2 j = x.2.2.2 j := by
    intro x
    unfold tm_debB; split
    · exact ⟨rfl, upd_n hj, upd_n hj⟩
    · exact ⟨rfl, rfl, rfl⟩
  obtain ⟨a, b, c⟩ := hB (tm_debA dl i v x)
  rw [a, b, c]
  exact hA
theorem tw_ins {a f : Int32} (ha : tw_01 a) (h : ¬ a = 0) : a = 1 := by rcases ha with e | e; exact absurd e h; exact e
/-- the numbers of one settling, side by side -/
theorem rl_deb {dl : Bool} {co : Int32} {i : Nat} {R Lg Fs M14 M18 M19 M20 : Nat → Int32} {v : Int32} (hv : R 1 = v) (h8 : R 8 = M18 i) (h9 : R 9 = M19 i) (hi18 : tw_01 (M18 i)) (hi19 : tw_01 (M19 i)) (h10 : ¬ M19 i = 0 → R 10 = M20 i) (hl1 : Lg 1 = M14 18) (hl2 : Lg 2 = M14 19) :
    let a := tw_deb dl co (R, Lg, Fs)
    let b := tm_debB dl i co (tm_debA dl i v (M14, M18, M19, M20))
    a.1 8 = b.2.1 i ∧ a.1 9 = b.2.2.1 i ∧ tw_01 (b.2.1 i) ∧ b.2.2.1 i = tw_b dl ∧ (¬ b.2.2.1 i = 0 → a.1 10 = b.2.2.2 i) ∧ a.2.1 1 = b.1 18 ∧ a.2.1 2 = b.1 19 ∧ (dl = true → b.2.1 i = 0) ∧ a.1 7 = R 7 ∧
    ∀ c, c < 4 → a.2.2 c = Fs c + (if dl = true ∧ M19 i = 0 then (if co = nI c then 10 * R 0 else 0) else if dl = false ∧ ¬ M19 i = 0 then (if M20 i = nI c then (-10) * R 0 else 0) else 0) ∧ (b.2.2.1 i = M19 i → b.2.2.2 i = M20 i) := by
  intro a b
  by_cases c18 : M18 i = 0
  · by_cases c19 : M19 i = 0
    · cases dl
      · simp [a, b, tw_deb, tw_debA, tw_debB, tw_debC, tm_debA, tm_debB, upd, tw_note, tw_back, tw_b, h8, h9, c18, c19, hl1, hl2, tw_01]
      · simp [a, b, tw_deb, tw_debA, tw_debB, tw_debC, tm_debA, tm_debB, upd, tw_note, tw_back, tw_b, h8, h9, c18, c19, hl1, hl2, tw_01]
        intro c hc; rw [tw_fee_at hc]; split
        · rfl
        · exact (Int32.add_zero _).symm
    · have e1 := tw_ins (f := 0) hi19 c19
      have h10' := h10 c19
      cases dl
      · simp [a, b, tw_deb, tw_debA, tw_debB, tw_debC, tm_debA, tm_debB, upd, tw_note, tw_back, tw_b, h8, h9, c18, e1, hl1, hl2, tw_01, h10']
        intro c hc; rw [tw_fee_at hc]; split
        · rfl
        · exact (Int32.add_zero _).symm
      · simp [a, b, tw_deb, tw_debA, tw_debB, tw_debC, tm_debA, tm_debB, upd, tw_note, tw_back, tw_b, h8, h9, c18, e1, hl1, hl2, tw_01, h10']
  · have e0 := tw_ins (f := 0) hi18 c18
    by_cases c19 : M19 i = 0
    · cases dl
      · simp [a, b, tw_deb, tw_debA, tw_debB, tw_debC, tm_debA, tm_debB, upd, tw_note, tw_back, tw_b, h8, h9, e0, c19, hl1, hl2, tw_01]
      · simp [a, b, tw_deb, tw_debA, tw_debB, tw_debC, tm_debA, tm_debB, upd, tw_note, tw_back, tw_b, h8, h9, e0, c19, hl1, hl2, tw_01, hv]
        intro c hc; rw [tw_fee_at hc]; split
        · rfl
        · exact (Int32.add_zero _).symm
    · have e1 := tw_ins (f := 0) hi19 c19
      have h10' := h10 c19
      cases dl
      · simp [a, b, tw_deb, tw_debA, tw_debB, tw_debC, tm_debA, tm_debB, upd, tw_note, tw_back, tw_b, h8, h9, e0, e1, hl1, hl2, tw_01, h10']
        intro c hc; rw [tw_fee_at hc]; split
        · rfl
        · exact (Int32.add_zero _).symm
      · simp [a, b, tw_deb, tw_debA, tw_debB, tw_debC, tm_debA, tm_debB, upd, tw_note, tw_back, tw_b, h8, h9, e0, e1, hl1, hl2, tw_01, h10', hv]
