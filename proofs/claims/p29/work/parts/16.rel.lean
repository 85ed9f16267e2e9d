/-! COURIERS MOVED ON by m: numbers, places, rows -/
def ro_s (m k : Nat) : Nat := if k < 4 then (k + m) % 4 else k
theorem ro_s_lt {m k : Nat} (h : k < 4) : ro_s m k < 4 := by unfold ro_s; rw [if_pos h]; exact Nat.mod_lt _ (by decide)
theorem ro_s_ge {m k : Nat} (h : ¬ k < 4) : ro_s m k = k := if_neg h
theorem ro_s_inj {m j k : Nat} (h : ro_s m j = ro_s m k) : j = k := by
  unfold ro_s at h
  split at h <;> split at h <;> omega
theorem ro_s_14 {m k : Nat} (h : k ≤ 14) : ro_s m k ≤ 14 := by unfold ro_s; split <;> omega
theorem ro_s_13 {m k : Nat} (h : k < 14) : ro_s m k < 14 := by unfold ro_s; split <;> omega
theorem ro_s_on (m : Nat) {w : Nat} (h : w < 14) : ∃ v : Nat, v < 14 ∧ ro_s m v = w := by
  by_cases h4 : w < 4
  · refine ⟨(w + 3 * m) % 4, by omega, ?_⟩
    unfold ro_s
    rw [if_pos (by omega)]
    omega
  · exact ⟨w, h, ro_s_ge h4⟩
def ro_p (m : Nat) (q : Int32) : Int32 := if tw_in q 1 4 = true then nI (1 + ro_s m (q.toNatClampNeg - 1)) else q
theorem ro_p_c (m : Nat) (q : Int32) : (∃ c : Nat, c < 4 ∧ q = nI (1 + c) ∧ ro_p m q = nI (1 + ro_s m c)) ∨ (tw_in q 1 4 = false ∧ ro_p m q = q) := by
  cases h : tw_in q 1 4 with
  | false => exact Or.inr ⟨rfl, by rw [ro_p, h]; exact if_neg (by decide)⟩
  | true =>
    left
    obtain ⟨h1, h2⟩ := (tw_in_iff q 1 4).mp h
    have e1 : (1 : Int32).toInt = 1 := by decide
    have e4 : (4 : Int32).toInt = 4 := by decide
    rw [e1] at h1
    rw [e4] at h2
    have hq : q = nI q.toInt.toNat := tw_of (by omega)
    refine ⟨q.toInt.toNat - 1, by omega, ?_, ?_⟩
    · rw [show 1 + (q.toInt.toNat - 1) = q.toInt.toNat by omega]; exact hq
    · rw [ro_p, if_pos h]; rfl
theorem ro_in : ∀ c, c < 4 → tw_in (nI (1 + c)) 1 4 = true := by decide +kernel
theorem ro_k1 : ∀ c, c < 4 → tw_kind (nI (1 + c)) = 1 := by decide +kernel
theorem ro_c1 : ∀ c, c < 4 → tw_cour1 (nI (1 + c)) = nI c := by decide +kernel
theorem ro_kind (m : Nat) (q : Int32) : tw_kind (ro_p m q) = tw_kind q := by
  rcases ro_p_c m q with ⟨c, hc, e, e2⟩ | ⟨-, e⟩
  · rw [e2, e, ro_k1 _ hc, ro_k1 _ (ro_s_lt hc)]
  · rw [e]
theorem ro_inj {m : Nat} {p q : Int32} : ro_p m p = ro_p m q ↔ p = q := by
  constructor
  · intro h
    rcases ro_p_c m p with ⟨c, hc, e, e2⟩ | ⟨f, e⟩ <;> rcases ro_p_c m q with ⟨c', hc', e', e2'⟩ | ⟨f', e'⟩
    · rw [e2, e2'] at h
      have a1 := ro_s_lt (m := m) hc
      have a2 := ro_s_lt (m := m) hc'
      have h2 := (nI_eq (by omega) (by omega)).mp h
      have h3 : c = c' := ro_s_inj (m := m) (by omega)
      rw [e, e', h3]
    · rw [e2, e'] at h; rw [← h, ro_in _ (ro_s_lt hc)] at f'; cases f'
    · rw [e, e2'] at h; rw [h, ro_in _ (ro_s_lt hc')] at f; cases f
    · rw [e, e'] at h; exact h
  · rintro rfl; rfl
theorem ro_0 (m : Nat) : ro_p m 0 = 0 := if_neg (by decide)
theorem ro_30 (m : Nat) : ro_p m 30 = 30 := if_neg (by decide)
theorem ro_10f : ∀ d, d < 10 → tw_in (10 + nI d) 1 4 = false := by decide +kernel
theorem ro_10 (m : Nat) {d : Nat} (h : d < 10) : ro_p m (10 + nI d) = 10 + nI d := if_neg (by rw [ro_10f d h]; decide)
theorem ro_eq30 {m : Nat} {q : Int32} : ro_p m q = 30 ↔ q = 30 := by
  have h := ro_inj (m := m) (p := q) (q := 30)
  rwa [ro_30] at h
theorem ro_cmn {m : Nat} {p q : Int32} : tw_cmn (ro_p m p) (ro_p m q) = tw_cmn p q := by
  unfold tw_cmn
  simp only [ro_kind, ro_inj]
theorem ro_cmn0 {m : Nat} {q : Int32} : tw_cmn 0 (ro_p m q) = tw_cmn 0 q := by
  have h := ro_cmn (m := m) (p := 0) (q := q)
  rwa [ro_0] at h
/-- a courier, or none -/
def ro_C (m : Nat) (x y : Int32) : Prop := (x = -1 ∧ y = -1) ∨ ∃ c : Nat, c < 4 ∧ x = nI c ∧ y = nI (ro_s m c)
theorem ro_n1 : ∀ c, c < 4 → ¬ nI c = -1 := by decide +kernel
theorem ro_C_1 {m : Nat} {x y : Int32} (h : ro_C m x y) : y = -1 ↔ x = -1 := by
  rcases h with ⟨e, e2⟩ | ⟨c, hc, e, e2⟩
  · rw [e, e2]
  · rw [e, e2]
    exact ⟨fun z => absurd z (ro_n1 _ (ro_s_lt hc)), fun z => absurd z (ro_n1 _ hc)⟩
theorem ro_cour1 (m : Nat) (q : Int32) : ro_C m (tw_cour1 q) (tw_cour1 (ro_p m q)) := by
  rcases ro_p_c m q with ⟨c, hc, e, e2⟩ | ⟨f, e⟩
  · rw [e2, e]
    exact Or.inr ⟨c, hc, ro_c1 c hc, ro_c1 _ (ro_s_lt hc)⟩
  · rw [e]
    have e3 : tw_cour1 q = -1 := if_neg (by rw [f]; decide)
    exact Or.inl ⟨e3, e3⟩
theorem ro_last {m : Nat} {st : Int32} {pl pl' : Nat → Int32} : ∀ n, (∀ k, k < n → pl' k = ro_p m (pl k)) → tw_last st pl' n = ro_p m (tw_last st pl n) := by
  intro n
  induction n with
  | zero => intro _; exact (ro_0 m).symm
  | succ n ih =>
    intro h
    rw [tw_last, tw_last]
    split
    · exact h n (by omega)
    · exact ih (fun k hk => h k (by omega))
theorem ro_cour {m : Nat} {st : Int32} {pl pl' : Nat → Int32} : ∀ n, (∀ k, k < n → pl' k = ro_p m (pl k)) → ro_C m (tw_cour st pl n) (tw_cour st pl' n) := by
  intro n
  induction n with
  | zero => intro _; exact Or.inl ⟨rfl, rfl⟩
  | succ n ih =>
    intro h
    have h1 := ro_cour1 m (pl n)
    rw [← h n (by omega)] at h1
    have h2 := ro_C_1 h1
    have h3 := ih (fun k hk => h k (by omega))
    rw [tw_cour, tw_cour]
    by_cases e : tw_tru st (nI n) = true ∧ tw_cour1 (pl n) ≠ -1
    · rw [if_pos e, if_pos ⟨e.1, fun z => e.2 (h2.mp z)⟩]
      exact h1
    · rw [if_neg e, if_neg (fun z => e ⟨z.1, fun y => z.2 (h2.mpr y)⟩)]
      exact h3
theorem ro_since {m : Nat} {st : Int32} {pl pl' tm tm' : Nat → Int32} {w : Int32} : ∀ n z, (∀ k, k < n → pl' k = ro_p m (pl k) ∧ tm' k = tm k) → tw_since st pl' tm' (ro_p m w) n z = tw_since st pl tm w n z := by
  intro n
  induction n with
  | zero => intro z _; rfl
  | succ n ih =>
    intro z h
    rw [tw_since, tw_since, (h n (by omega)).1, (h n (by omega)).2, ih _ (fun k hk => h k (by omega)), ih _ (fun k hk => h k (by omega))]
    simp only [ro_inj]
theorem ro_lies {m : Nat} {st : Int32} {mk mk' : Nat → Int32} {c : Nat} (hc : c ≤ 14) : ∀ n, (∀ k, k < n → ∃ j : Nat, j ≤ 14 ∧ mk k = nI j ∧ mk' k = nI (ro_s m j)) → tw_lies st mk' (nI (ro_s m c)) n = tw_lies st mk (nI c) n := by
  intro n
  induction n with
  | zero => intro _; rfl
  | succ n ih =>
    intro h
    obtain ⟨j, hj, e1, e2⟩ := h n (by omega)
    rw [tw_lies, tw_lies, ih (fun k hk => h k (by omega)), e1, e2]
    have a1 := ro_s_14 (m := m) hj
    have a2 := ro_s_14 (m := m) hc
    have e : nI (ro_s m j) = nI (ro_s m c) ↔ nI j = nI c := by
      rw [nI_eq (by omega) (by omega), nI_eq (by omega) (by omega)]
      exact ⟨fun z => ro_s_inj z, fun z => by rw [z]⟩
    simp only [e]
/-! THE TWO TOWNS: s, and t with couriers moved on by m -/
def ro_K (m : Nat) (s t : kx_S) (i k : Nat) : Prop := t 10 i k = s 10 i k ∧ t 11 i k = ro_p m (s 11 i k) ∧ (∃ j : Nat, j ≤ 14 ∧ s 12 i k = nI j ∧ t 12 i k = nI (ro_s m j)) ∧ tw_tru (t 13 i k) 12 = tw_tru (s 13 i k) 12 ∧ ∀ j, j < k → tw_tru (t 13 i k) (nI j) = tw_tru (s 13 i k) (nI j)
def ro_B9 (m : Nat) (x y : Nat → Int32) : Prop := y 0 = x 0 ∧ y 1 = x 1 ∧ y 6 = x 6 ∧ y 7 = x 7 ∧ y 8 = x 8 ∧ y 9 = x 9 ∧ ro_C m (x 10) (y 10) ∧ tw_01 (x 8) ∧ tw_01 (x 9)
def ro_B (m : Nat) (s t : kx_S) (i : Nat) : Prop := ro_B9 m (s 9 i) (t 9 i) ∧ ∃ n : Nat, s 9 i 6 = nI n ∧ n ≤ 12 ∧ ∀ k, k < n → ro_K m s t i k
def ro_L (x y : Nat → Int32) : Prop := y 1 = x 1 ∧ y 2 = x 2
def ro_F (m : Nat) (x y : Nat → Int32) : Prop := ∀ c, c < 4 → y (ro_s m c) = x c
def ro_T (m : Nat) (x y : Nat → Int32) : Prop := ∀ w, w < 14 → y (ro_s m w) = x w ∧ 1 ≤ (x w).toInt ∧ (x w).toInt ≤ 9
def ro_D (nb : Nat) (x y : Nat → Int32) : Prop := (∀ j, j < 5 → y j = x j) ∧ tw_01 (x 1) ∧ (x 2 = -1 ∨ ∃ b : Nat, b < nb ∧ x 2 = nI b)
def ro_R (m nb : Nat) (s t : kx_S) : Prop := nb ≤ 16 ∧ s 0 0 6 = nI nb ∧ (∀ j, 6 ≤ j → j ≤ 8 → t 0 0 j = s 0 0 j) ∧ ro_T m (s 3 0) (t 3 0) ∧ ro_L (s 4 0) (t 4 0) ∧ ro_F m (s 5 0) (t 5 0) ∧ (∀ d, d < 10 → ro_D nb (s 8 d) (t 8 d)) ∧ ∀ i, i < nb → ro_B m s t i
theorem ro_CI1 {m nb : Nat} {s t : kx_S} (h : ro_R m nb s t) : tw_CI nb s := by
  obtain ⟨h16, h6, -, hT, -, -, hD, hB⟩ := h
  refine ⟨h16, ⟨fun i hi => ?_, fun w hw => (hT w hw).2⟩, fun i hi => ?_, fun d hd => (hD d hd).2.1, fun d hd => (hD d hd).2.2, h6⟩
  · obtain ⟨-, n, hn, h12, hk⟩ := hB i hi
    exact ⟨n, hn, h12, fun k hk9 => by obtain ⟨-, -, ⟨j, hj, e, -⟩, -⟩ := hk k hk9; exact ⟨j, hj, e⟩⟩
  · obtain ⟨⟨-, -, -, -, -, -, -, a, b⟩, -⟩ := hB i hi
    exact ⟨a, b⟩
theorem ro_CI2 {m nb : Nat} {s t : kx_S} (h : ro_R m nb s t) : tw_CI nb t := by
  obtain ⟨h16, h6, h0, hT, -, -, hD, hB⟩ := h
  refine ⟨h16, ⟨fun i hi => ?_, fun w hw => ?_⟩, fun i hi => ?_, fun d hd => ?_, fun d hd => ?_, by rw [h0 6 (by decide) (by decide)]; exact h6⟩
  · obtain ⟨⟨-, -, e6, -⟩, n, hn, h12, hk⟩ := hB i hi
    exact ⟨n, by rw [e6]; exact hn, h12, fun k hk9 => by obtain ⟨-, -, ⟨j, hj, -, e⟩, -⟩ := hk k hk9; exact ⟨_, ro_s_14 hj, e⟩⟩
  · obtain ⟨v, hv, e⟩ := ro_s_on m hw
    rw [← e, (hT v hv).1]
    exact (hT v hv).2
  · obtain ⟨⟨-, -, -, -, e8, e9, -, a, b⟩, -⟩ := hB i hi
    rw [e8, e9]
    exact ⟨a, b⟩
  · rw [(hD d hd).1 1 (by decide)]; exact (hD d hd).2.1
  · rw [(hD d hd).1 2 (by decide)]; exact (hD d hd).2.2
/-- only the towns' own rows are looked at -/
theorem ro_R_eq {m nb : Nat} {s t s' t' : kx_S} (h : ro_R m nb s t) (hs : ∀ q n, q < 14 → q ≠ 6 → q ≠ 7 → s' q n = s q n) (ht : ∀ q n, q < 14 → q ≠ 6 → q ≠ 7 → t' q n = t q n) : ro_R m nb s' t' := by
  obtain ⟨h16, h6, h0, hT, hL, hF, hD, hB⟩ := h
  refine ⟨h16, by rw [hs 0 0 (by decide) (by decide) (by decide)]; exact h6, fun j h1 h2 => by rw [hs 0 0 (by decide) (by decide) (by decide), ht 0 0 (by decide) (by decide) (by decide)]; exact h0 j h1 h2, by rw [hs 3 0 (by decide) (by decide) (by decide), ht 3 0 (by decide) (by decide) (by decide)]; exact hT, by rw [hs 4 0 (by decide) (by decide) (by decide), ht 4 0 (by decide) (by decide) (by decide)]; exact hL, by rw [hs 5 0 (by decide) (by decide) (by decide), ht 5 0 (by decide) (by decide) (by decide)]; exact hF, fun d hd => by rw [hs 8 d (by decide) (by decide) (by decide), ht 8 d (by decide) (by decide) (by decide)]; exact hD d hd, fun i hi => ?_⟩
  have h9 := hB i hi
  unfold ro_B ro_K at h9 ⊢
  rw [hs 9 i (by decide) (by decide) (by decide), ht 9 i (by decide) (by decide) (by decide), hs 10 i (by decide) (by decide) (by decide), ht 10 i (by decide) (by decide) (by decide), hs 11 i (by decide) (by decide) (by decide), ht 11 i (by decide) (by decide) (by decide), hs 12 i (by decide) (by decide) (by decide), ht 12 i (by decide) (by decide) (by decide), hs 13 i (by decide) (by decide) (by decide), ht 13 i (by decide) (by decide) (by decide)]
  exact h9
/-! settling -/
def ro_X (m : Nat) (x y : tw_R) : Prop := ro_B9 m x.1 y.1 ∧ ro_L x.2.1 y.2.1 ∧ ro_F m x.2.2 y.2.2
theorem ro_fee {m : Nat} {x y : Nat → Int32} {co co' a : Int32} (hF : ro_F m x y) (hc : ro_C m co co') : ro_F m (tw_fee x co a) (tw_fee y co' a) := by
  intro c hc4
  have h1 := ro_s_lt (m := m) hc4
  have e9 : nI (ro_s m c) = co' ↔ nI c = co := by
    rcases hc with ⟨e, e2⟩ | ⟨d, hd, e, e2⟩
    · rw [e, e2]
      exact ⟨fun z => absurd z (ro_n1 _ h1), fun z => absurd z (ro_n1 _ hc4)⟩
    · have h2 := ro_s_lt (m := m) hd
      rw [e, e2, nI_eq (by omega) (by omega), nI_eq (by omega) (by omega)]
      exact ⟨fun z => ro_s_inj z, fun z => by rw [z]⟩
  unfold tw_fee
  by_cases e : nI c = co
  · rw [if_pos ⟨h1, e9.mpr e⟩, if_pos ⟨hc4, e⟩, hF c hc4]
  · rw [if_neg (fun z => e (e9.mp z.2)), if_neg (fun z => e z.2), hF c hc4]
theorem ro_debA {m : Nat} {x y : tw_R} (dl : Bool) (h : ro_X m x y) : ro_X m (tw_debA dl x) (tw_debA dl y) := by
  obtain ⟨⟨b0, b1, b6, b7, b8, b9, bc, c8, c9⟩, ⟨l1, l2⟩, hF⟩ := h
  unfold tw_debA
  rw [b8]
  split
  · refine ⟨⟨by simp [upd, b0], by simp [upd, b1], by simp [upd, b6], by simp [upd, b7], by simp [upd], by simp [upd, b9], by simp [upd]; exact bc, by simp [upd, tw_01], by simp [upd]; exact c9⟩, ⟨by simp [tw_back, upd, l1, b1], by simp [tw_back, upd, l2]⟩, hF⟩
  · exact ⟨⟨b0, b1, b6, b7, b8, b9, bc, c8, c9⟩, ⟨l1, l2⟩, hF⟩
theorem ro_debB {m : Nat} {x y : tw_R} (dl : Bool) {co co' : Int32} (hc : ro_C m co co') (h : ro_X m x y) : ro_X m (tw_debB dl co x) (tw_debB dl co' y) := by
  obtain ⟨⟨b0, b1, b6, b7, b8, b9, bc, c8, c9⟩, ⟨l1, l2⟩, hF⟩ := h
  unfold tw_debB
  rw [b9, b0]
  split
  · refine ⟨⟨by simp [upd, b0], by simp [upd, b1], by simp [upd, b6], by simp [upd, b7], by simp [upd, b8], by simp [upd], by simp [upd]; exact hc, by simp [upd]; exact c8, by simp [upd, tw_01]⟩, ⟨by simp [tw_note, upd, l1], by simp [tw_note, upd, l2]⟩, ro_fee hF hc⟩
  · exact ⟨⟨b0, b1, b6, b7, b8, b9, bc, c8, c9⟩, ⟨l1, l2⟩, hF⟩
theorem ro_debC {m : Nat} {x y : tw_R} (dl : Bool) (h : ro_X m x y) : ro_X m (tw_debC dl x) (tw_debC dl y) := by
  obtain ⟨⟨b0, b1, b6, b7, b8, b9, bc, c8, c9⟩, ⟨l1, l2⟩, hF⟩ := h
  unfold tw_debC
  rw [b9, b0]
  split
  · refine ⟨⟨by simp [upd, b0], by simp [upd, b1], by simp [upd, b6], by simp [upd, b7], by simp [upd, b8], by simp [upd], by simp [upd]; exact bc, by simp [upd]; exact c8, by simp [upd, tw_01]⟩, ⟨by simp [tw_note, upd, l1], by simp [tw_note, upd, l2]⟩, ro_fee hF bc⟩
  · exact ⟨⟨b0, b1, b6, b7, b8, b9, bc, c8, c9⟩, ⟨l1, l2⟩, hF⟩
theorem ro_trust {m : Nat} {x y jx jy : Nat → Int32} {j : Nat} (hT : ro_T m x y) (hJ : ∀ d, d < 10 → jy d = jx d) (hj : j ≤ 14) : tw_trust y jy (ro_s m j) = tw_trust x jx j := by
  unfold tw_trust
  by_cases h4 : j < 4
  · have h5 := ro_s_lt (m := m) h4
    rw [if_neg (by omega), if_neg (by omega), if_neg (by omega), if_neg (by omega)]
    exact (hT j (by omega)).1
  · rw [ro_s_ge h4]
    split
    · rfl
    · rw [hJ (j - 4) (by omega)]
      split
      · rfl
      · have h9 := (hT j (by omega)).1
        rwa [ro_s_ge h4] at h9
theorem ro_st {m : Nat} {s t : kx_S} {i n : Nat} (hT : ro_T m (s 3 0) (t 3 0)) (hJ : ∀ d, d < 10 → t 8 d 1 = s 8 d 1) (hK : ∀ k, k < n → ro_K m s t i k) : tw_st t i n = tw_st s i n := by
  unfold tw_st
  rw [dp_best_congr n (dp_S_congr (n := n) (fun k hk => ?_) (fun k hk => (hK k hk).2.2.2.1) (fun k hk j hj => (hK k hk).2.2.2.2 j hj))]
  obtain ⟨-, -, ⟨j, hj, e1, e2⟩, -⟩ := hK k hk
  have a1 := ro_s_14 (m := m) hj
  unfold tw_w
  rw [e1, e2, nI_clamp (by omega), nI_clamp (by omega), ro_trust hT hJ hj]
theorem ro_stl {m : Nat} {s t : kx_S} {i n : Nat} (hT : ro_T m (s 3 0) (t 3 0)) (hJ : ∀ d, d < 10 → t 8 d 1 = s 8 d 1) (hK : ∀ k, k < n → ro_K m s t i k) (h9 : ro_B9 m (s 9 i) (t 9 i)) (hL : ro_L (s 4 0) (t 4 0)) (hF : ro_F m (s 5 0) (t 5 0)) : ro_X m (tw_stl s i n) (tw_stl t i n) := by
  unfold tw_stl
  rw [ro_st hT hJ hK]
  have e1 : tw_last (tw_st s i n) (t 11 i) n = ro_p m (tw_last (tw_st s i n) (s 11 i) n) := ro_last n (fun k hk => (hK k hk).2.1)
  have e2 : decide (tw_last (tw_st s i n) (t 11 i) n = 30) = decide (tw_last (tw_st s i n) (s 11 i) n = 30) := by
    rw [e1]
    exact decide_eq_decide.mpr ro_eq30
  rw [e2]
  unfold tw_deb
  refine ro_debC _ (ro_debB _ (ro_cour n (fun k hk => (hK k hk).2.1)) (ro_debA _ ⟨?_, hL, hF⟩))
  obtain ⟨b0, b1, b6, b7, b8, b9, bc, c8, c9⟩ := h9
  exact ⟨by simp [upd, b0], by simp [upd, b1], by simp [upd, b6], by simp [upd], by simp [upd, b8], by simp [upd, b9], by simp [upd]; exact bc, by simp [upd]; exact c8, by simp [upd]; exact c9⟩
theorem ro_SR {m nb : Nat} {s t s' t' : kx_S} {i n : Nat} (h : ro_R m nb s t) (hi : i < nb) (hn : s 9 i 6 = nI n) (h12 : n ≤ 12) (hs : tw_SR s s' i (tw_stl s i n)) (ht : tw_SR t t' i (tw_stl t i n)) : ro_R m nb s' t' := by
  obtain ⟨h16, h6, h0, hT, hL, hF, hD, hB⟩ := h
  obtain ⟨b9, n2, hn2, h122, hK⟩ := hB i hi
  have en : n2 = n := (nI_eq (by omega) (by omega)).mp (hn2.symm.trans hn)
  subst en
  obtain ⟨x9, x4, x5⟩ := ro_stl hT (fun d hd => (hD d hd).1 1 (by decide)) hK b9 hL hF
  have e6 := tw_stl_6 s i n2
  obtain ⟨fs, s9, s4, s5⟩ := hs
  obtain ⟨ft, t9, t4, t5⟩ := ht
  have fs2 : ∀ q j, q ≠ 4 → q ≠ 5 → q ≠ 6 → q ≠ 7 → q ≠ 9 → s' q j = s q j := fun q j a b c d e => fs q j a b c d (fun z => e z.1)
  have ft2 : ∀ q j, q ≠ 4 → q ≠ 5 → q ≠ 6 → q ≠ 7 → q ≠ 9 → t' q j = t q j := fun q j a b c d e => ft q j a b c d (fun z => e z.1)
  refine ⟨h16, by rw [fs2 0 0 (by decide) (by decide) (by decide) (by decide) (by decide)]; exact h6, fun j h1 h2 => by rw [fs2 0 0 (by decide) (by decide) (by decide) (by decide) (by decide), ft2 0 0 (by decide) (by decide) (by decide) (by decide) (by decide)]; exact h0 j h1 h2, by rw [fs2 3 0 (by decide) (by decide) (by decide) (by decide) (by decide), ft2 3 0 (by decide) (by decide) (by decide) (by decide) (by decide)]; exact hT, by rw [s4, t4]; exact x4, by rw [s5, t5]; exact x5, fun d hd => by rw [fs2 8 d (by decide) (by decide) (by decide) (by decide) (by decide), ft2 8 d (by decide) (by decide) (by decide) (by decide) (by decide)]; exact hD d hd, fun j hj => ?_⟩
  have hKj : ∀ k, ro_K m s t j k → ro_K m s' t' j k := by
    intro k hk
    unfold ro_K at hk ⊢
    rw [fs2 10 j (by decide) (by decide) (by decide) (by decide) (by decide), ft2 10 j (by decide) (by decide) (by decide) (by decide) (by decide), fs2 11 j (by decide) (by decide) (by decide) (by decide) (by decide), ft2 11 j (by decide) (by decide) (by decide) (by decide) (by decide), fs2 12 j (by decide) (by decide) (by decide) (by decide) (by decide), ft2 12 j (by decide) (by decide) (by decide) (by decide) (by decide), fs2 13 j (by decide) (by decide) (by decide) (by decide) (by decide), ft2 13 j (by decide) (by decide) (by decide) (by decide) (by decide)]
    exact hk
  by_cases e : j = i
  · subst e
    refine ⟨by rw [s9, t9]; exact x9, n2, by rw [s9, e6]; exact hn2, h122, fun k hk => hKj k (hK k hk)⟩
  · obtain ⟨y9, n3, hn3, h123, hK3⟩ := hB j hj
    have es : s' 9 j = s 9 j := fs 9 j (by decide) (by decide) (by decide) (by decide) (fun z => e z.2)
    have et : t' 9 j = t 9 j := ft 9 j (by decide) (by decide) (by decide) (by decide) (fun z => e z.2)
    exact ⟨by rw [es, et]; exact y9, n3, by rw [es]; exact hn3, h123, fun k hk => hKj k (hK3 k hk)⟩
theorem ro_St {m nb : Nat} {s t s' t' : kx_S} {i : Nat} (h : ro_R m nb s t) (hi : i < nb) (hs : tw_St s i s') (ht : tw_St t i t') : ro_R m nb s' t' := by
  obtain ⟨n, hn, h12, hs⟩ := hs
  obtain ⟨n2, hn2, h122, ht⟩ := ht
  have e : t 9 i 6 = s 9 i 6 := (h.2.2.2.2.2.2.2 i hi).1.2.2.1
  have en : n2 = n := (nI_eq (by omega) (by omega)).mp (hn2.symm.trans (e.trans hn))
  subst en
  exact ro_SR h hi hn h12 hs ht
theorem ro_SA {m nb : Nat} : ∀ {k : Nat} {s t s' t' : kx_S}, k ≤ nb → ro_R m nb s t → tw_SA k s s' → tw_SA k t t' → ro_R m nb s' t' := by
  intro k
  induction k with
  | zero => intro s t s' t' _ h hs ht; rw [show s' = s from hs, show t' = t from ht]; exact h
  | succ k ih =>
    intro s t s' t' hk h hs ht
    obtain ⟨s1, h1, h2⟩ := hs
    obtain ⟨t1, h3, h4⟩ := ht
    exact ro_St (ih (by omega) h h1 h3) (by omega) h2 h4
theorem ro_tn {m nb : Nat} {s t : kx_S} (h : ro_R m nb s t) {i : Nat} (hi : i < nb) : tw_n t i = tw_n s i ∧ s 9 i 6 = nI (tw_n s i) ∧ tw_n s i ≤ 12 ∧ ∀ k, k < tw_n s i → ro_K m s t i k := by
  obtain ⟨b9, n, hn, h12, hK⟩ := h.2.2.2.2.2.2.2 i hi
  have e1 : tw_n s i = n := tw_n_eq hn h12
  have e2 : tw_n t i = n := tw_n_eq (by rw [b9.2.2.1]; exact hn) h12
  rw [e1, e2]
  exact ⟨rfl, hn, h12, hK⟩
