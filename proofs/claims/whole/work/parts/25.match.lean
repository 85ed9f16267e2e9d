/-- what a matching leans on, in short rows -/
def tw_un (x : Int32) : Nat := x.toNatClampNeg
theorem rl_un (k : Nat) : k < 100 → tw_un (nI k) = k := fun h => nI_clamp (by omega)
theorem tw_01_b {x : Int32} (h : tw_01 x) : x = tw_b (decide (¬ x = 0)) := by rcases h with h | h <;> rw [h] <;> rfl
abbrev rl_PT (nb : Nat) (s t : kx_S) : Prop := rl_P nb s t (fun _ => True)
theorem tw_since_congr {st : Int32} {f g tf tg : Nat → Int32} {w : Int32} : ∀ n z, (∀ k, k < n → f k = g k ∧ tf k = tg k) → tw_since st f tf w n z = tw_since st g tg w n z := by
  intro n
  induction n with
  | zero => intro z _; rfl
  | succ n ih =>
    intro z h
    rw [tw_since, tw_since, (h n (by omega)).1, (h n (by omega)).2, ih _ (fun k hk => h k (by omega)), ih _ (fun k hk => h k (by omega))]
theorem tw_since_any {st : Int32} {f tf : Nat → Int32} {z z2 : Int32} : ∀ n, ¬ tw_last st f n = 0 → tw_since st f tf (tw_last st f n) n z = tw_since st f tf (tw_last st f n) n z2 := by
  intro n
  induction n with
  | zero => intro h; exact absurd rfl h
  | succ n ih =>
    intro h
    by_cases e : tw_tru st (nI n) = true
    · rw [tw_last_t e, tw_since_3 e rfl, tw_since_3 e rfl]
    · have e2 : tw_tru st (nI n) = false := by cases h9 : tw_tru st (nI n) with | false => rfl | true => exact absurd h9 e
      rw [tw_last_f e2] at h ⊢
      rw [tw_since_1 e2, tw_since_1 e2]
      exact ih h
theorem tw_last_pl {st : Int32} {f : Nat → Int32} : ∀ n, (∀ k, k < n → tw_pl (f k) = true) → tw_pl (tw_last st f n) = true := by
  intro n
  induction n with
  | zero => intro _; exact tw_pl0
  | succ n ih =>
    intro h
    rw [tw_last]
    split
    · exact h n (by omega)
    · exact ih (fun k hk => h k (by omega))
theorem tw_lies_congr {st : Int32} {f g : Nat → Int32} {x : Int32} : ∀ n, (∀ k, k < n → (f k = x ↔ g k = x)) → tw_lies st f x n = tw_lies st g x n := by
  intro n
  induction n with
  | zero => intro _; rfl
  | succ n ih =>
    intro h
    have h1 := h n (by omega)
    rw [tw_lies, tw_lies, ih (fun k hk => h k (by omega))]
    by_cases e : g n = x
    · simp only [h1.mpr e, e]
    · have e2 : ¬ f n = x := fun z => e (h1.mp z)
      simp only [e, e2]
theorem rl_ctx {nb : Nat} {s t : kx_S} (h : rl_PT nb s t) : nb ≤ 16 ∧ s 0 0 7 = t 14 0 0 ∧ (∀ k, k < nb → tw_n s k = tm_n t k ∧ tm_n t k ≤ 12 ∧ s 9 k 0 = t 15 0 k ∧ s 9 k 1 = t 16 0 k ∧ s 9 k 6 = t 17 0 k ∧ s 9 k 7 = tm_st t k (tm_n t k) ∧ s 9 k 8 = t 18 0 k ∧ s 9 k 8 = tw_b (decide (¬ t 18 0 k = 0)) ∧ s 9 k 9 = tw_b (decide (¬ t 19 0 k = 0)) ∧ tw_last (s 9 k 7) (s 11 k) (tw_n s k) = tw_last (tm_st t k (tm_n t k)) (tm_pl t k) (tm_n t k)) ∧ ∀ d, d < 10 → s 8 d 0 = t 25 0 d ∧ s 8 d 1 = t 29 0 d ∧ s 8 d 2 = t 26 0 d ∧ s 8 d 3 = t 27 0 d ∧ s 8 d 4 = t 28 0 d ∧ s 8 d 1 = tw_b (decide (¬ t 29 0 d = 0)) := by
  obtain ⟨hr, hd, hu⟩ := h
  refine ⟨hr.1, hr.2.2.2.1, fun k hk => ?_, fun d hd => ?_⟩
  · obtain ⟨b1, b2, b3, b4, b5, b6⟩ := hr.2.2.2.2.2.2.2.2.2.1 k hk
    obtain ⟨d1, d2, d3, d4, -⟩ := hd.1 k hk
    have u7 := (hu k hk trivial).1
    refine ⟨rl_tn hr hk, b5, b1, b2, by rw [b3, b4], u7, d1, by rw [d1]; exact tw_01_b d3, by rw [d2]; exact tw_01_b d4, ?_⟩
    rw [rl_tn hr hk, u7, rl_last hr hk]
  · obtain ⟨b1, b2, b3, b4, b5, b6, b7, b8⟩ := hr.2.2.2.2.2.2.2.2.1 d hd
    exact ⟨b1, b2, b4, b6, b7, by rw [b2]; exact tw_01_b b3⟩
theorem rl_Qk {nb : Nat} {s t t2 : kx_S} {v : Int32} (h : rl_PT nb s t) (hq : tm_Q t t2 v) : t2 14 0 22 = v ∧ rl_PT nb s t2 := ⟨hq.2.2, rl_same ts_same_r (tm_Q_same hq) h⟩
theorem rl_after {nb : Nat} {s t : kx_S} (h : rl_PT nb s t) : ∀ k, k < nb → (tw_after (s 10 k) (tw_n s k) (s 0 0 7 - 1000) = true ↔ ∃ m : Nat, tm_n t k = m + 1 ∧ ¬ 1000 ≤ t 14 0 0 - t 22 0 (12 * k + m)) := by
  intro k hk
  obtain ⟨hr, -, -⟩ := h
  have hn := rl_tn hr hk
  obtain ⟨-, -, -, h7, h0, h1, -, -, -, hb, -⟩ := hr
  obtain ⟨-, -, -, -, -, hs⟩ := hb k hk
  have e1000 : ((1000 : Int32)).toInt = 1000 := by decide
  unfold tw_after
  rw [hn, h7, decide_eq_true_eq]
  constructor
  · rintro ⟨a, b⟩
    refine ⟨tm_n t k - 1, by omega, ?_⟩
    obtain ⟨x1, x2, x3, -⟩ := hs (tm_n t k - 1) (by omega)
    rw [x1] at b
    rw [tw_lt, tw_subI (by omega) (by omega)] at b
    rw [tw_le, tw_subI (by omega) (by omega)]
    omega
  · rintro ⟨m, a, b⟩
    obtain ⟨x1, x2, x3, -⟩ := hs m (by omega)
    refine ⟨by omega, ?_⟩
    rw [a, Nat.add_sub_cancel, x1, tw_lt, tw_subI (by omega) (by omega)]
    rw [tw_le, tw_subI (by omega) (by omega)] at b
    omega
theorem rl_mk_iff {w : Int32} {c : Nat} (hw : tw_who w) (hc : c < 14) : (nI (tw_mk w) = nI c ↔ w = nI c) := by
  rcases hw with h | ⟨m, hm, h⟩
  · rw [h, tw_mk_m1]
    constructor
    · intro e; have := (nI_eq (a := 14) (b := c) (by decide) (by omega)).mp e; omega
    · intro e; exact absurd e ((by decide +kernel : ∀ c, c < 14 → ¬ (-1 : Int32) = nI c) c hc)
  · rw [h, tw_mk_nI hm]
theorem rl_lies {nb : Nat} {s t : kx_S} (h : rl_PT nb s t) {c : Nat} (hc : c < 14) : ∀ k, k ≤ nb → tw_liesA s (nI c) k = tm_liesA t (nI c) k := by
  intro k
  have hx := rl_ctx h
  obtain ⟨hr, -, -⟩ := h
  obtain ⟨-, -, -, -, -, -, -, -, -, hb, -⟩ := hr
  induction k with
  | zero => intro _; rfl
  | succ k ih =>
    intro hk
    obtain ⟨-, -, -, -, -, hs⟩ := hb k (by omega)
    rw [tw_liesA, tm_liesA, ih (by omega), (hx.2.2.1 k (by omega)).1, (hx.2.2.1 k (by omega)).2.2.2.2.2.1]
    congr 1
    refine tw_lies_congr _ (fun j hj => ?_)
    obtain ⟨-, -, -, -, -, x6, x7, -⟩ := hs j hj
    rw [x7]
    exact rl_mk_iff x6 hc
theorem rl_two (h : Int32) : 2 * (if 0 < h then h else 0) = if 0 < h then 2 * h else 0 := by split <;> rfl
theorem rl_fine {nb : Nat} {s t : kx_S} (h : rl_PT nb s t) : ∀ k, k < nb → tw_fineOf (s 0 0 7) (tw_last (s 9 k 7) (s 11 k) (tw_n s k)) (tw_since (s 9 k 7) (s 11 k) (s 10 k) (tw_last (s 9 k 7) (s 11 k) (tw_n s k)) (tw_n s k) 0) = tm_fineOf (t 14 0 0) (tw_last (tm_st t k (tm_n t k)) (tm_pl t k) (tm_n t k)) (tw_since (tm_st t k (tm_n t k)) (tm_pl t k) (tm_tm t k) (tw_last (tm_st t k (tm_n t k)) (tm_pl t k) (tm_n t k)) (tm_n t k) (t 14 0 0)) := by
  intro k hk
  obtain ⟨-, h7, hx, -⟩ := rl_ctx h
  obtain ⟨x1, x2, x3, x4, x5, x6, -, -, -, x9⟩ := hx k hk
  obtain ⟨hr, -, -⟩ := h
  obtain ⟨-, -, -, -, -, -, -, -, -, hb, -⟩ := hr
  obtain ⟨-, -, -, -, -, hs⟩ := hb k hk
  rw [x9, x1, x6, h7]
  have hp : tw_pl (tw_last (tm_st t k (tm_n t k)) (tm_pl t k) (tm_n t k)) = true := tw_last_pl _ (fun j hj => (hs j hj).2.2.2.2.1)
  unfold tw_fineOf tm_fineOf
  rw [tw_kind_srt hp]
  by_cases e : tw_srt (tw_last (tm_st t k (tm_n t k)) (tm_pl t k) (tm_n t k)) = 2
  · have hne : ¬ tw_last (tm_st t k (tm_n t k)) (tm_pl t k) (tm_n t k) = 0 := by
      intro z
      rw [z] at e
      exact absurd e (by decide)
    rw [if_pos e, if_pos e, rl_two, tw_since_congr (g := tm_pl t k) (tg := tm_tm t k) (tm_n t k) 0 (fun j hj => ⟨(hs j hj).2.2.2.1, (hs j hj).1⟩), tw_since_any (z2 := t 14 0 0) (tm_n t k) hne]
  · rw [if_neg e, if_neg e]

theorem rx_setTrust {nb : Nat} {s t t2 : kx_S} {x y : Int32} {E : String} {r : Option Value} (h : rl_PT nb s t) (hc : cx_setTrust nb s x y E) (hm : mq_setTrust nb t x y r t2) : (E = kx_ioe ∧ tm_Q t t2 1) ∨ (E = kx_iae ∧ tm_Q t t2 2) := by
  obtain ⟨h16, h07, hb, hdr⟩ := rl_ctx h
  unfold cx_setTrust at hc
  unfold mq_setTrust at hm
  grind [!rl_un]

theorem rx_pass {nb : Nat} {s t t2 : kx_S} {x : Int32} {E : String} {r : Option Value} (h : rl_PT nb s t) (hc : cx_pass nb s x E) (hm : mq_pass nb t x r t2) : (E = kx_iae ∧ tm_Q t t2 1) ∨ (E = kx_ise ∧ tm_Q t t2 2) := by
  obtain ⟨h16, h07, hb, hdr⟩ := rl_ctx h
  unfold cx_pass at hc
  unfold mq_pass at hm
  grind [!rl_un]

theorem rx_scan {nb : Nat} {s t t2 : kx_S} {x y z : Int32} {E : String} {r : Option Value} (h : rl_PT nb s t) (hc : cx_scan nb s x y z E) (hm : mq_scan nb t x y z r t2) : (E = kx_ioe ∧ tm_Q t t2 1) ∨ (E = kx_iae ∧ tm_Q t t2 2) ∨ (E = kx_ise ∧ tm_Q t t2 3) := by
  obtain ⟨h16, h07, hb, hdr⟩ := rl_ctx h
  unfold cx_scan at hc
  unfold mq_scan at hm
  grind [!rl_un]

theorem rx_lay {nb : Nat} {s t t2 : kx_S} {x y : Int32} {E : String} {r : Option Value} (h : rl_PT nb s t) (hc : cx_lay nb s x y E) (hm : mq_lay nb t x y r t2) : (E = kx_ioe ∧ tm_Q t t2 1) ∨ (E = kx_ise ∧ tm_Q t t2 2) := by
  obtain ⟨h16, h07, hb, hdr⟩ := rl_ctx h
  unfold cx_lay at hc
  unfold mq_lay at hm
  grind [!rl_un]

theorem rx_find {nb : Nat} {s t t2 : kx_S} {x y : Int32} {E : String} {r : Option Value} (h : rl_PT nb s t) (hc : cx_find nb s x y E) (hm : mq_find nb t x y r t2) : (E = kx_ioe ∧ tm_Q t t2 1) ∨ (E = kx_ise ∧ tm_Q t t2 2) := by
  obtain ⟨h16, h07, hb, hdr⟩ := rl_ctx h
  have hkp := @tw_kind_pl y
  unfold cx_find at hc
  unfold mq_find at hm
  grind [!rl_un]

theorem rx_setDoor {nb : Nat} {s t t2 : kx_S} {x y : Int32} {E : String} {r : Option Value} (h : rl_PT nb s t) (hc : cx_setDoor nb s x y E) (hm : mq_setDoor nb t x y r t2) : (E = kx_ioe ∧ tm_Q t t2 1) ∨ (E = kx_iae ∧ tm_Q t t2 2) ∨ (E = kx_ise ∧ tm_Q t t2 3) := by
  obtain ⟨h16, h07, hb, hdr⟩ := rl_ctx h
  unfold cx_setDoor at hc
  unfold mq_setDoor at hm
  grind [!rl_un]

theorem rx_keep {nb : Nat} {s t t2 : kx_S} {x y : Int32} {E : String} {r : Option Value} (h : rl_PT nb s t) (hc : cx_keep nb s x y E) (hm : mq_keep nb t x y r t2) : (E = kx_ioe ∧ tm_Q t t2 1) ∨ (E = kx_ise ∧ tm_Q t t2 2) := by
  obtain ⟨h16, h07, hb, hdr⟩ := rl_ctx h
  unfold cx_keep at hc
  unfold mq_keep at hm
  grind [!rl_un]

theorem rx_open {nb : Nat} {s t t2 : kx_S} {x y : Int32} {E : String} {r : Option Value} (h : rl_PT nb s t) (hc : cx_open nb s x y E) (hm : mq_open nb t x y r t2) : (E = kx_ioe ∧ tm_Q t t2 1) ∨ (E = kx_iae ∧ tm_Q t t2 2) ∨ (E = kx_ise ∧ tm_Q t t2 3) := by
  obtain ⟨h16, h07, hb, hdr⟩ := rl_ctx h
  unfold cx_open at hc
  unfold mq_open at hm
  grind [!rl_un]

theorem rx_jam {nb : Nat} {s t t2 : kx_S} {x z : Int32} {E : String} {r : Option Value} (h : rl_PT nb s t) (hc : cx_jam nb s x z E) (hm : mq_jam nb t x z r t2) : (E = kx_ioe ∧ tm_Q t t2 1) := by
  obtain ⟨h16, h07, hb, hdr⟩ := rl_ctx h
  unfold cx_jam at hc
  unfold mq_jam at hm
  grind [!rl_un]

theorem rx_claim {nb : Nat} {s t t2 : kx_S} {x : Int32} {E : String} {r : Option Value} (h : rl_PT nb s t) (hc : cx_claim nb s x E) (hm : mq_claim nb t x r t2) : (E = kx_ioe ∧ tm_Q t t2 1) ∨ (E = kx_ise ∧ tm_Q t t2 2) := by
  obtain ⟨h16, h07, hb, hdr⟩ := rl_ctx h
  have ha := rl_after h
  unfold cx_claim at hc
  unfold mq_claim at hm
  grind [!rl_un]

theorem rx_scans {nb : Nat} {s t t2 : kx_S} {x : Int32} {E : String} {r : Option Value} (h : rl_PT nb s t) (hc : cx_scans nb s x E) (hm : mq_scans nb t x r t2) : (E = kx_ioe ∧ tm_Q t t2 1) := by
  obtain ⟨h16, h07, hb, hdr⟩ := rl_ctx h
  unfold cx_scans at hc
  unfold mq_scans at hm
  grind [!rl_un]

theorem rx_story {nb : Nat} {s t t2 : kx_S} {x : Int32} {E : String} {r : Option Value} (h : rl_PT nb s t) (hc : cx_story nb s x E) (hm : mq_story nb t x r t2) : (E = kx_ioe ∧ tm_Q t t2 1) := by
  obtain ⟨h16, h07, hb, hdr⟩ := rl_ctx h
  unfold cx_story at hc
  unfold mq_story at hm
  grind [!rl_un]

theorem rx_storyOfAll {nb : Nat} {s t t2 : kx_S} {x : Int32} {E : String} {r : Option Value} (h : rl_PT nb s t) (hc : cx_storyOfAll nb s x E) (hm : mq_storyOfAll nb t x r t2) : (E = kx_ioe ∧ tm_Q t t2 1) := by
  obtain ⟨h16, h07, hb, hdr⟩ := rl_ctx h
  unfold cx_storyOfAll at hc
  unfold mq_storyOfAll at hm
  grind [!rl_un]

theorem rx_placeOf {nb : Nat} {s t t2 : kx_S} {x : Int32} {E : String} {r : Option Value} (h : rl_PT nb s t) (hc : cx_placeOf nb s x E) (hm : mq_placeOf nb t x r t2) : (E = kx_ioe ∧ tm_Q t t2 1) := by
  obtain ⟨h16, h07, hb, hdr⟩ := rl_ctx h
  unfold cx_placeOf at hc
  unfold mq_placeOf at hm
  grind [!rl_un]

theorem rx_lies {nb : Nat} {s t t2 : kx_S} {x : Int32} {E : String} {r : Option Value} (h : rl_PT nb s t) (hc : cx_lies nb s x E) (hm : mq_lies nb t x r t2) : (E = kx_ioe ∧ tm_Q t t2 1) := by
  obtain ⟨h16, h07, hb, hdr⟩ := rl_ctx h
  unfold cx_lies at hc
  unfold mq_lies at hm
  grind [!rl_un]

theorem rx_hasFee {nb : Nat} {s t t2 : kx_S} {x : Int32} {E : String} {r : Option Value} (h : rl_PT nb s t) (hc : cx_hasFee nb s x E) (hm : mq_hasFee nb t x r t2) : (E = kx_ioe ∧ tm_Q t t2 1) := by
  obtain ⟨h16, h07, hb, hdr⟩ := rl_ctx h
  unfold cx_hasFee at hc
  unfold mq_hasFee at hm
  grind [!rl_un]

theorem rx_isInsured {nb : Nat} {s t t2 : kx_S} {x : Int32} {E : String} {r : Option Value} (h : rl_PT nb s t) (hc : cx_isInsured nb s x E) (hm : mq_isInsured nb t x r t2) : (E = kx_ioe ∧ tm_Q t t2 1) := by
  obtain ⟨h16, h07, hb, hdr⟩ := rl_ctx h
  unfold cx_isInsured at hc
  unfold mq_isInsured at hm
  grind [!rl_un]

theorem rx_fees {nb : Nat} {s t t2 : kx_S} {x : Int32} {E : String} {r : Option Value} (h : rl_PT nb s t) (hc : cx_fees nb s x E) (hm : mq_fees nb t x r t2) : (E = kx_ioe ∧ tm_Q t t2 1) := by
  obtain ⟨h16, h07, hb, hdr⟩ := rl_ctx h
  unfold cx_fees at hc
  unfold mq_fees at hm
  grind [!rl_un]

theorem rx_fine {nb : Nat} {s t t2 : kx_S} {x : Int32} {E : String} {r : Option Value} (h : rl_PT nb s t) (hc : cx_fine nb s x E) (hm : mq_fine nb t x r t2) : (E = kx_ioe ∧ tm_Q t t2 1) := by
  obtain ⟨h16, h07, hb, hdr⟩ := rl_ctx h
  unfold cx_fine at hc
  unfold mq_fine at hm
  grind [!rl_un]

theorem rx_isJammed {nb : Nat} {s t t2 : kx_S} {x : Int32} {E : String} {r : Option Value} (h : rl_PT nb s t) (hc : cx_isJammed nb s x E) (hm : mq_isJammed nb t x r t2) : (E = kx_ioe ∧ tm_Q t t2 1) := by
  obtain ⟨h16, h07, hb, hdr⟩ := rl_ctx h
  unfold cx_isJammed at hc
  unfold mq_isJammed at hm
  grind [!rl_un]

theorem rx_keptFor {nb : Nat} {s t t2 : kx_S} {x : Int32} {E : String} {r : Option Value} (h : rl_PT nb s t) (hc : cx_keptFor nb s x E) (hm : mq_keptFor nb t x r t2) : (E = kx_ioe ∧ tm_Q t t2 1) := by
  obtain ⟨h16, h07, hb, hdr⟩ := rl_ctx h
  unfold cx_keptFor at hc
  unfold mq_keptFor at hm
  grind [!rl_un]

