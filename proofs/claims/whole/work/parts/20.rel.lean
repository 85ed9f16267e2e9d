/-! the town (rows 0 to 13 of s) and the reference (rows 14 to 31 of t), side by side -/
def tw_p16 (k : Nat) : Int32 := if k < 5 then nI k else if k < 15 then nI (k + 5) else 30
theorem tw_pl_16 {x : Int32} (h : tw_pl x = true) : ∃ k : Nat, k < 16 ∧ x = tw_p16 k := by
  unfold tw_pl at h
  rw [Bool.or_eq_true, Bool.or_eq_true, decide_eq_true_eq] at h
  rcases h with (h | h) | h
  · obtain ⟨k, hk, e⟩ := tw_inb (m := 4) (by decide) h
    exact ⟨k, by omega, by rw [tw_p16, if_pos (by omega)]; exact e⟩
  · have h2 := (tw_in_iff x 10 19).mp h
    have e10 : ((10 : Int32)).toInt = 10 := by decide
    have e19 : ((19 : Int32)).toInt = 19 := by decide
    obtain ⟨k, hk, e⟩ := tw_nat_of (x := x) (m := 19) (by decide) (by omega) (by omega)
    have h3 : (nI k).toInt = k := nI_toInt (by omega)
    have h4 : 10 ≤ k := by rw [← e] at h3; omega
    exact ⟨k - 5, by omega, by rw [tw_p16, if_neg (by omega), if_pos (by omega), show k - 5 + 5 = k by omega]; exact e⟩
  · exact ⟨15, by decide, by rw [h]; rfl⟩
theorem tw_cmn_16 : ∀ i, i < 16 → ∀ j, j < 16 → tw_cmn (tw_p16 i) (tw_p16 j) = tw_mn (tw_p16 i) (tw_p16 j) := by decide +kernel
theorem tw_cmn_mn {p q : Int32} (hp : tw_pl p = true) (hq : tw_pl q = true) : tw_cmn p q = tw_mn p q := by
  obtain ⟨i, hi, rfl⟩ := tw_pl_16 hp
  obtain ⟨j, hj, rfl⟩ := tw_pl_16 hq
  exact tw_cmn_16 i hi j hj
theorem tw_kind_16 : ∀ i, i < 16 → tw_kind (tw_p16 i) = tw_srt (tw_p16 i) ∧ ¬ tw_kind (tw_p16 i) = -1 := by decide +kernel
theorem tw_kind_srt {p : Int32} (hp : tw_pl p = true) : tw_kind p = tw_srt p := by
  obtain ⟨i, hi, rfl⟩ := tw_pl_16 hp
  exact (tw_kind_16 i hi).1
theorem tw_kind_pl {p : Int32} : tw_pl p = decide (¬ tw_kind p = -1) := by
  rcases Bool.eq_false_or_eq_true (tw_pl p) with h | h
  · obtain ⟨i, hi, rfl⟩ := tw_pl_16 h
    rw [h, decide_eq_true (tw_kind_16 i hi).2]
  · rw [h]
    unfold tw_pl at h
    rw [Bool.or_eq_false_iff, Bool.or_eq_false_iff, decide_eq_false_iff_not] at h
    obtain ⟨⟨h1, h2⟩, h3⟩ := h
    have h0 : ¬ p = 0 := by intro e; rw [e] at h1; exact absurd h1 (by decide)
    have h4 : ¬ tw_in p 1 4 = true := by
      intro e
      have a1 := (tw_in_iff p 1 4).mp e
      have a2 := (tw_in_iff' p 0 4).mp h1
      have e1 : ((1 : Int32)).toInt = 1 := by decide
      rw [tw_lit0] at a2
      omega
    have h5 : tw_kind p = -1 := by
      unfold tw_kind
      rw [if_neg h0, if_neg h4, if_neg (by rw [h2]; decide), if_neg h3]
    rw [h5]
    rfl
theorem tw_pl0 : tw_pl 0 = true := by decide
/-- sums over the boxes -/
def rl_sum (f : Nat → Int32) : Nat → Int32
  | 0 => 0
  | k + 1 => rl_sum f k + f k
theorem rl_sum_eq {f g : Nat → Int32} : ∀ n, (∀ j, j < n → g j = f j) → rl_sum g n = rl_sum f n := by
  intro n
  induction n with
  | zero => intro _; rfl
  | succ n ih => intro h; rw [rl_sum, rl_sum, ih (fun j hj => h j (by omega)), h n (by omega)]
theorem rl_ac (a b d : Int32) : a + d + b = a + b + d := by rw [Int32.add_assoc, Int32.add_comm d b, ← Int32.add_assoc]
/-- one number of the sum is another -/
theorem rl_sum_up {f g : Nat → Int32} {i : Nat} {d : Int32} (hd : g i = f i + d) (ho : ∀ j, j ≠ i → g j = f j) : ∀ n, i < n → rl_sum g n = rl_sum f n + d := by
  intro n
  induction n with
  | zero => intro h; exact absurd h (Nat.not_lt_zero i)
  | succ n ih =>
    intro h
    by_cases e : i = n
    · subst e
      rw [rl_sum, rl_sum, rl_sum_eq i (fun j hj => ho j (by omega)), hd, ← Int32.add_assoc]
    · rw [rl_sum, rl_sum, ih (by omega), ho n (fun z => e z.symm)]
      exact rl_ac _ _ _
def rl_fee (t : kx_S) (x : Int32) : Nat → Int32 := fun k => if ¬ t 19 0 k = 0 ∧ t 20 0 k = x then 10 * t 15 0 k else 0
theorem rl_feeA (t : kx_S) (x : Int32) : ∀ n, tm_feeA t x n = rl_sum (rl_fee t x) n := by
  intro n
  induction n with
  | zero => rfl
  | succ n ih => rw [tm_feeA, rl_sum, ih]; rfl
theorem tw_fee_at {r : Nat → Int32} {x a : Int32} {c : Nat} (h : c < 4) : tw_fee r x a c = if x = nI c then r c + a else r c := by
  unfold tw_fee
  by_cases e : x = nI c
  · rw [if_pos ⟨h, e.symm⟩, if_pos e]
  · rw [if_neg (fun z => e z.2.symm), if_neg e]
def rl_door (nb : Nat) (s t : kx_S) (d : Nat) : Prop := s 8 d 0 = t 25 0 d ∧ s 8 d 1 = t 29 0 d ∧ tw_01 (t 29 0 d) ∧ s 8 d 2 = t 26 0 d ∧ (t 26 0 d = -1 ∨ ∃ b : Nat, b < nb ∧ t 26 0 d = nI b) ∧ s 8 d 3 = t 27 0 d ∧ s 8 d 4 = t 28 0 d ∧ (t 29 0 d = 0 → 0 ≤ (t 28 0 d).toInt ∧ (t 28 0 d).toInt ≤ 2)
def rl_scan (s t : kx_S) (i k : Nat) : Prop := s 10 i k = t 22 0 (12 * i + k) ∧ 0 ≤ (t 22 0 (12 * i + k)).toInt ∧ (t 22 0 (12 * i + k)).toInt ≤ (t 14 0 0).toInt ∧ s 11 i k = t 21 0 (12 * i + k) ∧ tw_pl (t 21 0 (12 * i + k)) = true ∧ tw_who (t 23 0 (12 * i + k)) ∧ s 12 i k = nI (tw_mk (t 23 0 (12 * i + k))) ∧ tw_tru (s 13 i k) 12 = decide (tw_cmn 0 (s 11 i k) ≤ s 10 i k) ∧ ∀ j, j < k → tw_tru (s 13 i k) (nI j) = decide (tw_cmn (s 11 i j) (s 11 i k) ≤ s 10 i k - s 10 i j)
def rl_box (s t : kx_S) (i : Nat) : Prop := s 9 i 0 = t 15 0 i ∧ s 9 i 1 = t 16 0 i ∧ s 9 i 6 = nI (tm_n t i) ∧ t 17 0 i = nI (tm_n t i) ∧ tm_n t i ≤ 12 ∧ ∀ k, k < tm_n t i → rl_scan s t i k
/-- what settling leaves alone -/
def rl_raw (nb : Nat) (s t : kx_S) : Prop := nb ≤ 16 ∧ s 0 0 6 = nI nb ∧ t 14 0 7 = nI nb ∧ s 0 0 7 = t 14 0 0 ∧ 0 ≤ (t 14 0 0).toInt ∧ (t 14 0 0).toInt ≤ 100000 ∧ s 0 0 8 = t 14 0 17 ∧ (∀ w, w < 14 → s 3 0 w = t 24 0 w ∧ 1 ≤ (t 24 0 w).toInt ∧ (t 24 0 w).toInt ≤ 9) ∧ (∀ d, d < 10 → rl_door nb s t d) ∧ (∀ i, i < nb → rl_box s t i) ∧ ∀ i, nb ≤ i → i < 16 → t 17 0 i = 0 ∧ t 18 0 i = 0 ∧ t 19 0 i = 0
def rl_debt (s t : kx_S) (i : Nat) : Prop := s 9 i 8 = t 18 0 i ∧ s 9 i 9 = t 19 0 i ∧ tw_01 (t 18 0 i) ∧ tw_01 (t 19 0 i) ∧ (¬ t 19 0 i = 0 → s 9 i 10 = t 20 0 i)
def rl_debts (nb : Nat) (s t : kx_S) : Prop := (∀ i, i < nb → rl_debt s t i) ∧ s 4 0 1 = t 14 0 18 ∧ s 4 0 2 = t 14 0 19 ∧ ∀ c : Nat, c < 4 → s 5 0 c = tm_feeA t (nI c) nb
/-- box i is settled -/
def rl_up (s t : kx_S) (i : Nat) : Prop := s 9 i 7 = tm_st t i (tm_n t i) ∧ t 19 0 i = tw_b (tm_dl t i (tm_n t i)) ∧ (tm_dl t i (tm_n t i) = true → t 18 0 i = 0)
def rl_all (nb : Nat) (s t : kx_S) : Prop := rl_raw nb s t ∧ rl_debts nb s t ∧ ∀ i, i < nb → rl_up s t i
theorem rl_tmWF {nb : Nat} {s t : kx_S} (h : rl_raw nb s t) : tm_WF nb t := by
  obtain ⟨h16, -, h7, -, -, -, -, htr, -, hbx, -⟩ := h
  refine ⟨h7, h16, fun i hi => ?_, fun w hw => (htr w hw).2⟩
  obtain ⟨-, -, -, h1, h2, h3⟩ := hbx i hi
  exact ⟨_, h1, h2, fun k hk => (h3 k hk).2.2.2.2.2.1⟩
theorem rl_twWF {nb : Nat} {s t : kx_S} (h : rl_raw nb s t) : tw_WF nb s := by
  obtain ⟨h16, -, h7, -, -, -, -, htr, -, hbx, -⟩ := h
  refine ⟨fun i hi => ?_, fun w hw => by rw [(htr w hw).1]; exact (htr w hw).2⟩
  obtain ⟨-, -, h0, h1, h2, h3⟩ := hbx i hi
  exact ⟨_, h0, h2, fun k hk => ⟨_, tw_who14 (h3 k hk).2.2.2.2.2.1, (h3 k hk).2.2.2.2.2.2.1⟩⟩
theorem rl_CI {nb : Nat} {s t : kx_S} (h : rl_raw nb s t) (hd : ∀ i, i < nb → rl_debt s t i) : tw_CI nb s := by
  refine ⟨h.1, rl_twWF h, fun i hi => ?_, fun d hd1 => ?_, fun d hd1 => ?_, h.2.1⟩
  · obtain ⟨a, b, c, e, -⟩ := hd i hi
    rw [a, b]; exact ⟨c, e⟩
  · obtain ⟨-, a, b, -⟩ := h.2.2.2.2.2.2.2.2.1 d hd1
    rw [a]; exact b
  · obtain ⟨-, -, -, a, b, -⟩ := h.2.2.2.2.2.2.2.2.1 d hd1
    rw [a]; exact b
theorem rl_tn {nb : Nat} {s t : kx_S} (h : rl_raw nb s t) {i : Nat} (hi : i < nb) : tw_n s i = tm_n t i := by
  obtain ⟨-, -, h0, h1, h2, -⟩ := h.2.2.2.2.2.2.2.2.2.1 i hi
  exact tw_n_eq h0 h2
/-- the same story -/
theorem rl_st {nb : Nat} {s t : kx_S} (h : rl_raw nb s t) {i : Nat} (hi : i < nb) : tw_st s i (tm_n t i) = tm_st t i (tm_n t i) := by
  obtain ⟨h16, -, -, -, hn0, hn1, -, htr, hdr, hbx, -⟩ := h
  obtain ⟨-, -, -, -, h12, hsc⟩ := hbx i hi
  have ht1 : ∀ w, w < 14 → 1 ≤ (s 3 0 w).toInt ∧ (s 3 0 w).toInt ≤ 9 := fun w hw => by rw [(htr w hw).1]; exact (htr w hw).2
  have hS : ∀ k, k < tm_n t i → dp_S (fun k => (tw_w (s 3 0) (fun d => s 8 d 1) (s 12 i) k).toInt) (fun j k => tw_tru (s 13 i k) (nI j)) (fun k => tw_tru (s 13 i k) 12) k = dp_S (tm_w t i) (tm_f t i) (tm_s t i) k := by
    refine dp_S_congr (n := tm_n t i) (fun k hk => ?_) (fun k hk => ?_) (fun k hk j hj => ?_)
    · obtain ⟨-, -, -, -, -, hw, hmk, -, -⟩ := hsc k hk
      have hm14 := tw_who14 hw
      show (tw_w (s 3 0) (fun d => s 8 d 1) (s 12 i) k).toInt = _
      rw [tw_w_eq (j := tw_mk (t 23 0 (12 * i + k))) (by omega) hm14 hmk ht1, tm_w]
      congr 2
      unfold tw_trust
      by_cases e14 : tw_mk (t 23 0 (12 * i + k)) = 14
      · rw [if_pos e14, if_pos e14]
      · rw [if_neg e14, if_neg e14]
        by_cases e4 : 4 ≤ tw_mk (t 23 0 (12 * i + k))
        · rw [show (fun d => s 8 d 1) (tw_mk (t 23 0 (12 * i + k)) - 4) = t 29 0 (tw_mk (t 23 0 (12 * i + k)) - 4) from (hdr (tw_mk (t 23 0 (12 * i + k)) - 4) (by omega)).2.1, (htr (tw_mk (t 23 0 (12 * i + k))) (by omega)).1]
        · rw [if_neg (fun z => e4 z.1), if_neg (fun z => e4 z.1), (htr (tw_mk (t 23 0 (12 * i + k))) (by omega)).1]
    · obtain ⟨htm, -, -, hpl, hv, -, -, h8, -⟩ := hsc k hk
      show tw_tru (s 13 i k) 12 = tm_s t i k
      rw [h8, htm, hpl, tw_cmn_mn tw_pl0 hv]
      rfl
    · obtain ⟨htm, -, -, hpl, hv, -, -, -, h9⟩ := hsc k hk
      obtain ⟨htm2, -, -, hpl2, hv2, -, -, -, -⟩ := hsc j (by omega)
      show tw_tru (s 13 i k) (nI j) = tm_f t i j k
      rw [h9 j hj, htm, hpl, htm2, hpl2, tw_cmn_mn hv2 hv]
      rfl
  unfold tw_st tm_st tm_S
  rw [dp_best_congr (tm_n t i) hS]
theorem tw_last_congr {st : Int32} {f g : Nat → Int32} : ∀ n, (∀ k, k < n → f k = g k) → tw_last st f n = tw_last st g n := by
  intro n
  induction n with
  | zero => intro _; rfl
  | succ n ih => intro h; rw [tw_last, tw_last, ih (fun k hk => h k (by omega)), h n (by omega)]
theorem tw_cour_congr {st : Int32} {f g : Nat → Int32} : ∀ n, (∀ k, k < n → f k = g k) → tw_cour st f n = tw_cour st g n := by
  intro n
  induction n with
  | zero => intro _; rfl
  | succ n ih => intro h; rw [tw_cour, tw_cour, ih (fun k hk => h k (by omega)), h n (by omega)]
theorem rl_pls {nb : Nat} {s t : kx_S} (h : rl_raw nb s t) {i : Nat} (hi : i < nb) : ∀ k, k < tm_n t i → s 11 i k = tm_pl t i k := fun k hk => ((h.2.2.2.2.2.2.2.2.2.1 i hi).2.2.2.2.2 k hk).2.2.2.1
theorem rl_last {nb : Nat} {s t : kx_S} (h : rl_raw nb s t) {i : Nat} (hi : i < nb) (st : Int32) : tw_last st (s 11 i) (tm_n t i) = tw_last st (tm_pl t i) (tm_n t i) := tw_last_congr _ (rl_pls h hi)
theorem rl_cour {nb : Nat} {s t : kx_S} (h : rl_raw nb s t) {i : Nat} (hi : i < nb) (st : Int32) : tw_cour st (s 11 i) (tm_n t i) = tw_cour st (tm_pl t i) (tm_n t i) := tw_cour_congr _ (rl_pls h hi)
