/-! THE STORY: the best sums scan by scan; the greatest worth of all that go on -/
def dp_ah (fo : Nat → Nat → Bool) (st : Nat → Bool) (S : Nat → Int) (k : Nat) : Nat → Int
  | 0 => if st k = true then 0 else -1
  | j + 1 => if fo j k = true then max (dp_ah fo st S k j) (S j) else dp_ah fo st S k j
def dp_v (w : Nat → Int) (fo : Nat → Nat → Bool) (st : Nat → Bool) (S : Nat → Int) (k : Nat) : Int := if dp_ah fo st S k k = -1 then -1 else dp_ah fo st S k k + w k
def dp_n (w : Nat → Int) (fo : Nat → Nat → Bool) (st : Nat → Bool) : Nat → Nat → Int
  | 0 => fun _ => -1
  | n + 1 => fun k => if k = n then dp_v w fo st (dp_n w fo st n) n else dp_n w fo st n k
def dp_S (w : Nat → Int) (fo : Nat → Nat → Bool) (st : Nat → Bool) (k : Nat) : Int := dp_n w fo st (k + 1) k
def dp_best (S : Nat → Int) : Nat → Int
  | 0 => 0
  | k + 1 => max (dp_best S k) (S k)
theorem dp_ah_congr {fo : Nat → Nat → Bool} {st : Nat → Bool} {S S' : Nat → Int} {k : Nat} : ∀ (j : Nat), (∀ i, i < j → S i = S' i) → dp_ah fo st S k j = dp_ah fo st S' k j := by
  intro j
  induction j with
  | zero => intro _; rfl
  | succ j ih =>
    intro h
    rw [dp_ah, dp_ah, ih (fun i hi => h i (by omega)), h j (by omega)]
theorem dp_n_S {w : Nat → Int} {fo : Nat → Nat → Bool} {st : Nat → Bool} {k : Nat} : ∀ n, k < n → dp_n w fo st n k = dp_S w fo st k := by
  intro n
  induction n with
  | zero => intro h; omega
  | succ n ih =>
    intro h
    by_cases e : k = n
    · subst e; rfl
    · rw [dp_n]
      simp only [if_neg e]
      exact ih (by omega)
theorem dp_S_eq (w : Nat → Int) (fo : Nat → Nat → Bool) (st : Nat → Bool) (k : Nat) : dp_S w fo st k = dp_v w fo st (dp_S w fo st) k := by
  have h : dp_S w fo st k = dp_v w fo st (dp_n w fo st k) k := by
    unfold dp_S
    rw [dp_n]
    simp
  rw [h]
  unfold dp_v
  rw [dp_ah_congr k (fun i hi => dp_n_S k hi)]
theorem dp_ah_lo {fo : Nat → Nat → Bool} {st : Nat → Bool} {S : Nat → Int} {k : Nat} : ∀ j, -1 ≤ dp_ah fo st S k j := by
  intro j
  induction j with
  | zero => rw [dp_ah]; split <;> omega
  | succ j ih => rw [dp_ah]; split <;> omega
/-- bounds: at most b a scan -/
theorem dp_ah_hi {fo : Nat → Nat → Bool} {st : Nat → Bool} {S : Nat → Int} {k : Nat} {M : Int} (hM : 0 ≤ M) : ∀ j, (∀ i, i < j → S i ≤ M) → dp_ah fo st S k j ≤ M := by
  intro j
  induction j with
  | zero => intro _; rw [dp_ah]; split <;> omega
  | succ j ih =>
    intro h
    have h1 := ih (fun i hi => h i (by omega))
    have h2 := h j (by omega)
    rw [dp_ah]; split <;> omega
theorem dp_S_bd {w : Nat → Int} {fo : Nat → Nat → Bool} {st : Nat → Bool} {B : Int} (hB : 0 ≤ B) : ∀ n, (∀ k, k < n → 0 < w k ∧ w k ≤ B) → ∀ k, k < n → -1 ≤ dp_S w fo st k ∧ dp_S w fo st k ≤ (k + 1) * B := by
  intro n h k
  induction k using Nat.strongRecOn with
  | ind k ih =>
    intro hk
    obtain ⟨h1, h2⟩ := h k hk
    have e := dp_S_eq w fo st k
    have hM : (0 : Int) ≤ k * B := Int.mul_nonneg (by omega) hB
    have h3 : dp_ah fo st (dp_S w fo st) k k ≤ k * B := dp_ah_hi hM k (fun i hi => by
      have h4 := (ih i hi (by omega)).2
      have h5 : ((i : Int) + 1) * B ≤ k * B := Int.mul_le_mul_of_nonneg_right (by omega) hB
      omega)
    have h6 := dp_ah_lo (fo := fo) (st := st) (S := dp_S w fo st) (k := k) k
    have h7 : ((k : Int) + 1) * B = k * B + B := by rw [Int.add_mul, Int.one_mul]
    rw [e]
    unfold dp_v
    split <;> omega
theorem dp_best_bd {S : Nat → Int} {M : Int} (hM : 0 ≤ M) : ∀ n, (∀ k, k < n → S k ≤ M) → 0 ≤ dp_best S n ∧ dp_best S n ≤ M := by
  intro n
  induction n with
  | zero => intro _; rw [dp_best]; omega
  | succ n ih =>
    intro h
    have h1 := ih (fun k hk => h k (by omega))
    have h2 := h n (by omega)
    rw [dp_best]; omega
theorem dp_best_congr {S S' : Nat → Int} : ∀ n, (∀ k, k < n → S k = S' k) → dp_best S n = dp_best S' n := by
  intro n
  induction n with
  | zero => intro _; rfl
  | succ n ih => intro h; rw [dp_best, dp_best, ih (fun k hk => h k (by omega)), h n (by omega)]
theorem dp_ah_congr2 {fo fo' : Nat → Nat → Bool} {st st' : Nat → Bool} {S : Nat → Int} {k : Nat} (hs : st k = st' k) : ∀ (j : Nat), (∀ i, i < j → fo i k = fo' i k) → dp_ah fo st S k j = dp_ah fo' st' S k j := by
  intro j
  induction j with
  | zero => intro _; rw [dp_ah, dp_ah, hs]
  | succ j ih =>
    intro h
    rw [dp_ah, dp_ah, ih (fun i hi => h i (by omega)), h j (by omega)]
theorem dp_S_congr {w w' : Nat → Int} {fo fo' : Nat → Nat → Bool} {st st' : Nat → Bool} {n : Nat} (hw : ∀ k, k < n → w k = w' k) (hs : ∀ k, k < n → st k = st' k) (hf : ∀ k, k < n → ∀ j, j < k → fo j k = fo' j k) : ∀ k, k < n → dp_S w fo st k = dp_S w' fo' st' k := by
  intro k
  induction k using Nat.strongRecOn with
  | ind k ih =>
    intro hk
    rw [dp_S_eq, dp_S_eq]
    unfold dp_v
    rw [dp_ah_congr2 (hs k hk) k (hf k hk), dp_ah_congr k (fun i hi => ih i hi (by omega)), hw k hk]
/-! all that go on: from x (the last scan is x - 1, none if x is 0), by a depth -/
def dp_g (fo : Nat → Nat → Bool) (st : Nat → Bool) : Nat → Nat → Bool
  | 0, k => st k
  | j + 1, k => fo j k
def dp_fi (g : Nat → Nat → Bool) (w : Nat → Int) (E : Nat → Int) (x : Nat) : Nat → Int
  | 0 => 0
  | j + 1 => if g x (x + j) = true then max (dp_fi g w E x j) (w (x + j) + E (x + j + 1)) else dp_fi g w E x j
def dp_e (g : Nat → Nat → Bool) (w : Nat → Int) (n : Nat) : Nat → Nat → Int
  | 0, _ => 0
  | d + 1, x => dp_fi g w (dp_e g w n d) x (n - x)
theorem dp_fi_lo {g : Nat → Nat → Bool} {w E : Nat → Int} {x : Nat} : ∀ j, 0 ≤ dp_fi g w E x j := by
  intro j
  induction j with
  | zero => rw [dp_fi]; omega
  | succ j ih => rw [dp_fi]; split <;> omega
theorem dp_fi_ge {g : Nat → Nat → Bool} {w E : Nat → Int} {x i : Nat} : ∀ j, i < j → g x (x + i) = true → w (x + i) + E (x + i + 1) ≤ dp_fi g w E x j := by
  intro j
  induction j with
  | zero => intro h; omega
  | succ j ih =>
    intro h hg
    rw [dp_fi]
    by_cases e : i = j
    · subst e
      rw [if_pos hg]; omega
    · have := ih (by omega) hg
      split <;> omega
theorem dp_fi_le {g : Nat → Nat → Bool} {w E : Nat → Int} {x : Nat} {B : Int} (hB : 0 ≤ B) : ∀ j, (∀ i, i < j → g x (x + i) = true → w (x + i) + E (x + i + 1) ≤ B) → dp_fi g w E x j ≤ B := by
  intro j
  induction j with
  | zero => intro _; rw [dp_fi]; exact hB
  | succ j ih =>
    intro h
    have h1 := ih (fun i hi => h i (by omega))
    rw [dp_fi]
    split
    · have h2 := h j (by omega) (by assumption)
      omega
    · exact h1
theorem dp_fi_congr {g : Nat → Nat → Bool} {w E E' : Nat → Int} {x : Nat} : ∀ j, (∀ i, i < j → E (x + i + 1) = E' (x + i + 1)) → dp_fi g w E x j = dp_fi g w E' x j := by
  intro j
  induction j with
  | zero => intro _; rfl
  | succ j ih => intro h; rw [dp_fi, dp_fi, ih (fun i hi => h i (by omega)), h j (by omega)]
theorem dp_e_n {g : Nat → Nat → Bool} {w : Nat → Int} {n x : Nat} (h : n ≤ x) : ∀ d, dp_e g w n d x = 0 := by
  intro d
  cases d with
  | zero => rfl
  | succ d => rw [dp_e, show n - x = 0 by omega, dp_fi]
theorem dp_e_fuel {g : Nat → Nat → Bool} {w : Nat → Int} {n : Nat} : ∀ d d' x, n - x ≤ d → n - x ≤ d' → dp_e g w n d x = dp_e g w n d' x := by
  intro d
  induction d with
  | zero => intro d' x h h'; rw [dp_e_n (by omega), dp_e_n (by omega)]
  | succ d ih =>
    intro d' x h h'
    cases d' with
    | zero => rw [dp_e_n (by omega), dp_e_n (by omega)]
    | succ d' =>
      rw [dp_e, dp_e]
      exact dp_fi_congr _ (fun i hi => ih d' (x + i + 1) (by omega) (by omega))
theorem dp_e_bd {g : Nat → Nat → Bool} {w : Nat → Int} {n : Nat} {B : Int} (hB : 0 ≤ B) (hw : ∀ k, k < n → w k ≤ B) : ∀ d x, 0 ≤ dp_e g w n d x ∧ dp_e g w n d x ≤ ((n - x : Nat) : Int) * B := by
  intro d
  induction d with
  | zero => intro x; rw [dp_e]; exact ⟨Int.le_refl 0, Int.mul_nonneg (by omega) hB⟩
  | succ d ih =>
    intro x
    rw [dp_e]
    refine ⟨dp_fi_lo _, dp_fi_le (Int.mul_nonneg (by omega) hB) _ (fun i hi hg => ?_)⟩
    have h1 := (ih (x + i + 1)).2
    have h2 := hw (x + i) (by omega)
    have h3 : (((n - (x + i + 1) : Nat) : Int) + 1) * B ≤ ((n - x : Nat) : Int) * B := Int.mul_le_mul_of_nonneg_right (by omega) hB
    rw [Int.add_mul, Int.one_mul] at h3
    omega
theorem dp_ah_ge {fo : Nat → Nat → Bool} {st : Nat → Bool} {S : Nat → Int} {k i : Nat} : ∀ j, i < j → fo i k = true → S i ≤ dp_ah fo st S k j := by
  intro j
  induction j with
  | zero => intro h; omega
  | succ j ih =>
    intro h hf
    rw [dp_ah]
    by_cases e : i = j
    · subst e; rw [if_pos hf]; omega
    · have := ih (by omega) hf
      split <;> omega
theorem dp_ah_st {fo : Nat → Nat → Bool} {st : Nat → Bool} {S : Nat → Int} {k : Nat} (h : st k = true) : ∀ j, 0 ≤ dp_ah fo st S k j := by
  intro j
  induction j with
  | zero => rw [dp_ah, if_pos h]; omega
  | succ j ih => rw [dp_ah]; split <;> omega
theorem dp_ah_at {fo : Nat → Nat → Bool} {st : Nat → Bool} {S : Nat → Int} {k : Nat} : ∀ j, dp_ah fo st S k j = -1 ∨ (dp_ah fo st S k j = 0 ∧ st k = true) ∨ ∃ i, i < j ∧ fo i k = true ∧ dp_ah fo st S k j = S i := by
  intro j
  induction j with
  | zero =>
    rw [dp_ah]
    split
    · exact Or.inr (Or.inl ⟨rfl, by assumption⟩)
    · exact Or.inl rfl
  | succ j ih =>
    rw [dp_ah]
    split
    · rename_i hf
      rcases Int.le_total (dp_ah fo st S k j) (S j) with h | h
      · exact Or.inr (Or.inr ⟨j, by omega, hf, by omega⟩)
      · rw [show max (dp_ah fo st S k j) (S j) = dp_ah fo st S k j by omega]
        rcases ih with h1 | h1 | ⟨i, h1, h2, h3⟩
        · exact Or.inl h1
        · exact Or.inr (Or.inl h1)
        · exact Or.inr (Or.inr ⟨i, by omega, h2, h3⟩)
    · rcases ih with h1 | h1 | ⟨i, h1, h2, h3⟩
      · exact Or.inl h1
      · exact Or.inr (Or.inl h1)
      · exact Or.inr (Or.inr ⟨i, by omega, h2, h3⟩)
theorem dp_best_ge {S : Nat → Int} {k : Nat} : ∀ n, k < n → S k ≤ dp_best S n := by
  intro n
  induction n with
  | zero => intro h; omega
  | succ n ih =>
    intro h
    rw [dp_best]
    by_cases e : k = n
    · subst e; omega
    · have := ih (by omega); omega
theorem dp_best_0 {S : Nat → Int} : ∀ n, 0 ≤ dp_best S n := by
  intro n
  induction n with
  | zero => rw [dp_best]; omega
  | succ n ih => rw [dp_best]; omega
theorem dp_best_le {S : Nat → Int} {B : Int} (hB : 0 ≤ B) : ∀ n, (∀ k, k < n → S k ≤ B) → dp_best S n ≤ B := by
  intro n
  induction n with
  | zero => intro _; rw [dp_best]; exact hB
  | succ n ih =>
    intro h
    have h1 := ih (fun k hk => h k (by omega))
    have h2 := h n (by omega)
    rw [dp_best]; omega
/-- going through all that go on finds what the best sums find -/
theorem dp_all {w : Nat → Int} {fo : Nat → Nat → Bool} {st : Nat → Bool} {n d : Nat} (hw : ∀ k, k < n → 0 < w k) (hd : n ≤ d) : dp_e (dp_g fo st) w n d 0 = dp_best (dp_S w fo st) n := by
  have hS : ∀ k, dp_S w fo st k = if dp_ah fo st (dp_S w fo st) k k = -1 then -1 else dp_ah fo st (dp_S w fo st) k k + w k := fun k => dp_S_eq w fo st k
  generalize dp_S w fo st = S at hS
  have hE : ∀ x, x < n → dp_e (dp_g fo st) w n d x = dp_fi (dp_g fo st) w (dp_e (dp_g fo st) w n d) x (n - x) := by
    intro x hx
    cases d with
    | zero => omega
    | succ d =>
      rw [dp_e]
      exact dp_fi_congr _ (fun i hi => dp_e_fuel d (d + 1) _ (by omega) (by omega))
  generalize hEe : dp_e (dp_g fo st) w n d = E at hE
  have hE0 : ∀ x, 0 ≤ E x := by
    intro x
    rw [← hEe]
    cases d with
    | zero => exact Int.le_refl 0
    | succ d => exact dp_fi_lo _
  have hEn : ∀ x, n ≤ x → E x = 0 := fun x hx => by rw [← hEe]; exact dp_e_n hx d
  -- a sum and what goes on from it is no more than the best sum
  have up : ∀ m k, n - (k + 1) ≤ m → k < n → S k ≠ -1 → S k + E (k + 1) ≤ dp_best S n := by
    intro m
    induction m with
    | zero =>
      intro k h hk hne
      rw [hEn (k + 1) (by omega)]
      have := dp_best_ge (S := S) n hk
      omega
    | succ m ih =>
      intro k h hk hne
      have hb := dp_best_ge (S := S) n hk
      rcases Nat.lt_or_ge (k + 1) n with q | q
      · rw [hE (k + 1) q]
        have := dp_fi_le (g := dp_g fo st) (w := w) (E := E) (x := k + 1) (B := dp_best S n - S k) (by omega) (n - (k + 1)) (fun i hi hg => by
          have hg : fo k (k + 1 + i) = true := hg
          have hl : k + 1 + i < n := by omega
          have h1 := dp_ah_ge (fo := fo) (st := st) (S := S) (k := k + 1 + i) (i := k) (k + 1 + i) (by omega) hg
          have h2 := hS (k + 1 + i)
          have h3 := hw (k + 1 + i) hl
          have hsk : 0 ≤ S k := by
            have h4 := hS k
            have h5 := dp_ah_lo (fo := fo) (st := st) (S := S) (k := k) k
            have h6 := hw k hk
            split at h4
            · exact absurd h4 hne
            · omega
          have h7 : ¬ dp_ah fo st S (k + 1 + i) (k + 1 + i) = -1 := by omega
          rw [if_neg h7] at h2
          have h8 := ih (k + 1 + i) (by omega) hl (by omega)
          omega)
        omega
      · rw [hEn (k + 1) q]
        omega
  have dn : ∀ k, k < n → S k ≠ -1 → S k + E (k + 1) ≤ E 0 := by
    intro k
    induction k using Nat.strongRecOn with
    | ind k ih =>
      intro hk hne
      have h2 := hS k
      have h3 := hw k hk
      rcases dp_ah_at (fo := fo) (st := st) (S := S) (k := k) k with h1 | ⟨h1, h4⟩ | ⟨i, h1, h4, h5⟩
      · rw [if_pos h1] at h2
        exact absurd h2 hne
      · rw [if_neg (by omega), h1] at h2
        rw [hE 0 (by omega)]
        have := dp_fi_ge (g := dp_g fo st) (w := w) (E := E) (x := 0) (i := k) (n - 0) (by omega) (by rw [Nat.zero_add]; exact h4)
        rw [Nat.zero_add] at this
        omega
      · have h6 : ¬ dp_ah fo st S k k = -1 := by
          intro h
          rw [if_pos h] at h2
          exact hne h2
        rw [if_neg h6, h5] at h2
        have h7 := ih i h1 (by omega) (by rw [← h5]; exact h6)
        have h8 : w k + E (k + 1) ≤ E (i + 1) := by
          rw [hE (i + 1) (by omega)]
          have := dp_fi_ge (g := dp_g fo st) (w := w) (E := E) (x := i + 1) (i := k - (i + 1)) (n - (i + 1)) (by omega) (by rw [show i + 1 + (k - (i + 1)) = k by omega]; exact h4)
          rw [show i + 1 + (k - (i + 1)) = k by omega] at this
          exact this
        omega
  apply Int.le_antisymm
  · rcases Nat.eq_zero_or_pos n with q | q
    · rw [hEn 0 (by omega)]; exact dp_best_0 n
    · rw [hE 0 q]
      refine dp_fi_le (dp_best_0 n) _ (fun i hi hg => ?_)
      rw [Nat.zero_add] at hg ⊢
      have hg : st i = true := hg
      have hl : i < n := by omega
      have h1 := dp_ah_st (fo := fo) (S := S) hg i
      have h2 := hS i
      have h3 := hw i hl
      rw [if_neg (by omega)] at h2
      have := up n i (by omega) hl (by omega)
      omega
  · refine dp_best_le (hE0 0) n (fun k hk => ?_)
    by_cases e : S k = -1
    · have := hE0 0; omega
    · have h1 := dn k hk e
      have h2 := hE0 (k + 1)
      omega
