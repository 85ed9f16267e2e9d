/-! THE STORY: the best sums scan by scan; the greatest worth of all that go on -/
def dp_ah (fo : Nat → Nat → Bool) (st : Nat → Bool) (S : Nat → Int) (k : Nat) : Nat → Int
  | 0 => if st k = true then 0 else -1
  | j + 1 => if fo j k = true then max (dp_ah fo st S k j) (S j) else dp_ah fo st S k j
def dp_v (w : Nat → Int) (fo : Nat → Nat → Bool) (st : Nat → Bool) (S : Nat → Int) (k : Nat) : Int := if dp_ah fo st S k k = -1 then -1 else dp_ah fo st S k k + w k
def dp_n (w : Nat → Int) (fo : Nat → Nat → Bool) (st : Nat → Bool) : Nat → Nat → Int
  | 0 => fun _ => -1
  | n + 1 => fun k => if k = n then dp_v w fo st (dp_n w fo st n) n else dp_n w fo st n k
def dp_S (w : Nat → Int) (fo : Nat → Nat → Bool) (st : Nat → Bool) (k : Nat) : Int := dp_n w fo st (k + 1) k
def dp_best (S : Nat → Int) : Nat → Int
  | 0 => 0
  | k + 1 => max (dp_best S k) (S k)
theorem dp_ah_congr {fo : Nat → Nat → Bool} {st : Nat → Bool} {S S' : Nat → Int} {k : Nat} : ∀ (j : Nat), (∀ i, i < j → S i = S' i) → dp_ah fo st S k j = dp_ah fo st S' k j := by
  intro j
  induction j with
  | zero => intro _; rfl
  | succ j ih =>
    intro h
    rw [dp_ah, dp_ah, ih (fun i hi => h i (by omega)), h j (by omega)]
theorem dp_n_S {w : Nat → Int} {fo : Nat → Nat → Bool} {st : Nat → Bool} {k : Nat} : ∀ n, k < n → dp_n w fo st n k = dp_S w fo st k := by
  intro n
  induction n with
  | zero => intro h; omega
  | succ n ih =>
    intro h
    by_cases e : k = n
    · subst e; rfl
    · rw [dp_n]
      simp only [if_neg e]
      exact ih (by omega)
theorem dp_S_eq (w : Nat → Int) (fo : Nat → Nat → Bool) (st : Nat → Bool) (k : Nat) : dp_S w fo st k = dp_v w fo st (dp_S w fo st) k := by
  have h : dp_S w fo st k = dp_v w fo st (dp_n w fo st k) k := by
    unfold dp_S
    rw [dp_n]
    simp
  rw [h]
  unfold dp_v
  rw [dp_ah_congr k (fun i hi => dp_n_S k hi)]
theorem dp_ah_lo {fo : Nat → Nat → Bool} {st : Nat → Bool} {S : Nat → Int} {k : Nat} : ∀ j, -1 ≤ dp_ah fo st S k j := by
  intro j
  induction j with
  | zero => rw [dp_ah]; split <;> omega
  | succ j ih => rw [dp_ah]; split <;> omega
/-- bounds: at most b a scan -/
theorem dp_ah_hi {fo : Nat → Nat → Bool} {st : Nat → Bool} {S : Nat → Int} {k : Nat} {M : Int} (hM : 0 ≤ M) : ∀ j, (∀ i, i < j → S i ≤ M) → dp_ah fo st S k j ≤ M := by
  intro j
  induction j with
  | zero => intro _; rw [dp_ah]; split <;> omega
  | succ j ih =>
    intro h
    have h1 := ih (fun i hi => h i (by omega))
    have h2 := h j (by omega)
    rw [dp_ah]; split <;> omega
theorem dp_S_bd {w : Nat → Int} {fo : Nat → Nat → Bool} {st : Nat → Bool} {B : Int} (hB : 0 ≤ B) : ∀ n, (∀ k, k < n → 0 < w k ∧ w k ≤ B) → ∀ k, k < n → -1 ≤ dp_S w fo st k ∧ dp_S w fo st k ≤ (k + 1) * B := by
  intro n h k
  induction k using Nat.strongRecOn with
  | ind k ih =>
    intro hk
    obtain ⟨h1, h2⟩ := h k hk
    have e := dp_S_eq w fo st k
    have hM : (0 : Int) ≤ k * B := Int.mul_nonneg (by omega) hB
    have h3 : dp_ah fo st (dp_S w fo st) k k ≤ k * B := dp_ah_hi hM k (fun i hi => by
      have h4 := (ih i hi (by omega)).2
      have h5 : ((i : Int) + 1) * B ≤ k * B := Int.mul_le_mul_of_nonneg_right (by omega) hB
      omega)
    have h6 := dp_ah_lo (fo := fo) (st := st) (S := dp_S w fo st) (k := k) k
    have h7 : ((k : Int) + 1) * B = k * B + B := by rw [Int.add_mul, Int.one_mul]
    rw [e]
    unfold dp_v
    split <;> omega
theorem dp_best_bd {S : Nat → Int} {M : Int} (hM : 0 ≤ M) : ∀ n, (∀ k, k < n → S k ≤ M) → 0 ≤ dp_best S n ∧ dp_best S n ≤ M := by
  intro n
  induction n with
  | zero => intro _; rw [dp_best]; omega
  | succ n ih =>
    intro h
    have h1 := ih (fun k hk => h k (by omega))
    have h2 := h n (by omega)
    rw [dp_best]; omega
theorem dp_best_congr {S S' : Nat → Int} : ∀ n, (∀ k, k < n → S k = S' k) → dp_best S n = dp_best S' n := by
  intro n
  induction n with
  | zero => intro _; rfl
  | succ n ih => intro h; rw [dp_best, dp_best, ih (fun k hk => h k (by omega)), h n (by omega)]
theorem dp_ah_congr2 {fo fo' : Nat → Nat → Bool} {st st' : Nat → Bool} {S : Nat → Int} {k : Nat} (hs : st k = st' k) : ∀ (j : Nat), (∀ i, i < j → fo i k = fo' i k) → dp_ah fo st S k j = dp_ah fo' st' S k j := by
  intro j
  induction j with
  | zero => intro _; rw [dp_ah, dp_ah, hs]
  | succ j ih =>
    intro h
    rw [dp_ah, dp_ah, ih (fun i hi => h i (by omega)), h j (by omega)]
theorem dp_S_congr {w w' : Nat → Int} {fo fo' : Nat → Nat → Bool} {st st' : Nat → Bool} {n : Nat} (hw : ∀ k, k < n → w k = w' k) (hs : ∀ k, k < n → st k = st' k) (hf : ∀ k, k < n → ∀ j, j < k → fo j k = fo' j k) : ∀ k, k < n → dp_S w fo st k = dp_S w' fo' st' k := by
  intro k
  induction k using Nat.strongRecOn with
  | ind k ih =>
    intro hk
    rw [dp_S_eq, dp_S_eq]
    unfold dp_v
    rw [dp_ah_congr2 (hs k hk) k (hf k hk), dp_ah_congr k (fun i hi => ih i hi (by omega)), hw k hk]
/-! all that go on: the greatest worth of what may follow the scan 'last' (none: last = n), by a depth -/
def dp_ext (w : Nat → Int) (fo : Nat → Nat → Bool) (n : Nat) : Nat → Nat → Int
  | 0, _ => 0
  | d + 1, last => (List.range n).foldl (fun g x => if last < x ∧ fo last x = true then max g (w x + dp_ext w fo n d x) else g) 0
