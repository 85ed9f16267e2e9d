/-! PURE WORDS: what the methods answer -/
def tw_b (p : Bool) : Int32 := if p then 1 else 0
theorem tw_b_t {p : Bool} (h : p = true) : (1 : Int32) = tw_b p := by rw [h]; rfl
theorem tw_b_f {p : Bool} (h : p = false) : (0 : Int32) = tw_b p := by rw [h]; rfl
theorem tw_b_nar (p : Bool) : narrow .boolean (.int (tw_b p)) = .int (tw_b p) := by cases p <;> rfl
theorem tw_b_0 {p : Bool} (h : tw_b p = 0) : p = false := by cases p with | false => rfl | true => exact absurd h (by decide)
theorem tw_b_1 {p : Bool} (h : ¬ tw_b p = 0) : p = true := by cases p with | true => rfl | false => exact absurd rfl h
theorem tw_le (a b : Int32) : a ≤ b ↔ a.toInt ≤ b.toInt := Int32.le_iff_toInt_le
theorem tw_lt (a b : Int32) : a < b ↔ a.toInt < b.toInt := Int32.lt_iff_toInt_lt
theorem tw_eq (a b : Int32) : a = b ↔ a.toInt = b.toInt := Int32.toInt_inj.symm
def tw_in (x a b : Int32) : Bool := decide (a ≤ x) && decide (x ≤ b)
theorem tw_in_1 {x a b : Int32} (h : x < a) : tw_in x a b = false := by
  have h2 : ¬ a ≤ x := by rw [tw_le]; rw [tw_lt] at h; omega
  simp [tw_in, h2]
theorem tw_in_2 {x a b : Int32} (h : b < x) : tw_in x a b = false := by
  have h2 : ¬ x ≤ b := by rw [tw_le]; rw [tw_lt] at h; omega
  simp [tw_in, h2]
theorem tw_in_3 {x a b : Int32} (h : ¬ x < a) (h2 : ¬ b < x) : tw_in x a b = true := by
  have h3 : a ≤ x := by rw [tw_le]; rw [tw_lt] at h; omega
  have h4 : x ≤ b := by rw [tw_le]; rw [tw_lt] at h2; omega
  simp [tw_in, h3, h4]
theorem tw_in_iff (x a b : Int32) : tw_in x a b = true ↔ a.toInt ≤ x.toInt ∧ x.toInt ≤ b.toInt := by
  simp [tw_in, tw_le]
theorem tw_in_iff' (x a b : Int32) : tw_in x a b = false ↔ ¬ (a.toInt ≤ x.toInt ∧ x.toInt ≤ b.toInt) := by
  rw [← tw_in_iff]; cases tw_in x a b <;> simp
/-- an index that is within: a small number -/
theorem tw_in_nI {x : Int32} {n : Nat} (hn : n < 2 ^ 30) (h0 : ¬ x < 0) (h1 : ¬ nI n ≤ x) : ∃ k : Nat, k < n ∧ x = nI k := by
  obtain ⟨j, hj, rfl⟩ := nI_of h0
  refine ⟨j, ?_, rfl⟩
  rcases Nat.lt_or_ge j n with q | q
  · exact q
  · exact absurd (nI_le q hj) h1
/-- the kind of a place: 0 depot, 1 courier, 2 locker, 3 receiver, -1 none -/
def tw_kind (p : Int32) : Int32 := if p = 0 then 0 else if tw_in p 1 4 = true then 1 else if tw_in p 10 19 = true then 2 else if p = 30 then 3 else -1
theorem tw_kind_5 (p : Int32) : tw_kind p = -1 ∨ ∃ k : Nat, k < 4 ∧ tw_kind p = nI k := by
  unfold tw_kind
  split
  · exact Or.inr ⟨0, by decide, rfl⟩
  · split
    · exact Or.inr ⟨1, by decide, rfl⟩
    · split
      · exact Or.inr ⟨2, by decide, rfl⟩
      · split
        · exact Or.inr ⟨3, by decide, rfl⟩
        · exact Or.inl rfl
def tw_cmn (p q : Int32) : Int32 := if p = q then 0 else if tw_kind p = -1 then 1000000 else if tw_kind q = -1 then 1000000 else kx_min (tw_kind p * 4 + tw_kind q).toNatClampNeg
theorem tw_kind_ix {a b : Int32} {i j : Nat} (ha : a = nI i) (hb : b = nI j) (hi : i < 4) (hj : j < 4) : a * 4 + b = nI (i * 4 + j) := by
  rw [ha, hb, show (4 : Int32) = nI 4 from rfl, pk_mul, nI_add]
def tw_cour1 (p : Int32) : Int32 := if tw_in p 1 4 = true then p - 1 else -1
/-- is bit x set in the set st? -/
def tw_tru (st x : Int32) : Bool := decide (((st >>> (x &&& 31)) &&& 1) = 1)
/-- the place that the story tells last -/
def tw_last (st : Int32) (pl : Nat → Int32) : Nat → Int32
  | 0 => 0
  | k + 1 => if tw_tru st (nI k) = true then pl k else tw_last st pl k
/-- the courier that the story tells last -/
def tw_cour (st : Int32) (pl : Nat → Int32) : Nat → Int32
  | 0 => -1
  | k + 1 => if tw_tru st (nI k) = true ∧ tw_cour1 (pl k) ≠ -1 then tw_cour1 (pl k) else tw_cour st pl k
/-- since when the story tells no other place -/
def tw_since (st : Int32) (pl tm : Nat → Int32) (w : Int32) : Nat → Int32 → Int32
  | 0, s => s
  | k + 1, s => if tw_tru st (nI k) = true then (if pl k = w then tw_since st pl tm w k (tm k) else s) else tw_since st pl tm w k s
def tw_lies (st : Int32) (mk : Nat → Int32) (who : Int32) : Nat → Int32
  | 0 => 0
  | k + 1 => if mk k = who ∧ tw_tru st (nI k) = false then tw_lies st mk who k + 1 else tw_lies st mk who k
theorem tw_last_t {st : Int32} {pl : Nat → Int32} {k : Nat} (h : tw_tru st (nI k) = true) : tw_last st pl (k + 1) = pl k := by simp [tw_last, h]
theorem tw_last_f {st : Int32} {pl : Nat → Int32} {k : Nat} (h : tw_tru st (nI k) = false) : tw_last st pl (k + 1) = tw_last st pl k := by simp [tw_last, h]
theorem tw_lies_t {st : Int32} {mk : Nat → Int32} {who : Int32} {k : Nat} (h1 : mk k = who) (h : tw_tru st (nI k) = false) : tw_lies st mk who (k + 1) = tw_lies st mk who k + 1 := by simp [tw_lies, h, h1]
theorem tw_lies_f1 {st : Int32} {mk : Nat → Int32} {who : Int32} {k : Nat} (h1 : ¬ mk k = who) : tw_lies st mk who (k + 1) = tw_lies st mk who k := by simp [tw_lies, h1]
theorem tw_lies_f2 {st : Int32} {mk : Nat → Int32} {who : Int32} {k : Nat} (h : tw_tru st (nI k) = true) : tw_lies st mk who (k + 1) = tw_lies st mk who k := by simp [tw_lies, h]
theorem tw_cour_f1 {st : Int32} {pl : Nat → Int32} {k : Nat} (h : tw_tru st (nI k) = false) : tw_cour st pl (k + 1) = tw_cour st pl k := by simp [tw_cour, h]
theorem tw_cour_f2 {st : Int32} {pl : Nat → Int32} {k : Nat} (h : tw_cour1 (pl k) = -1) : tw_cour st pl (k + 1) = tw_cour st pl k := by simp [tw_cour, h]
theorem tw_cour_t {st : Int32} {pl : Nat → Int32} {k : Nat} (h : tw_tru st (nI k) = true) (h2 : ¬ tw_cour1 (pl k) = -1) : tw_cour st pl (k + 1) = tw_cour1 (pl k) := by simp [tw_cour, h, h2]
theorem tw_m1 (k : Nat) : nI (k + 1) - 1 = nI k := by rw [nI_succ]; exact Int32.add_sub_cancel _ _
theorem tw_neg (k : Nat) (h : k < 2 ^ 31) : ¬ nI k < 0 := nI_pos h
theorem tw_dn0 : ¬ (0 : Int32) ≤ nI 0 - 1 := by decide
theorem tw_since_1 {st : Int32} {pl tm : Nat → Int32} {w z : Int32} {k : Nat} (h : tw_tru st (nI k) = false) : tw_since st pl tm w (k + 1) z = tw_since st pl tm w k z := by simp [tw_since, h]
theorem tw_since_2 {st : Int32} {pl tm : Nat → Int32} {w z : Int32} {k : Nat} (h : tw_tru st (nI k) = true) (h2 : ¬ pl k = w) : tw_since st pl tm w (k + 1) z = z := by simp [tw_since, h, h2]
theorem tw_since_3 {st : Int32} {pl tm : Nat → Int32} {w z : Int32} {k : Nat} (h : tw_tru st (nI k) = true) (h2 : pl k = w) : tw_since st pl tm w (k + 1) z = tw_since st pl tm w k (tm k) := by simp [tw_since, h, h2]
def tw_after (tm : Nat → Int32) (n : Nat) (x : Int32) : Bool := decide (0 < n ∧ x < tm (n - 1))
theorem tw_after_3 {n : Nat} (h : ¬ nI n ≤ 0) : ∃ k : Nat, n = k + 1 := by
  cases n with
  | zero => exact absurd (by decide) h
  | succ k => exact ⟨k, rfl⟩
theorem tw_after_0 {tm : Nat → Int32} {n : Nat} {x : Int32} (hn : n ≤ 12) (h : nI n ≤ 0) : tw_after tm n x = false := by
  cases n with
  | zero => simp [tw_after]
  | succ k => exact absurd h (nI_nle (by omega) (by omega))
theorem tw_after_1 {tm : Nat → Int32} {k : Nat} {x : Int32} (h : tm k ≤ x) : tw_after tm (k + 1) x = false := by
  have h2 : ¬ x < tm k := by rw [tw_lt]; rw [tw_le] at h; omega
  simp [tw_after, h2]
theorem tw_after_2 {tm : Nat → Int32} {k : Nat} {x : Int32} (h : ¬ tm k ≤ x) : tw_after tm (k + 1) x = true := by
  have h2 : x < tm k := by rw [tw_lt]; rw [tw_le] at h; omega
  simp [tw_after, h2]
