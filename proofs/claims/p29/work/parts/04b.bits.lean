/-! bits (begun with the given text on bits) -/
def bt (x : Int32) (i : Nat) : Bool := x.toBitVec.getLsbD i
theorem b_ext {x y : Int32} (h : ∀ i, i < 32 → bt x i = bt y i) : x = y := Int32.toBitVec_inj.mp (BitVec.eq_of_getLsbD_eq (fun i hi => h i hi))
theorem b_or (x y : Int32) (i : Nat) : bt (x ||| y) i = (bt x i || bt y i) := by unfold bt; rw [Int32.toBitVec_or, BitVec.getLsbD_or]
theorem b_and (x y : Int32) (i : Nat) : bt (x &&& y) i = (bt x i && bt y i) := by unfold bt; rw [Int32.toBitVec_and, BitVec.getLsbD_and]
theorem s_l : ∀ n, n < 32 → ((nI n &&& 31).toBitVec.smod 32).toNat = n := by decide +kernel
theorem b_shl (n : Nat) (hn : n < 32) (x : Int32) {i : Nat} (hi : i < 32) : bt (x <<< (nI n &&& 31)) i = (decide (n ≤ i) && bt x (i - n)) := by
  unfold bt
  rw [Int32.toBitVec_shiftLeft]
  show (x.toBitVec <<< ((nI n &&& 31).toBitVec.smod 32).toNat).getLsbD i = _
  rw [s_l n hn, BitVec.getLsbD_shiftLeft]
  rcases Nat.lt_or_ge i n with h | h
  · simp [h, Nat.not_le.mpr h]
  · simp [hi, h, Nat.not_lt.mpr h]
theorem b_sshr (n : Nat) (hn : n < 32) (x : Int32) {i : Nat} (hi : i < 32) : bt (x >>> (nI n &&& 31)) i = if n + i < 32 then bt x (n + i) else bt x 31 := by
  unfold bt
  rw [Int32.toBitVec_shiftRight]
  show (x.toBitVec.sshiftRight ((nI n &&& 31).toBitVec.smod 32).toNat).getLsbD i = _
  rw [s_l n hn, BitVec.getLsbD_sshiftRight, BitVec.msb_eq_getLsbD_last]
  simp [hi]
theorem tw_b1 (i : Nat) (hi : i < 32) : bt 1 i = decide (i = 0) := (by decide +kernel : ∀ i, i < 32 → bt 1 i = decide (i = 0)) i hi
theorem tw_and1 (y : Int32) : (y &&& 1 = 1 ∧ bt y 0 = true) ∨ (y &&& 1 = 0 ∧ bt y 0 = false) := by
  cases h : bt y 0 with
  | true =>
    refine Or.inl ⟨b_ext (fun i hi => ?_), rfl⟩
    rw [b_and, tw_b1 i hi]
    by_cases e : i = 0
    · subst e; simp [h]
    · simp [e]
  | false =>
    refine Or.inr ⟨b_ext (fun i hi => ?_), rfl⟩
    rw [b_and, tw_b1 i hi, show bt 0 i = false from BitVec.getLsbD_zero]
    by_cases e : i = 0
    · subst e; simp [h]
    · simp [e]
theorem tw_bt (st : Int32) (j : Nat) (hj : j < 32) : tw_tru st (nI j) = bt st j := by
  have h : bt (st >>> (nI j &&& 31)) 0 = bt st j := by rw [b_sshr j hj st (by decide), if_pos (by omega)]; rfl
  unfold tw_tru
  rcases tw_and1 (st >>> (nI j &&& 31)) with ⟨h1, h2⟩ | ⟨h1, h2⟩
  · rw [h1, ← h, h2]; rfl
  · rw [h1, ← h, h2]; rfl
theorem tw_or (a : Int32) (k : Nat) (hk : k < 32) (j : Nat) (hj : j < 32) : tw_tru (a ||| ((1 : Int32) <<< (nI k &&& 31))) (nI j) = (tw_tru a (nI j) || decide (j = k)) := by
  rw [tw_bt _ j hj, tw_bt _ j hj, b_or, b_shl k hk 1 hj]
  congr 1
  rcases Nat.lt_or_ge j k with h | h
  · simp [Nat.not_le.mpr h, Nat.ne_of_lt h]
  · rw [tw_b1 _ (by omega)]
    by_cases e : j = k
    · subst e; simp
    · have h2 : ¬ j - k = 0 := by omega
      simp [h, e, h2]
theorem tw_bit01 (st x : Int32) : ((st >>> (x &&& 31)) &&& 1 = 0 ↔ tw_tru st x = false) := by
  unfold tw_tru
  rcases tw_and1 (st >>> (x &&& 31)) with ⟨h1, -⟩ | ⟨h1, -⟩ <;> rw [h1] <;> decide
theorem tw_tru0 (j : Nat) (hj : j < 32) : tw_tru 0 (nI j) = false := by rw [tw_bt _ j hj]; exact BitVec.getLsbD_zero
theorem tw_tru4096 : ∀ j, j < 13 → tw_tru 4096 (nI j) = decide (j = 12) := by decide +kernel
/-! whole numbers -/
theorem tw_rng (x : Int32) : -2147483648 ≤ x.toInt ∧ x.toInt < 2147483648 := ⟨Int32.le_toInt x, Int32.toInt_lt x⟩
theorem tw_bmod {z : Int} (h1 : -2147483648 ≤ z) (h2 : z < 2147483648) : z.bmod (2 ^ 32) = z := Int.bmod_eq_of_le (by omega) (by omega)
theorem tw_addI {x y : Int32} (h1 : -2147483648 ≤ x.toInt + y.toInt) (h2 : x.toInt + y.toInt < 2147483648) : (x + y).toInt = x.toInt + y.toInt := by
  rw [Int32.toInt_add]; exact tw_bmod h1 h2
theorem tw_subI {x y : Int32} (h1 : -2147483648 ≤ x.toInt - y.toInt) (h2 : x.toInt - y.toInt < 2147483648) : (x - y).toInt = x.toInt - y.toInt := by
  rw [Int32.toInt_sub]; exact tw_bmod h1 h2
theorem tw_mulI {x y : Int32} (h1 : -2147483648 ≤ x.toInt * y.toInt) (h2 : x.toInt * y.toInt < 2147483648) : (x * y).toInt = x.toInt * y.toInt := by
  rw [Int32.toInt_mul]; exact tw_bmod h1 h2
theorem tw_max (x y : Int32) : (if x < y then y else x).toInt = max x.toInt y.toInt := by
  by_cases h : x < y
  · rw [if_pos h]; rw [tw_lt] at h; omega
  · rw [if_neg h]; rw [tw_lt] at h; omega
theorem tw_of {x : Int32} (h : 0 ≤ x.toInt) : x = nI x.toInt.toNat := by
  apply Int32.toInt_inj.mp
  have h2 := (tw_rng x).2
  rw [nI_toInt (by omega)]
  omega
theorem tw_rem {g : Int32} {B : Int} (h : g.toInt = B) (h0 : 0 ≤ B) : g - g / 4096 * 4096 = nI (B.toNat % 4096) := by
  have h2 := (tw_rng g).2
  rw [tw_of (x := g) (by omega), h]
  exact pk_rem (a := B.toNat) (d := 4096) (by omega) (by decide) (by decide)
theorem tw_pow : ∀ k, k < 12 → ((1 : Int32) <<< (nI k &&& 31)).toInt = 2 ^ k := by decide +kernel
theorem tw_pow_b : ∀ k, k < 12 → (0 : Int) < 2 ^ k ∧ (2 : Int) ^ k ≤ 2048 := by decide +kernel
/-! fees by courier -/
def tw_fee (row : Nat → Int32) (c a : Int32) : Nat → Int32 := fun j => if j < 4 ∧ nI j = c then row j + a else row j
theorem tw_fee_1 {row : Nat → Int32} {c a : Int32} (h : c < 0) : tw_fee row c a = row := by
  funext j
  unfold tw_fee
  rw [if_neg]
  rintro ⟨h1, h2⟩
  rw [← h2] at h
  exact nI_pos (by omega) h
theorem tw_fee_2 {row : Nat → Int32} {c a : Int32} (h : 4 ≤ c) : tw_fee row c a = row := by
  funext j
  unfold tw_fee
  rw [if_neg]
  rintro ⟨h1, h2⟩
  rw [← h2] at h
  exact nI_ge h1 (by omega) h
theorem tw_fee_3 {row : Nat → Int32} {k : Nat} {a : Int32} (h : k < 4) : tw_fee row (nI k) a = upd row k (row k + a) := by
  funext j
  unfold tw_fee upd
  by_cases e : j = k
  · subst e; simp [h]
  · rw [if_neg e, if_neg]
    rintro ⟨h1, h2⟩
    exact e ((nI_eq (by omega) (by omega)).mp h2)
/-- the trust of the maker k: couriers, doors, 14 for a finding -/
def tw_trust (tr jam : Nat → Int32) (k : Nat) : Int32 := if k = 14 then 50 else if 4 ≤ k ∧ ¬ jam (k - 4) = 0 then 1 else tr k
theorem tw_trust_1 {tr jam : Nat → Int32} {k : Nat} (hk : k ≤ 14) (h : nI k = 14) : tw_trust tr jam k = 50 := by
  have e : k = 14 := (nI_eq (b := 14) (by omega) (by decide)).mp h
  rw [tw_trust, if_pos e]
theorem tw_trust_0 {k : Nat} (h : ¬ nI k = 14) : ¬ k = 14 := fun e => h (by rw [e]; rfl)
theorem tw_trust_4 {k : Nat} (hk : k ≤ 14) (h : ¬ nI k < 4) : 4 ≤ k := by
  rcases Nat.lt_or_ge k 4 with q | q
  · exact absurd (nI_lt (b := 4) q (by decide)) h
  · exact q
theorem tw_trust_3 {k : Nat} (hk : k ≤ 14) (h : nI k < 4) : k < 4 := by
  rcases Nat.lt_or_ge k 4 with q | q
  · exact q
  · exact absurd h (nI_nlt (b := 4) q (by omega))
def tw_w (tr jam mk : Nat → Int32) (k : Nat) : Int32 := tw_trust tr jam (mk k).toNatClampNeg * 4096 + ((1 : Int32) <<< (nI k &&& 31))
theorem tw_m1ne : ∀ j, j < 13 → ¬ nI j = -1 := by decide +kernel
/-! the set of the scans that one can follow, as it grows -/
theorem tw_sa_0t {q t : Int32} {pl tm : Nat → Int32} (h : ¬ t < tw_cmn 0 q) : ∀ j, j < 13 → tw_tru 4096 (nI j) = (if j = 12 then decide (tw_cmn 0 q ≤ t) else if j < 0 then decide (tw_cmn (pl j) q ≤ t - tm j) else false) := by
  intro j hj
  rw [tw_tru4096 j hj]
  have h2 : tw_cmn 0 q ≤ t := by rw [tw_le]; rw [tw_lt] at h; omega
  by_cases e : j = 12
  · simp [e, h2]
  · simp [e]
theorem tw_sa_0f {q t : Int32} {pl tm : Nat → Int32} (h : t < tw_cmn 0 q) : ∀ j, j < 13 → tw_tru 0 (nI j) = (if j = 12 then decide (tw_cmn 0 q ≤ t) else if j < 0 then decide (tw_cmn (pl j) q ≤ t - tm j) else false) := by
  intro j hj
  rw [tw_tru0 j (by omega)]
  have h2 : ¬ tw_cmn 0 q ≤ t := by rw [tw_le]; rw [tw_lt] at h; omega
  by_cases e : j = 12
  · simp [e, h2]
  · simp [e]
theorem tw_sa_f {q t a : Int32} {k : Nat} {pl tm : Nat → Int32} (hk : k < 12) (hL : ∀ j, j < 13 → tw_tru a (nI j) = (if j = 12 then decide (tw_cmn 0 q ≤ t) else if j < k then decide (tw_cmn (pl j) q ≤ t - tm j) else false)) (h : t - tm k < tw_cmn (pl k) q) : ∀ j, j < 13 → tw_tru a (nI j) = (if j = 12 then decide (tw_cmn 0 q ≤ t) else if j < k + 1 then decide (tw_cmn (pl j) q ≤ t - tm j) else false) := by
  intro j hj
  rw [hL j hj]
  have h2 : ¬ tw_cmn (pl k) q ≤ t - tm k := by rw [tw_le]; rw [tw_lt] at h; omega
  by_cases e : j = 12
  · simp [e]
  · by_cases e2 : j = k
    · subst e2; simp [e, h2]
    · by_cases e3 : j < k
      · simp [e, e3, Nat.lt_succ_of_lt e3]
      · have e4 : ¬ j < k + 1 := by omega
        simp [e, e3, e4]
theorem tw_sa_t {q t a : Int32} {k : Nat} {pl tm : Nat → Int32} (hk : k < 12) (hL : ∀ j, j < 13 → tw_tru a (nI j) = (if j = 12 then decide (tw_cmn 0 q ≤ t) else if j < k then decide (tw_cmn (pl j) q ≤ t - tm j) else false)) (h : ¬ t - tm k < tw_cmn (pl k) q) : ∀ j, j < 13 → tw_tru (a ||| ((1 : Int32) <<< (nI k &&& 31))) (nI j) = (if j = 12 then decide (tw_cmn 0 q ≤ t) else if j < k + 1 then decide (tw_cmn (pl j) q ≤ t - tm j) else false) := by
  intro j hj
  rw [tw_or a k (by omega) j (by omega), hL j hj]
  have h2 : tw_cmn (pl k) q ≤ t - tm k := by rw [tw_le]; rw [tw_lt] at h; omega
  by_cases e : j = 12
  · have e5 : ¬ (12 : Nat) = k := by omega
    simp [e, e5]
  · by_cases e2 : j = k
    · subst e2; simp [e, h2]
    · by_cases e3 : j < k
      · simp [e, e2, e3, Nat.lt_succ_of_lt e3]
      · have e4 : ¬ j < k + 1 := by omega
        simp [e, e2, e3, e4]
theorem tw_note_e1 {f : Nat → Int32} {n j : Nat} {x : Int32} (h : j < n) : upd f n x j = f j := upd_n (by omega)
theorem tw_note_e2 {f : Nat → Int32} {n j : Nat} {x : Int32} (h : j < n) : upd f n x j = f j := upd_n (by omega)
