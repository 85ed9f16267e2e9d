/-! sums and sets apart: what the reference keeps of a story -/
def tw_ms (f g : Int32) (k : Nat) (S : Int) : Prop := (f = -1 ∧ S = -1) ∨ (1 ≤ f.toInt ∧ f.toInt ≤ 50 * ((k : Int) + 1) ∧ ∃ s : Nat, s < 2 ^ (k + 1) ∧ g = nI s ∧ S = f.toInt * 4096 + s)
def tw_mc (f g : Int32) (k : Nat) (A w : Int) : Prop := (A = -1 ∧ f = -1 ∧ g = 0) ∨ (0 ≤ A ∧ tw_ms f g k (A + w))
theorem tw_p2 : ∀ k, k < 12 → ((1 : Int32) <<< (nI k &&& 31)) = nI (2 ^ k) := by decide +kernel
theorem tw_p2b : ∀ k, k < 13 → 2 ^ k ≤ 4096 := by decide +kernel
theorem tw_orN (a b : Nat) : nI a ||| nI b = nI (a ||| b) := by
  apply Int32.toBitVec_inj.1
  show BitVec.ofNat 32 a ||| BitVec.ofNat 32 b = BitVec.ofNat 32 (a ||| b)
  apply BitVec.eq_of_getLsbD_eq
  intro i hi
  simp [hi]
theorem tw_or2 {s k : Nat} (hk : k < 12) (h : s < 2 ^ k) : nI s ||| ((1 : Int32) <<< (nI k &&& 31)) = nI (s + 2 ^ k) := by
  rw [tw_p2 k hk, tw_orN]
  congr 1
  have h1 := Nat.two_pow_add_eq_or_of_lt (i := k) h 1
  rw [Nat.mul_one] at h1
  rw [Nat.or_comm, ← h1, Nat.add_comm]
theorem tw_pm {a b : Nat} (h : a ≤ b) : 2 ^ a ≤ 2 ^ b := Nat.pow_le_pow_right (by decide) h
/-- the scan stands alone -/
theorem tw_mc_0 {k : Nat} {t : Int32} {w : Int} (hk : k < 12) (ht : 1 ≤ t.toInt ∧ t.toInt ≤ 50) (hw : w = t.toInt * 4096 + 2 ^ k) : tw_mc t ((1 : Int32) <<< (nI k &&& 31)) k 0 w := by
  refine Or.inr ⟨Int.le_refl 0, Or.inr ⟨ht.1, by omega, 2 ^ k, ?_, tw_p2 k hk, ?_⟩⟩
  · exact Nat.pow_lt_pow_right (by decide) (by omega)
  · have hc2 : (2 : Int) ^ k = ((2 ^ k : Nat) : Int) := (Int.natCast_pow 2 k).symm
    rw [hw, hc2]; omega
theorem tw_mc_m1 {k : Nat} {w : Int} : tw_mc (-1) 0 k (-1) w := Or.inl ⟨rfl, rfl, rfl⟩
theorem tw_mne {f : Int32} (h : 1 ≤ f.toInt) : ¬ f = -1 := by
  intro e
  rw [e] at h
  exact absurd h (by decide)
/-- it can follow, and is better: taken -/
theorem tw_mc_up {j k : Nat} {fj gj f g t : Int32} {SJ A w : Int} (hj : j < k) (hk : k < 12) (ht : 1 ≤ t.toInt ∧ t.toInt ≤ 50) (hw : w = t.toInt * 4096 + 2 ^ k) (hS : tw_ms fj gj j SJ) (hne : ¬ fj = -1) (hc : tw_mc f g k A w)
    (hup : f < fj + t ∨ (fj + t = f ∧ g < gj ||| ((1 : Int32) <<< (nI k &&& 31)))) : tw_mc (fj + t) (gj ||| ((1 : Int32) <<< (nI k &&& 31))) k (max A SJ) w := by
  rcases hS with ⟨h1, -⟩ | ⟨h1, h2, s, h3, h4, h5⟩
  · exact absurd h1 hne
  have e1 : (fj + t).toInt = fj.toInt + t.toInt := tw_addI (by omega) (by omega)
  have hp := tw_pm (show j + 1 ≤ k by omega)
  have hb : s < 2 ^ k := by omega
  have e2 : gj ||| ((1 : Int32) <<< (nI k &&& 31)) = nI (s + 2 ^ k) := by rw [h4]; exact tw_or2 hk hb
  have h12 := tw_p2b k (by omega)
  have hc2 : (2 : Int) ^ k = ((2 ^ k : Nat) : Int) := (Int.natCast_pow 2 k).symm
  have hsum : SJ + w = (fj + t).toInt * 4096 + ((s + 2 ^ k : Nat) : Int) := by rw [e1, h5, hw, hc2]; omega
  have hnew : tw_ms (fj + t) (gj ||| ((1 : Int32) <<< (nI k &&& 31))) k (SJ + w) := Or.inr ⟨by omega, by omega, s + 2 ^ k, by rw [Nat.pow_succ]; omega, e2, hsum⟩
  have hA : A ≤ SJ := by
    rcases hc with ⟨h6, -, -⟩ | ⟨h6, h7 | ⟨h7, h8, s2, h9, h10, h11⟩⟩
    · omega
    · exfalso
      have hpos : (0 : Int) < 2 ^ k := (tw_pow_b k hk).1
      omega
    · rcases hup with q | ⟨q1, q2⟩
      · rw [tw_lt, e1] at q
        have : s2 < 2 ^ (k + 1) := h9
        have hp1 := tw_p2b (k + 1) (by omega)
        omega
      · rw [e2, h10, tw_lt, nI_toInt (by have := tw_p2b (k + 1) (by omega); omega), nI_toInt (by omega)] at q2
        have q3 : (fj + t).toInt = f.toInt := by rw [q1]
        omega
  rw [show max A SJ = SJ by omega]
  exact Or.inr ⟨by omega, hnew⟩
/-- it can follow, and is no better: left -/
theorem tw_mc_no {j k : Nat} {fj gj f g t : Int32} {SJ A w : Int} (hj : j < k) (hk : k < 12) (ht : 1 ≤ t.toInt ∧ t.toInt ≤ 50) (hw : w = t.toInt * 4096 + 2 ^ k) (hS : tw_ms fj gj j SJ) (hne : ¬ fj = -1) (hc : tw_mc f g k A w)
    (hno : ¬ f < fj + t) (hno2 : ¬ fj + t = f ∨ (gj ||| ((1 : Int32) <<< (nI k &&& 31))) ≤ g) : tw_mc f g k (max A SJ) w := by
  rcases hS with ⟨h1, -⟩ | ⟨h1, h2, s, h3, h4, h5⟩
  · exact absurd h1 hne
  have e1 : (fj + t).toInt = fj.toInt + t.toInt := tw_addI (by omega) (by omega)
  have hp := tw_pm (show j + 1 ≤ k by omega)
  have hb : s < 2 ^ k := by omega
  have e2 : gj ||| ((1 : Int32) <<< (nI k &&& 31)) = nI (s + 2 ^ k) := by rw [h4]; exact tw_or2 hk hb
  have h12 := tw_p2b k (by omega)
  have hc2 : (2 : Int) ^ k = ((2 ^ k : Nat) : Int) := (Int.natCast_pow 2 k).symm
  have hsum : SJ + w = (fj + t).toInt * 4096 + ((s + 2 ^ k : Nat) : Int) := by rw [e1, h5, hw, hc2]; omega
  rw [tw_lt, e1] at hno
  have hA : SJ ≤ A := by
    rcases hc with ⟨h6, h7, -⟩ | ⟨h6, h7 | ⟨h7, h8, s2, h9, h10, h11⟩⟩
    · rw [h7] at hno
      have e9 : ((-1 : Int32)).toInt = -1 := by decide
      omega
    · exfalso
      have hpos : (0 : Int) < 2 ^ k := (tw_pow_b k hk).1
      omega
    · have hp1 := tw_p2b (k + 1) (by omega)
      rcases hno2 with q | q
      · have q2 : ¬ (fj + t).toInt = f.toInt := fun z => q (Int32.toInt_inj.mp z)
        have : s + 2 ^ k < 4096 + 1 := by rw [Nat.pow_succ] at hp1; omega
        rw [e1] at q2
        have h13 : s + 2 ^ k < 2 ^ (k + 1) := by rw [Nat.pow_succ]; omega
        omega
      · rw [e2, h10, tw_le, nI_toInt (by omega), nI_toInt (by omega)] at q
        omega
  rw [show max A SJ = A by omega]
  exact hc
theorem tw_ms_m1 {gj : Int32} {j : Nat} {SJ : Int} (h : tw_ms (-1) gj j SJ) : SJ = -1 := by
  rcases h with ⟨-, h⟩ | ⟨h, -⟩
  · exact h
  · exact absurd h (by decide)
/-- the best of all so far: trust m, set s -/
def tw_mb (m b : Int32) (B : Int) : Prop := 0 ≤ m.toInt ∧ m.toInt ≤ 600 ∧ ∃ s : Nat, s < 4096 ∧ b = nI s ∧ B = m.toInt * 4096 + s
theorem tw_ms_of {f g : Int32} {k : Nat} {A w : Int} (hc : tw_mc f g k A w) {S : Int} (hS : S = if A = -1 then -1 else A + w) : tw_ms f g k S := by
  rcases hc with ⟨h1, h2, -⟩ | ⟨h1, h2⟩
  · rw [if_pos h1] at hS; exact Or.inl ⟨h2, hS⟩
  · rw [if_neg (by omega)] at hS; rw [hS]; exact h2
theorem tw_mb_up {f g m b : Int32} {k : Nat} {S B : Int} (hk : k < 12) (hS : tw_ms f g k S) (hb : tw_mb m b B) (hup : m < f ∨ (f = m ∧ b < g)) : tw_mb f g (max B S) := by
  obtain ⟨h1, h2, s, h3, h4, h5⟩ := hb
  rcases hS with ⟨q1, q2⟩ | ⟨q1, q2, s2, q3, q4, q5⟩
  · exfalso
    rcases hup with z | ⟨z, -⟩
    · rw [q1, tw_lt] at z
      have e9 : ((-1 : Int32)).toInt = -1 := by decide
      omega
    · rw [← z, q1] at h1
      exact absurd h1 (by decide)
  · have hp1 := tw_p2b (k + 1) (by omega)
    have : B ≤ S := by
      rcases hup with z | ⟨z, z2⟩
      · rw [tw_lt] at z; omega
      · rw [h4, q4, tw_lt, nI_toInt (by omega), nI_toInt (by omega)] at z2
        rw [z] at q5; omega
    rw [show max B S = S by omega]
    exact ⟨by omega, by omega, s2, by omega, q4, q5⟩
theorem tw_mb_no {f g m b : Int32} {k : Nat} {S B : Int} (hk : k < 12) (hS : tw_ms f g k S) (hb : tw_mb m b B) (hno : ¬ m < f) (hno2 : ¬ f = m ∨ g ≤ b) : tw_mb m b (max B S) := by
  have hb9 := hb
  obtain ⟨h1, h2, s, h3, h4, h5⟩ := hb
  rcases hS with ⟨q1, q2⟩ | ⟨q1, q2, s2, q3, q4, q5⟩
  · rw [show max B S = B by omega]; exact hb9
  · have hp1 := tw_p2b (k + 1) (by omega)
    rw [tw_lt] at hno
    have : S ≤ B := by
      rcases hno2 with z | z
      · have z2 : ¬ f.toInt = m.toInt := fun y => z (Int32.toInt_inj.mp y)
        omega
      · rw [h4, q4, tw_le, nI_toInt (by omega), nI_toInt (by omega)] at z
        omega
    rw [show max B S = B by omega]; exact hb9
theorem tw_mb_0 : tw_mb 0 0 0 := ⟨by decide, by decide, 0, by decide, rfl, by decide⟩
theorem tw_mb_st {m b : Int32} {B : Int} (h : tw_mb m b B) : b = nI (B.toNat % 4096) := by
  obtain ⟨h1, h2, s, h3, h4, h5⟩ := h
  rw [h4]
  congr 1
  omega
