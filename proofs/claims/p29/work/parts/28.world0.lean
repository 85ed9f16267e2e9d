/-! the world at the loop's first turn -/
def kx_ad1 (q0 : Nat) (u1 u2 : Nat → Nat) : kx_A := fun k n => match k with
  | 0 => q0
  | 1 => u1 1
  | 2 => u1 2
  | 3 => u1 3
  | 4 => u1 4
  | 5 => u1 5
  | 6 => u1 6
  | 7 => u1 7
  | 8 => u2 n
  | _ => q0
def kx_sg1 (f3 : Nat → Int32) : kx_S := fun k _ => match k with
  | 3 => f3
  | 8 => fun j => match j with
    | 0 => 3
    | 2 => -1
    | _ => 0
  | _ => fun _ => 0
def kx_ad2 (q0 : Nat) (u1 u2 : Nat → Nat) (q1 : Nat) (v1 v2 : Nat → Nat) : kx_A := fun q n => if q < 14 then kx_ad1 q0 u1 u2 q n else if q < 28 then kx_ad1 q1 v1 v2 (q - 14) n else 0
def kx_sg2 (f g : Nat → Int32) : kx_S := fun q n => if q < 14 then kx_sg1 f q n else kx_sg1 g (q - 14) n
def kx_ix (k n : Nat) : Nat := if k < 8 then k else 8 + n
theorem kx_live0 {k n : Nat} (h : kx_live 0 k n) : (k = 8 ∧ n < 10) ∨ (k < 8 ∧ n = 0) := by
  have h1 := kx_live14 h
  rcases (show k < 8 ∨ k = 8 ∨ k = 9 ∨ k = 10 ∨ k = 11 ∨ k = 12 ∨ k = 13 by omega) with e | rfl | rfl | rfl | rfl | rfl | rfl
  · refine Or.inr ⟨e, ?_⟩
    unfold kx_live at h
    split at h
    all_goals first | exact h.2 | exact absurd h (Nat.not_lt_zero n) | omega
  · exact Or.inl ⟨rfl, h⟩
  all_goals exact absurd (show n < 0 from h) (Nat.not_lt_zero n)
theorem kx_ix_lt {k n : Nat} (h : kx_live 0 k n) : kx_ix k n < 18 := by
  unfold kx_ix
  rcases kx_live0 h with ⟨rfl, h1⟩ | ⟨h1, h2⟩
  · rw [if_neg (by decide)]; omega
  · rw [if_pos h1]; omega
theorem kx_ix_inj {k n k' n' : Nat} (h : kx_live 0 k n) (h' : kx_live 0 k' n') (e : kx_ix k n = kx_ix k' n') : k = k' ∧ n = n' := by
  have a := kx_live0 h
  have b := kx_live0 h'
  unfold kx_ix at e
  split at e <;> split at e <;> omega
theorem kx_arrV {c : ClassId} {N : Nat} {f g : Nat → Value} (h : ∀ j, j < N → f j = g j) : arrV c N f = arrV c N g := by
  have e : (fun j : Fin N => f j.val) = fun j => g j.val := funext fun j => h j.val j.isLt
  unfold arrV
  rw [e]

theorem kx_hix1 {G : kx_G} {q0 : Nat} {u1 u2 : Nat → Nat} {g : Nat → Option Nat} {f3 : Nat → Int32} : ∀ k n, kx_live 0 k n → ∃ e : va_E, ([(q0, .inr (3, [.ref (u1 1), .ref (u1 2), .ref (u1 3), .ref (u1 4), .ref (u1 6), .ref (u1 7), .int 0, .int 0, .int 0])), (u1 1, .inl (G.2 2, 16, .inr (.inr (.inr (.inr (fun _ => none)))))), (u1 2, .inl (G.2 3, 10, .inr (.inr (.inr (.inr g))))), (u1 3, .inl (G.2 0, 14, .inl f3)), (u1 4, .inr (2, [.ref (u1 5), .int 0, .int 0])), (u1 5, .inl (G.2 0, 4, .inl (fun _ => 0))), (u1 6, .inl (G.2 0, 12, .inl (fun _ => 0))), (u1 7, .inl (G.2 0, 12, .inl (fun _ => 0))), (u2 0, .inr (1, [.int 3, .int 0, .int (-1), .int 0, .int 0])), (u2 1, .inr (1, [.int 3, .int 0, .int (-1), .int 0, .int 0])), (u2 2, .inr (1, [.int 3, .int 0, .int (-1), .int 0, .int 0])), (u2 3, .inr (1, [.int 3, .int 0, .int (-1), .int 0, .int 0])), (u2 4, .inr (1, [.int 3, .int 0, .int (-1), .int 0, .int 0])), (u2 5, .inr (1, [.int 3, .int 0, .int (-1), .int 0, .int 0])), (u2 6, .inr (1, [.int 3, .int 0, .int (-1), .int 0, .int 0])), (u2 7, .inr (1, [.int 3, .int 0, .int (-1), .int 0, .int 0])), (u2 8, .inr (1, [.int 3, .int 0, .int (-1), .int 0, .int 0])), (u2 9, .inr (1, [.int 3, .int 0, .int (-1), .int 0, .int 0]))] : va_W)[kx_ix k n]? = some (kx_ad1 q0 u1 u2 k n, e) := fun k n hq => match k, n, hq with
    | 0, n, hq => ⟨_, rfl⟩
    | 1, n, hq => ⟨_, rfl⟩
    | 2, n, hq => ⟨_, rfl⟩
    | 3, n, hq => ⟨_, rfl⟩
    | 4, n, hq => ⟨_, rfl⟩
    | 5, n, hq => ⟨_, rfl⟩
    | 6, n, hq => ⟨_, rfl⟩
    | 7, n, hq => ⟨_, rfl⟩
    | 8, n, hq => match n, hq with
      | 0, _ => ⟨_, rfl⟩
      | 1, _ => ⟨_, rfl⟩
      | 2, _ => ⟨_, rfl⟩
      | 3, _ => ⟨_, rfl⟩
      | 4, _ => ⟨_, rfl⟩
      | 5, _ => ⟨_, rfl⟩
      | 6, _ => ⟨_, rfl⟩
      | 7, _ => ⟨_, rfl⟩
      | 8, _ => ⟨_, rfl⟩
      | 9, _ => ⟨_, rfl⟩
      | n + 10, hq => absurd (show n + 10 < 10 from hq) (by omega)
    | 9, n, hq => absurd (show n < 0 from hq) (Nat.not_lt_zero n)
    | 10, n, hq => absurd (show n < 0 from hq) (Nat.not_lt_zero n)
    | 11, n, hq => absurd (show n < 0 from hq) (Nat.not_lt_zero n)
    | 12, n, hq => absurd (show n < 0 from hq) (Nat.not_lt_zero n)
    | 13, n, hq => absurd (show n < 0 from hq) (Nat.not_lt_zero n)
    | k + 14, n, hq => absurd (kx_live14 hq) (by omega)
theorem kx_hixa {G : kx_G} {q0 : Nat} {u1 u2 : Nat → Nat} {g : Nat → Option Nat} {f3 : Nat → Int32} {q1 : Nat} {v1 v2 : Nat → Nat} {h : Nat → Option Nat} {f4 : Nat → Int32} : ∀ k n, kx_live 0 k n → ∃ e : va_E, ([(q0, .inr (3, [.ref (u1 1), .ref (u1 2), .ref (u1 3), .ref (u1 4), .ref (u1 6), .ref (u1 7), .int 0, .int 0, .int 0])), (u1 1, .inl (G.2 2, 16, .inr (.inr (.inr (.inr (fun _ => none)))))), (u1 2, .inl (G.2 3, 10, .inr (.inr (.inr (.inr g))))), (u1 3, .inl (G.2 0, 14, .inl f3)), (u1 4, .inr (2, [.ref (u1 5), .int 0, .int 0])), (u1 5, .inl (G.2 0, 4, .inl (fun _ => 0))), (u1 6, .inl (G.2 0, 12, .inl (fun _ => 0))), (u1 7, .inl (G.2 0, 12, .inl (fun _ => 0))), (u2 0, .inr (1, [.int 3, .int 0, .int (-1), .int 0, .int 0])), (u2 1, .inr (1, [.int 3, .int 0, .int (-1), .int 0, .int 0])), (u2 2, .inr (1, [.int 3, .int 0, .int (-1), .int 0, .int 0])), (u2 3, .inr (1, [.int 3, .int 0, .int (-1), .int 0, .int 0])), (u2 4, .inr (1, [.int 3, .int 0, .int (-1), .int 0, .int 0])), (u2 5, .inr (1, [.int 3, .int 0, .int (-1), .int 0, .int 0])), (u2 6, .inr (1, [.int 3, .int 0, .int (-1), .int 0, .int 0])), (u2 7, .inr (1, [.int 3, .int 0, .int (-1), .int 0, .int 0])), (u2 8, .inr (1, [.int 3, .int 0, .int (-1), .int 0, .int 0])), (u2 9, .inr (1, [.int 3, .int 0, .int (-1), .int 0, .int 0])), (q1, .inr (3, [.ref (v1 1), .ref (v1 2), .ref (v1 3), .ref (v1 4), .ref (v1 6), .ref (v1 7), .int 0, .int 0, .int 0])), (v1 1, .inl (G.2 2, 16, .inr (.inr (.inr (.inr (fun _ => none)))))), (v1 2, .inl (G.2 3, 10, .inr (.inr (.inr (.inr h))))), (v1 3, .inl (G.2 0, 14, .inl f4)), (v1 4, .inr (2, [.ref (v1 5), .int 0, .int 0])), (v1 5, .inl (G.2 0, 4, .inl (fun _ => 0))), (v1 6, .inl (G.2 0, 12, .inl (fun _ => 0))), (v1 7, .inl (G.2 0, 12, .inl (fun _ => 0))), (v2 0, .inr (1, [.int 3, .int 0, .int (-1), .int 0, .int 0])), (v2 1, .inr (1, [.int 3, .int 0, .int (-1), .int 0, .int 0])), (v2 2, .inr (1, [.int 3, .int 0, .int (-1), .int 0, .int 0])), (v2 3, .inr (1, [.int 3, .int 0, .int (-1), .int 0, .int 0])), (v2 4, .inr (1, [.int 3, .int 0, .int (-1), .int 0, .int 0])), (v2 5, .inr (1, [.int 3, .int 0, .int (-1), .int 0, .int 0])), (v2 6, .inr (1, [.int 3, .int 0, .int (-1), .int 0, .int 0])), (v2 7, .inr (1, [.int 3, .int 0, .int (-1), .int 0, .int 0])), (v2 8, .inr (1, [.int 3, .int 0, .int (-1), .int 0, .int 0])), (v2 9, .inr (1, [.int 3, .int 0, .int (-1), .int 0, .int 0]))] : va_W)[kx_ix k n]? = some (kx_ad1 q0 u1 u2 k n, e) := fun k n hq => match k, n, hq with
    | 0, n, hq => ⟨_, rfl⟩
    | 1, n, hq => ⟨_, rfl⟩
    | 2, n, hq => ⟨_, rfl⟩
    | 3, n, hq => ⟨_, rfl⟩
    | 4, n, hq => ⟨_, rfl⟩
    | 5, n, hq => ⟨_, rfl⟩
    | 6, n, hq => ⟨_, rfl⟩
    | 7, n, hq => ⟨_, rfl⟩
    | 8, n, hq => match n, hq with
      | 0, _ => ⟨_, rfl⟩
      | 1, _ => ⟨_, rfl⟩
      | 2, _ => ⟨_, rfl⟩
      | 3, _ => ⟨_, rfl⟩
      | 4, _ => ⟨_, rfl⟩
      | 5, _ => ⟨_, rfl⟩
      | 6, _ => ⟨_, rfl⟩
      | 7, _ => ⟨_, rfl⟩
      | 8, _ => ⟨_, rfl⟩
      | 9, _ => ⟨_, rfl⟩
      | n + 10, hq => absurd (show n + 10 < 10 from hq) (by omega)
    | 9, n, hq => absurd (show n < 0 from hq) (Nat.not_lt_zero n)
    | 10, n, hq => absurd (show n < 0 from hq) (Nat.not_lt_zero n)
    | 11, n, hq => absurd (show n < 0 from hq) (Nat.not_lt_zero n)
    | 12, n, hq => absurd (show n < 0 from hq) (Nat.not_lt_zero n)
    | 13, n, hq => absurd (show n < 0 from hq) (Nat.not_lt_zero n)
    | k + 14, n, hq => absurd (kx_live14 hq) (by omega)
theorem kx_hixb {G : kx_G} {q0 : Nat} {u1 u2 : Nat → Nat} {g : Nat → Option Nat} {f3 : Nat → Int32} {q1 : Nat} {v1 v2 : Nat → Nat} {h : Nat → Option Nat} {f4 : Nat → Int32} : ∀ k n, kx_live 0 k n → ∃ e : va_E, ([(q0, .inr (3, [.ref (u1 1), .ref (u1 2), .ref (u1 3), .ref (u1 4), .ref (u1 6), .ref (u1 7), .int 0, .int 0, .int 0])), (u1 1, .inl (G.2 2, 16, .inr (.inr (.inr (.inr (fun _ => none)))))), (u1 2, .inl (G.2 3, 10, .inr (.inr (.inr (.inr g))))), (u1 3, .inl (G.2 0, 14, .inl f3)), (u1 4, .inr (2, [.ref (u1 5), .int 0, .int 0])), (u1 5, .inl (G.2 0, 4, .inl (fun _ => 0))), (u1 6, .inl (G.2 0, 12, .inl (fun _ => 0))), (u1 7, .inl (G.2 0, 12, .inl (fun _ => 0))), (u2 0, .inr (1, [.int 3, .int 0, .int (-1), .int 0, .int 0])), (u2 1, .inr (1, [.int 3, .int 0, .int (-1), .int 0, .int 0])), (u2 2, .inr (1, [.int 3, .int 0, .int (-1), .int 0, .int 0])), (u2 3, .inr (1, [.int 3, .int 0, .int (-1), .int 0, .int 0])), (u2 4, .inr (1, [.int 3, .int 0, .int (-1), .int 0, .int 0])), (u2 5, .inr (1, [.int 3, .int 0, .int (-1), .int 0, .int 0])), (u2 6, .inr (1, [.int 3, .int 0, .int (-1), .int 0, .int 0])), (u2 7, .inr (1, [.int 3, .int 0, .int (-1), .int 0, .int 0])), (u2 8, .inr (1, [.int 3, .int 0, .int (-1), .int 0, .int 0])), (u2 9, .inr (1, [.int 3, .int 0, .int (-1), .int 0, .int 0])), (q1, .inr (3, [.ref (v1 1), .ref (v1 2), .ref (v1 3), .ref (v1 4), .ref (v1 6), .ref (v1 7), .int 0, .int 0, .int 0])), (v1 1, .inl (G.2 2, 16, .inr (.inr (.inr (.inr (fun _ => none)))))), (v1 2, .inl (G.2 3, 10, .inr (.inr (.inr (.inr h))))), (v1 3, .inl (G.2 0, 14, .inl f4)), (v1 4, .inr (2, [.ref (v1 5), .int 0, .int 0])), (v1 5, .inl (G.2 0, 4, .inl (fun _ => 0))), (v1 6, .inl (G.2 0, 12, .inl (fun _ => 0))), (v1 7, .inl (G.2 0, 12, .inl (fun _ => 0))), (v2 0, .inr (1, [.int 3, .int 0, .int (-1), .int 0, .int 0])), (v2 1, .inr (1, [.int 3, .int 0, .int (-1), .int 0, .int 0])), (v2 2, .inr (1, [.int 3, .int 0, .int (-1), .int 0, .int 0])), (v2 3, .inr (1, [.int 3, .int 0, .int (-1), .int 0, .int 0])), (v2 4, .inr (1, [.int 3, .int 0, .int (-1), .int 0, .int 0])), (v2 5, .inr (1, [.int 3, .int 0, .int (-1), .int 0, .int 0])), (v2 6, .inr (1, [.int 3, .int 0, .int (-1), .int 0, .int 0])), (v2 7, .inr (1, [.int 3, .int 0, .int (-1), .int 0, .int 0])), (v2 8, .inr (1, [.int 3, .int 0, .int (-1), .int 0, .int 0])), (v2 9, .inr (1, [.int 3, .int 0, .int (-1), .int 0, .int 0]))] : va_W)[18 + kx_ix k n]? = some (kx_ad1 q1 v1 v2 k n, e) := fun k n hq => match k, n, hq with
    | 0, n, hq => ⟨_, rfl⟩
    | 1, n, hq => ⟨_, rfl⟩
    | 2, n, hq => ⟨_, rfl⟩
    | 3, n, hq => ⟨_, rfl⟩
    | 4, n, hq => ⟨_, rfl⟩
    | 5, n, hq => ⟨_, rfl⟩
    | 6, n, hq => ⟨_, rfl⟩
    | 7, n, hq => ⟨_, rfl⟩
    | 8, n, hq => match n, hq with
      | 0, _ => ⟨_, rfl⟩
      | 1, _ => ⟨_, rfl⟩
      | 2, _ => ⟨_, rfl⟩
      | 3, _ => ⟨_, rfl⟩
      | 4, _ => ⟨_, rfl⟩
      | 5, _ => ⟨_, rfl⟩
      | 6, _ => ⟨_, rfl⟩
      | 7, _ => ⟨_, rfl⟩
      | 8, _ => ⟨_, rfl⟩
      | 9, _ => ⟨_, rfl⟩
      | n + 10, hq => absurd (show n + 10 < 10 from hq) (by omega)
    | 9, n, hq => absurd (show n < 0 from hq) (Nat.not_lt_zero n)
    | 10, n, hq => absurd (show n < 0 from hq) (Nat.not_lt_zero n)
    | 11, n, hq => absurd (show n < 0 from hq) (Nat.not_lt_zero n)
    | 12, n, hq => absurd (show n < 0 from hq) (Nat.not_lt_zero n)
    | 13, n, hq => absurd (show n < 0 from hq) (Nat.not_lt_zero n)
    | k + 14, n, hq => absurd (kx_live14 hq) (by omega)
set_option maxHeartbeats 4000000 in
set_option maxRecDepth 100000 in
theorem kx_W10 {G : kx_G} {z0 : Nat} {q0 : Nat} {u1 u2 : Nat → Nat} {g : Nat → Option Nat} {f3 : Nat → Int32} {H : Heap} (hP : va_P G.1 vwCl [(q0, .inr (3, [.ref (u1 1), .ref (u1 2), .ref (u1 3), .ref (u1 4), .ref (u1 6), .ref (u1 7), .int 0, .int 0, .int 0])), (u1 1, .inl (G.2 2, 16, .inr (.inr (.inr (.inr (fun _ => none)))))), (u1 2, .inl (G.2 3, 10, .inr (.inr (.inr (.inr g))))), (u1 3, .inl (G.2 0, 14, .inl f3)), (u1 4, .inr (2, [.ref (u1 5), .int 0, .int 0])), (u1 5, .inl (G.2 0, 4, .inl (fun _ => 0))), (u1 6, .inl (G.2 0, 12, .inl (fun _ => 0))), (u1 7, .inl (G.2 0, 12, .inl (fun _ => 0))), (u2 0, .inr (1, [.int 3, .int 0, .int (-1), .int 0, .int 0])), (u2 1, .inr (1, [.int 3, .int 0, .int (-1), .int 0, .int 0])), (u2 2, .inr (1, [.int 3, .int 0, .int (-1), .int 0, .int 0])), (u2 3, .inr (1, [.int 3, .int 0, .int (-1), .int 0, .int 0])), (u2 4, .inr (1, [.int 3, .int 0, .int (-1), .int 0, .int 0])), (u2 5, .inr (1, [.int 3, .int 0, .int (-1), .int 0, .int 0])), (u2 6, .inr (1, [.int 3, .int 0, .int (-1), .int 0, .int 0])), (u2 7, .inr (1, [.int 3, .int 0, .int (-1), .int 0, .int 0])), (u2 8, .inr (1, [.int 3, .int 0, .int (-1), .int 0, .int 0])), (u2 9, .inr (1, [.int 3, .int 0, .int (-1), .int 0, .int 0]))] H) (hD : va_D (kx_Ad z0) [(q0, .inr (3, [.ref (u1 1), .ref (u1 2), .ref (u1 3), .ref (u1 4), .ref (u1 6), .ref (u1 7), .int 0, .int 0, .int 0])), (u1 1, .inl (G.2 2, 16, .inr (.inr (.inr (.inr (fun _ => none)))))), (u1 2, .inl (G.2 3, 10, .inr (.inr (.inr (.inr g))))), (u1 3, .inl (G.2 0, 14, .inl f3)), (u1 4, .inr (2, [.ref (u1 5), .int 0, .int 0])), (u1 5, .inl (G.2 0, 4, .inl (fun _ => 0))), (u1 6, .inl (G.2 0, 12, .inl (fun _ => 0))), (u1 7, .inl (G.2 0, 12, .inl (fun _ => 0))), (u2 0, .inr (1, [.int 3, .int 0, .int (-1), .int 0, .int 0])), (u2 1, .inr (1, [.int 3, .int 0, .int (-1), .int 0, .int 0])), (u2 2, .inr (1, [.int 3, .int 0, .int (-1), .int 0, .int 0])), (u2 3, .inr (1, [.int 3, .int 0, .int (-1), .int 0, .int 0])), (u2 4, .inr (1, [.int 3, .int 0, .int (-1), .int 0, .int 0])), (u2 5, .inr (1, [.int 3, .int 0, .int (-1), .int 0, .int 0])), (u2 6, .inr (1, [.int 3, .int 0, .int (-1), .int 0, .int 0])), (u2 7, .inr (1, [.int 3, .int 0, .int (-1), .int 0, .int 0])), (u2 8, .inr (1, [.int 3, .int 0, .int (-1), .int 0, .int 0])), (u2 9, .inr (1, [.int 3, .int 0, .int (-1), .int 0, .int 0]))]) (hg : ∀ i, i < 10 → g i = some (u2 i)) : kx_W1 G z0 (kx_ad1 q0 u1 u2) 0 (kx_sg1 f3) H := by
  refine ⟨fun k n hq => ?_, fun k n k' n' hq hq' he => ?_, fun k n hq => ?_⟩
  · exact match k, n, hq with
    | 0, n, hq => hP 0 _ rfl
    | 1, n, hq => by
      have h9 : H[u1 1]? = some (vp_cell (G.2 2) (16, .inr (.inr (.inr (.inr (fun _ => none)))))) := hP 1 _ rfl
      show H[u1 1]? = some (vp_cell (G.2 2) (16, .inr (.inr (.inr (.inr (fun i => if i < 0 then some q0 else none))))))
      rw [h9, vp_cell_q, vp_cell_q]
      exact congrArg some (kx_arrV (fun j _ => by rw [if_neg (Nat.not_lt_zero j)]))
    | 2, n, hq => by
      have h9 : H[u1 2]? = some (vp_cell (G.2 3) (10, .inr (.inr (.inr (.inr g))))) := hP 2 _ rfl
      show H[u1 2]? = some (vp_cell (G.2 3) (10, .inr (.inr (.inr (.inr (fun i => some (u2 i)))))))
      rw [h9, vp_cell_q, vp_cell_q]
      exact congrArg some (kx_arrV (fun j hj => by rw [hg j hj]))
    | 3, n, hq => hP 3 _ rfl
    | 4, n, hq => hP 4 _ rfl
    | 5, n, hq => hP 5 _ rfl
    | 6, n, hq => hP 6 _ rfl
    | 7, n, hq => hP 7 _ rfl
    | 8, n, hq => match n, hq with
      | 0, _ => hP 8 _ rfl
      | 1, _ => hP 9 _ rfl
      | 2, _ => hP 10 _ rfl
      | 3, _ => hP 11 _ rfl
      | 4, _ => hP 12 _ rfl
      | 5, _ => hP 13 _ rfl
      | 6, _ => hP 14 _ rfl
      | 7, _ => hP 15 _ rfl
      | 8, _ => hP 16 _ rfl
      | 9, _ => hP 17 _ rfl
      | n + 10, hq => absurd (show n + 10 < 10 from hq) (by omega)
    | 9, n, hq => absurd (show n < 0 from hq) (Nat.not_lt_zero n)
    | 10, n, hq => absurd (show n < 0 from hq) (Nat.not_lt_zero n)
    | 11, n, hq => absurd (show n < 0 from hq) (Nat.not_lt_zero n)
    | 12, n, hq => absurd (show n < 0 from hq) (Nat.not_lt_zero n)
    | 13, n, hq => absurd (show n < 0 from hq) (Nat.not_lt_zero n)
    | k + 14, n, hq => absurd (kx_live14 hq) (by omega)
  · obtain ⟨e1, h1⟩ := kx_hix1 (G := G) (q0 := q0) (u1 := u1) (u2 := u2) (g := g) (f3 := f3) k n hq
    obtain ⟨e2, h2⟩ := kx_hix1 (G := G) (q0 := q0) (u1 := u1) (u2 := u2) (g := g) (f3 := f3) k' n' hq'
    exact kx_ix_inj hq hq' (hD.1 _ _ _ _ h1 h2 he)
  · obtain ⟨e1, h1⟩ := kx_hix1 (G := G) (q0 := q0) (u1 := u1) (u2 := u2) (g := g) (f3 := f3) k n hq
    exact hD.2 _ _ h1
set_option maxHeartbeats 4000000 in
set_option maxRecDepth 100000 in
theorem kx_Wd0 {G : kx_G} {z0 : Nat} {q0 : Nat} {u1 u2 : Nat → Nat} {g : Nat → Option Nat} {f3 : Nat → Int32} {q1 : Nat} {v1 v2 : Nat → Nat} {h : Nat → Option Nat} {f4 : Nat → Int32} {H : Heap} (hP : va_P G.1 vwCl [(q0, .inr (3, [.ref (u1 1), .ref (u1 2), .ref (u1 3), .ref (u1 4), .ref (u1 6), .ref (u1 7), .int 0, .int 0, .int 0])), (u1 1, .inl (G.2 2, 16, .inr (.inr (.inr (.inr (fun _ => none)))))), (u1 2, .inl (G.2 3, 10, .inr (.inr (.inr (.inr g))))), (u1 3, .inl (G.2 0, 14, .inl f3)), (u1 4, .inr (2, [.ref (u1 5), .int 0, .int 0])), (u1 5, .inl (G.2 0, 4, .inl (fun _ => 0))), (u1 6, .inl (G.2 0, 12, .inl (fun _ => 0))), (u1 7, .inl (G.2 0, 12, .inl (fun _ => 0))), (u2 0, .inr (1, [.int 3, .int 0, .int (-1), .int 0, .int 0])), (u2 1, .inr (1, [.int 3, .int 0, .int (-1), .int 0, .int 0])), (u2 2, .inr (1, [.int 3, .int 0, .int (-1), .int 0, .int 0])), (u2 3, .inr (1, [.int 3, .int 0, .int (-1), .int 0, .int 0])), (u2 4, .inr (1, [.int 3, .int 0, .int (-1), .int 0, .int 0])), (u2 5, .inr (1, [.int 3, .int 0, .int (-1), .int 0, .int 0])), (u2 6, .inr (1, [.int 3, .int 0, .int (-1), .int 0, .int 0])), (u2 7, .inr (1, [.int 3, .int 0, .int (-1), .int 0, .int 0])), (u2 8, .inr (1, [.int 3, .int 0, .int (-1), .int 0, .int 0])), (u2 9, .inr (1, [.int 3, .int 0, .int (-1), .int 0, .int 0])), (q1, .inr (3, [.ref (v1 1), .ref (v1 2), .ref (v1 3), .ref (v1 4), .ref (v1 6), .ref (v1 7), .int 0, .int 0, .int 0])), (v1 1, .inl (G.2 2, 16, .inr (.inr (.inr (.inr (fun _ => none)))))), (v1 2, .inl (G.2 3, 10, .inr (.inr (.inr (.inr h))))), (v1 3, .inl (G.2 0, 14, .inl f4)), (v1 4, .inr (2, [.ref (v1 5), .int 0, .int 0])), (v1 5, .inl (G.2 0, 4, .inl (fun _ => 0))), (v1 6, .inl (G.2 0, 12, .inl (fun _ => 0))), (v1 7, .inl (G.2 0, 12, .inl (fun _ => 0))), (v2 0, .inr (1, [.int 3, .int 0, .int (-1), .int 0, .int 0])), (v2 1, .inr (1, [.int 3, .int 0, .int (-1), .int 0, .int 0])), (v2 2, .inr (1, [.int 3, .int 0, .int (-1), .int 0, .int 0])), (v2 3, .inr (1, [.int 3, .int 0, .int (-1), .int 0, .int 0])), (v2 4, .inr (1, [.int 3, .int 0, .int (-1), .int 0, .int 0])), (v2 5, .inr (1, [.int 3, .int 0, .int (-1), .int 0, .int 0])), (v2 6, .inr (1, [.int 3, .int 0, .int (-1), .int 0, .int 0])), (v2 7, .inr (1, [.int 3, .int 0, .int (-1), .int 0, .int 0])), (v2 8, .inr (1, [.int 3, .int 0, .int (-1), .int 0, .int 0])), (v2 9, .inr (1, [.int 3, .int 0, .int (-1), .int 0, .int 0]))] H) (hD : va_D (kx_Ad z0) [(q0, .inr (3, [.ref (u1 1), .ref (u1 2), .ref (u1 3), .ref (u1 4), .ref (u1 6), .ref (u1 7), .int 0, .int 0, .int 0])), (u1 1, .inl (G.2 2, 16, .inr (.inr (.inr (.inr (fun _ => none)))))), (u1 2, .inl (G.2 3, 10, .inr (.inr (.inr (.inr g))))), (u1 3, .inl (G.2 0, 14, .inl f3)), (u1 4, .inr (2, [.ref (u1 5), .int 0, .int 0])), (u1 5, .inl (G.2 0, 4, .inl (fun _ => 0))), (u1 6, .inl (G.2 0, 12, .inl (fun _ => 0))), (u1 7, .inl (G.2 0, 12, .inl (fun _ => 0))), (u2 0, .inr (1, [.int 3, .int 0, .int (-1), .int 0, .int 0])), (u2 1, .inr (1, [.int 3, .int 0, .int (-1), .int 0, .int 0])), (u2 2, .inr (1, [.int 3, .int 0, .int (-1), .int 0, .int 0])), (u2 3, .inr (1, [.int 3, .int 0, .int (-1), .int 0, .int 0])), (u2 4, .inr (1, [.int 3, .int 0, .int (-1), .int 0, .int 0])), (u2 5, .inr (1, [.int 3, .int 0, .int (-1), .int 0, .int 0])), (u2 6, .inr (1, [.int 3, .int 0, .int (-1), .int 0, .int 0])), (u2 7, .inr (1, [.int 3, .int 0, .int (-1), .int 0, .int 0])), (u2 8, .inr (1, [.int 3, .int 0, .int (-1), .int 0, .int 0])), (u2 9, .inr (1, [.int 3, .int 0, .int (-1), .int 0, .int 0])), (q1, .inr (3, [.ref (v1 1), .ref (v1 2), .ref (v1 3), .ref (v1 4), .ref (v1 6), .ref (v1 7), .int 0, .int 0, .int 0])), (v1 1, .inl (G.2 2, 16, .inr (.inr (.inr (.inr (fun _ => none)))))), (v1 2, .inl (G.2 3, 10, .inr (.inr (.inr (.inr h))))), (v1 3, .inl (G.2 0, 14, .inl f4)), (v1 4, .inr (2, [.ref (v1 5), .int 0, .int 0])), (v1 5, .inl (G.2 0, 4, .inl (fun _ => 0))), (v1 6, .inl (G.2 0, 12, .inl (fun _ => 0))), (v1 7, .inl (G.2 0, 12, .inl (fun _ => 0))), (v2 0, .inr (1, [.int 3, .int 0, .int (-1), .int 0, .int 0])), (v2 1, .inr (1, [.int 3, .int 0, .int (-1), .int 0, .int 0])), (v2 2, .inr (1, [.int 3, .int 0, .int (-1), .int 0, .int 0])), (v2 3, .inr (1, [.int 3, .int 0, .int (-1), .int 0, .int 0])), (v2 4, .inr (1, [.int 3, .int 0, .int (-1), .int 0, .int 0])), (v2 5, .inr (1, [.int 3, .int 0, .int (-1), .int 0, .int 0])), (v2 6, .inr (1, [.int 3, .int 0, .int (-1), .int 0, .int 0])), (v2 7, .inr (1, [.int 3, .int 0, .int (-1), .int 0, .int 0])), (v2 8, .inr (1, [.int 3, .int 0, .int (-1), .int 0, .int 0])), (v2 9, .inr (1, [.int 3, .int 0, .int (-1), .int 0, .int 0]))]) (hg : ∀ i, i < 10 → g i = some (u2 i)) (hh : ∀ i, i < 10 → h i = some (v2 i)) : kx_Wd G z0 (kx_ad2 q0 u1 u2 q1 v1 v2) 0 (kx_sg2 f3 f4) H := by
  have hPa := hP.sub (ws' := [(q0, .inr (3, [.ref (u1 1), .ref (u1 2), .ref (u1 3), .ref (u1 4), .ref (u1 6), .ref (u1 7), .int 0, .int 0, .int 0])), (u1 1, .inl (G.2 2, 16, .inr (.inr (.inr (.inr (fun _ => none)))))), (u1 2, .inl (G.2 3, 10, .inr (.inr (.inr (.inr g))))), (u1 3, .inl (G.2 0, 14, .inl f3)), (u1 4, .inr (2, [.ref (u1 5), .int 0, .int 0])), (u1 5, .inl (G.2 0, 4, .inl (fun _ => 0))), (u1 6, .inl (G.2 0, 12, .inl (fun _ => 0))), (u1 7, .inl (G.2 0, 12, .inl (fun _ => 0))), (u2 0, .inr (1, [.int 3, .int 0, .int (-1), .int 0, .int 0])), (u2 1, .inr (1, [.int 3, .int 0, .int (-1), .int 0, .int 0])), (u2 2, .inr (1, [.int 3, .int 0, .int (-1), .int 0, .int 0])), (u2 3, .inr (1, [.int 3, .int 0, .int (-1), .int 0, .int 0])), (u2 4, .inr (1, [.int 3, .int 0, .int (-1), .int 0, .int 0])), (u2 5, .inr (1, [.int 3, .int 0, .int (-1), .int 0, .int 0])), (u2 6, .inr (1, [.int 3, .int 0, .int (-1), .int 0, .int 0])), (u2 7, .inr (1, [.int 3, .int 0, .int (-1), .int 0, .int 0])), (u2 8, .inr (1, [.int 3, .int 0, .int (-1), .int 0, .int 0])), (u2 9, .inr (1, [.int 3, .int 0, .int (-1), .int 0, .int 0]))]) [0, 1, 2, 3, 4, 5, 6, 7, 8, 9, 10, 11, 12, 13, 14, 15, 16, 17] rfl
  have hDa := hD.sub (ws' := [(q0, .inr (3, [.ref (u1 1), .ref (u1 2), .ref (u1 3), .ref (u1 4), .ref (u1 6), .ref (u1 7), .int 0, .int 0, .int 0])), (u1 1, .inl (G.2 2, 16, .inr (.inr (.inr (.inr (fun _ => none)))))), (u1 2, .inl (G.2 3, 10, .inr (.inr (.inr (.inr g))))), (u1 3, .inl (G.2 0, 14, .inl f3)), (u1 4, .inr (2, [.ref (u1 5), .int 0, .int 0])), (u1 5, .inl (G.2 0, 4, .inl (fun _ => 0))), (u1 6, .inl (G.2 0, 12, .inl (fun _ => 0))), (u1 7, .inl (G.2 0, 12, .inl (fun _ => 0))), (u2 0, .inr (1, [.int 3, .int 0, .int (-1), .int 0, .int 0])), (u2 1, .inr (1, [.int 3, .int 0, .int (-1), .int 0, .int 0])), (u2 2, .inr (1, [.int 3, .int 0, .int (-1), .int 0, .int 0])), (u2 3, .inr (1, [.int 3, .int 0, .int (-1), .int 0, .int 0])), (u2 4, .inr (1, [.int 3, .int 0, .int (-1), .int 0, .int 0])), (u2 5, .inr (1, [.int 3, .int 0, .int (-1), .int 0, .int 0])), (u2 6, .inr (1, [.int 3, .int 0, .int (-1), .int 0, .int 0])), (u2 7, .inr (1, [.int 3, .int 0, .int (-1), .int 0, .int 0])), (u2 8, .inr (1, [.int 3, .int 0, .int (-1), .int 0, .int 0])), (u2 9, .inr (1, [.int 3, .int 0, .int (-1), .int 0, .int 0]))]) [0, 1, 2, 3, 4, 5, 6, 7, 8, 9, 10, 11, 12, 13, 14, 15, 16, 17] (by decide) rfl
  have hPb := hP.sub (ws' := [(q1, .inr (3, [.ref (v1 1), .ref (v1 2), .ref (v1 3), .ref (v1 4), .ref (v1 6), .ref (v1 7), .int 0, .int 0, .int 0])), (v1 1, .inl (G.2 2, 16, .inr (.inr (.inr (.inr (fun _ => none)))))), (v1 2, .inl (G.2 3, 10, .inr (.inr (.inr (.inr h))))), (v1 3, .inl (G.2 0, 14, .inl f4)), (v1 4, .inr (2, [.ref (v1 5), .int 0, .int 0])), (v1 5, .inl (G.2 0, 4, .inl (fun _ => 0))), (v1 6, .inl (G.2 0, 12, .inl (fun _ => 0))), (v1 7, .inl (G.2 0, 12, .inl (fun _ => 0))), (v2 0, .inr (1, [.int 3, .int 0, .int (-1), .int 0, .int 0])), (v2 1, .inr (1, [.int 3, .int 0, .int (-1), .int 0, .int 0])), (v2 2, .inr (1, [.int 3, .int 0, .int (-1), .int 0, .int 0])), (v2 3, .inr (1, [.int 3, .int 0, .int (-1), .int 0, .int 0])), (v2 4, .inr (1, [.int 3, .int 0, .int (-1), .int 0, .int 0])), (v2 5, .inr (1, [.int 3, .int 0, .int (-1), .int 0, .int 0])), (v2 6, .inr (1, [.int 3, .int 0, .int (-1), .int 0, .int 0])), (v2 7, .inr (1, [.int 3, .int 0, .int (-1), .int 0, .int 0])), (v2 8, .inr (1, [.int 3, .int 0, .int (-1), .int 0, .int 0])), (v2 9, .inr (1, [.int 3, .int 0, .int (-1), .int 0, .int 0]))]) [18, 19, 20, 21, 22, 23, 24, 25, 26, 27, 28, 29, 30, 31, 32, 33, 34, 35] rfl
  have hDb := hD.sub (ws' := [(q1, .inr (3, [.ref (v1 1), .ref (v1 2), .ref (v1 3), .ref (v1 4), .ref (v1 6), .ref (v1 7), .int 0, .int 0, .int 0])), (v1 1, .inl (G.2 2, 16, .inr (.inr (.inr (.inr (fun _ => none)))))), (v1 2, .inl (G.2 3, 10, .inr (.inr (.inr (.inr h))))), (v1 3, .inl (G.2 0, 14, .inl f4)), (v1 4, .inr (2, [.ref (v1 5), .int 0, .int 0])), (v1 5, .inl (G.2 0, 4, .inl (fun _ => 0))), (v1 6, .inl (G.2 0, 12, .inl (fun _ => 0))), (v1 7, .inl (G.2 0, 12, .inl (fun _ => 0))), (v2 0, .inr (1, [.int 3, .int 0, .int (-1), .int 0, .int 0])), (v2 1, .inr (1, [.int 3, .int 0, .int (-1), .int 0, .int 0])), (v2 2, .inr (1, [.int 3, .int 0, .int (-1), .int 0, .int 0])), (v2 3, .inr (1, [.int 3, .int 0, .int (-1), .int 0, .int 0])), (v2 4, .inr (1, [.int 3, .int 0, .int (-1), .int 0, .int 0])), (v2 5, .inr (1, [.int 3, .int 0, .int (-1), .int 0, .int 0])), (v2 6, .inr (1, [.int 3, .int 0, .int (-1), .int 0, .int 0])), (v2 7, .inr (1, [.int 3, .int 0, .int (-1), .int 0, .int 0])), (v2 8, .inr (1, [.int 3, .int 0, .int (-1), .int 0, .int 0])), (v2 9, .inr (1, [.int 3, .int 0, .int (-1), .int 0, .int 0]))]) [18, 19, 20, 21, 22, 23, 24, 25, 26, 27, 28, 29, 30, 31, 32, 33, 34, 35] (by decide) rfl
  refine ⟨(kx_W10 hPa hDa hg).eq (fun q n h => if_pos h) (fun q n h => if_pos h), ?_, ?_⟩
  · show kx_W1 G z0 (kx_a2 (kx_ad2 q0 u1 u2 q1 v1 v2)) 0 (kx_s2 (kx_sg2 f3 f4)) H
    refine (kx_W10 hPb hDb hh).eq (fun q n h => ?_) (fun q n h => ?_)
    · show (if q + 14 < 14 then kx_ad1 q0 u1 u2 (q + 14) n else if q + 14 < 28 then kx_ad1 q1 v1 v2 (q + 14 - 14) n else 0) = _
      rw [if_neg (by omega), if_pos (by omega), Nat.add_sub_cancel]
    · show (if q + 14 < 14 then kx_sg1 f3 (q + 14) n else kx_sg1 f4 (q + 14 - 14) n) = _
      rw [if_neg (by omega), Nat.add_sub_cancel]
  · show kx_Ap (kx_ad2 q0 u1 u2 q1 v1 v2) 0 0
    intro q n q' n' hq hq' e
    have a1 := kx_live14 hq
    have a2 := kx_live14 hq'
    have e1 : kx_ad2 q0 u1 u2 q1 v1 v2 q n = kx_ad1 q0 u1 u2 q n := if_pos a1
    have e2 : kx_a2 (kx_ad2 q0 u1 u2 q1 v1 v2) q' n' = kx_ad1 q1 v1 v2 q' n' := by
      show (if q' + 14 < 14 then kx_ad1 q0 u1 u2 (q' + 14) n' else if q' + 14 < 28 then kx_ad1 q1 v1 v2 (q' + 14 - 14) n' else 0) = _
      rw [if_neg (by omega), if_pos (by omega), Nat.add_sub_cancel]
    rw [e1, e2] at e
    obtain ⟨x1, h1⟩ := kx_hixa (G := G) (q0 := q0) (u1 := u1) (u2 := u2) (g := g) (f3 := f3) (q1 := q1) (v1 := v1) (v2 := v2) (h := h) (f4 := f4) q n hq
    obtain ⟨x2, h2⟩ := kx_hixb (G := G) (q0 := q0) (u1 := u1) (u2 := u2) (g := g) (f3 := f3) (q1 := q1) (v1 := v1) (v2 := v2) (h := h) (f4 := f4) q' n' hq'
    have h3 := hD.1 _ _ _ _ h1 h2 e
    have h4 := kx_ix_lt hq
    omega
theorem kx_rel0 {mo : Nat} {f3 f4 : Nat → Int32} (h3 : ∀ i, i < 14 → f3 i = 5) (h4 : ∀ i, i < 14 → f4 i = 5) : ro_RR mo 0 (kx_sg2 f3 f4) := by
  have h : ro_R mo 0 (kx_sg1 f3) (kx_sg1 f4) := by
    refine ⟨by decide, nI_0.symm, fun j h1 h2 => rfl, fun w hw => ?_, ⟨rfl, rfl⟩, fun c hc => rfl, fun d hd => ⟨fun j hj => rfl, Or.inl rfl, Or.inl rfl⟩, fun i hi => absurd hi (Nat.not_lt_zero i)⟩
    show f4 (ro_s mo w) = f3 w ∧ 1 ≤ (f3 w).toInt ∧ (f3 w).toInt ≤ 9
    rw [h3 w hw, h4 _ (ro_s_13 hw)]
    decide
  refine ro_R_eq h (fun q n hq _ _ => if_pos hq) (fun q n hq _ _ => ?_)
  rw [kx_swS_1 hq]
  show (if q + 14 < 14 then kx_sg1 f3 (q + 14) n else kx_sg1 f4 (q + 14 - 14) n) = _
  rw [if_neg (by omega), Nat.add_sub_cancel]

