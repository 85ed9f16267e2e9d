/-! the world at the loop's first turn -/
def kx_ad0 (q0 q1 qo : Nat) (u1 u2 v1 : Nat → Nat) : kx_A := fun k n => match k with
  | 0 => q0
  | 1 => u1 1
  | 2 => u1 2
  | 3 => u1 3
  | 4 => u1 4
  | 5 => u1 5
  | 6 => u1 6
  | 7 => u1 7
  | 8 => u2 n
  | 14 => q1
  | 15 => v1 15
  | 16 => v1 16
  | 17 => v1 17
  | 18 => v1 18
  | 19 => v1 19
  | 20 => v1 20
  | 21 => v1 21
  | 22 => v1 22
  | 23 => v1 23
  | 24 => v1 24
  | 25 => v1 25
  | 26 => v1 26
  | 27 => v1 27
  | 28 => v1 28
  | 29 => v1 29
  | 30 => v1 30
  | 31 => v1 31
  | _ => qo
def kx_sg0 (f3 f24 f25 f26 : Nat → Int32) : kx_S := fun k _ => match k with
  | 3 => f3
  | 8 => fun j => match j with
    | 0 => 3
    | 2 => -1
    | _ => 0
  | 24 => f24
  | 25 => f25
  | 26 => f26
  | _ => fun _ => 0
def kx_ix (k n : Nat) : Nat := if k < 8 then k else if k = 8 then 8 + n else k + 4
theorem kx_live0 {k n : Nat} (h : kx_live 0 k n) : (k = 8 ∧ n < 10) ∨ (k < 33 ∧ k ≠ 8 ∧ ¬ (9 ≤ k ∧ k ≤ 13) ∧ n = 0) := by
  by_cases e : 8 ≤ k ∧ k ≤ 13
  · rcases (show k = 8 ∨ k = 9 ∨ k = 10 ∨ k = 11 ∨ k = 12 ∨ k = 13 by omega) with rfl | rfl | rfl | rfl | rfl | rfl
    · exact Or.inl ⟨rfl, h⟩
    all_goals exact absurd (show n < 0 from h) (Nat.not_lt_zero n)
  · have h1 := kx_live_33 h
    have h2 : n = 0 := by
      unfold kx_live at h
      split at h
      all_goals first | exact h.2 | exact absurd h (Nat.not_lt_zero n) | exact absurd ⟨by decide, by decide⟩ e
    exact Or.inr ⟨h1, by omega, by omega, h2⟩
theorem kx_ix_inj {k n k' n' : Nat} (h : kx_live 0 k n) (h' : kx_live 0 k' n') (e : kx_ix k n = kx_ix k' n') : k = k' ∧ n = n' := by
  have a := kx_live0 h
  have b := kx_live0 h'
  unfold kx_ix at e
  split at e <;> split at e <;> (try split at e) <;> (try split at e) <;> omega
theorem kx_arrV {c : ClassId} {N : Nat} {f g : Nat → Value} (h : ∀ j, j < N → f j = g j) : arrV c N f = arrV c N g := by
  have e : (fun j : Fin N => f j.val) = fun j => g j.val := funext fun j => h j.val j.isLt
  unfold arrV
  rw [e]

set_option maxHeartbeats 4000000 in
set_option maxRecDepth 100000 in
theorem kx_Wd0 {G : kx_G} {z0 q0 q1 qo : Nat} {u1 u2 v1 : Nat → Nat} {g : Nat → Option Nat} {f3 f24 f25 f26 : Nat → Int32} {H : Heap} (hP : va_P G.1 vwCl [(q0, .inr (3, [.ref (u1 1), .ref (u1 2), .ref (u1 3), .ref (u1 4), .ref (u1 6), .ref (u1 7), .int 0, .int 0, .int 0])), (u1 1, .inl (G.2 2, 16, .inr (.inr (.inr (.inr (fun _ => none)))))), (u1 2, .inl (G.2 3, 10, .inr (.inr (.inr (.inr g))))), (u1 3, .inl (G.2 0, 14, .inl f3)), (u1 4, .inr (2, [.ref (u1 5), .int 0, .int 0])), (u1 5, .inl (G.2 0, 4, .inl (fun _ => 0))), (u1 6, .inl (G.2 0, 12, .inl (fun _ => 0))), (u1 7, .inl (G.2 0, 12, .inl (fun _ => 0))), (u2 0, .inr (1, [.int 3, .int 0, .int (-1), .int 0, .int 0])), (u2 1, .inr (1, [.int 3, .int 0, .int (-1), .int 0, .int 0])), (u2 2, .inr (1, [.int 3, .int 0, .int (-1), .int 0, .int 0])), (u2 3, .inr (1, [.int 3, .int 0, .int (-1), .int 0, .int 0])), (u2 4, .inr (1, [.int 3, .int 0, .int (-1), .int 0, .int 0])), (u2 5, .inr (1, [.int 3, .int 0, .int (-1), .int 0, .int 0])), (u2 6, .inr (1, [.int 3, .int 0, .int (-1), .int 0, .int 0])), (u2 7, .inr (1, [.int 3, .int 0, .int (-1), .int 0, .int 0])), (u2 8, .inr (1, [.int 3, .int 0, .int (-1), .int 0, .int 0])), (u2 9, .inr (1, [.int 3, .int 0, .int (-1), .int 0, .int 0])), (q1, .inr (4, [.int 0, .ref (v1 15), .ref (v1 16), .ref (v1 17), .ref (v1 18), .ref (v1 19), .ref (v1 20), .int 0, .ref (v1 21), .ref (v1 22), .ref (v1 23), .ref (v1 24), .ref (v1 25), .ref (v1 26), .ref (v1 27), .ref (v1 28), .ref (v1 29), .int 0, .int 0, .int 0, .ref (v1 30), .ref (v1 31), .int 0])), (v1 15, .inl (G.2 0, 16, .inl (fun _ => 0))), (v1 16, .inl (G.2 0, 16, .inl (fun _ => 0))), (v1 17, .inl (G.2 0, 16, .inl (fun _ => 0))), (v1 18, .inl (G.2 1, 16, .inl (fun _ => 0))), (v1 19, .inl (G.2 1, 16, .inl (fun _ => 0))), (v1 20, .inl (G.2 0, 16, .inl (fun _ => 0))), (v1 21, .inl (G.2 0, 192, .inl (fun _ => 0))), (v1 22, .inl (G.2 0, 192, .inl (fun _ => 0))), (v1 23, .inl (G.2 0, 192, .inl (fun _ => 0))), (v1 24, .inl (G.2 0, 14, .inl f24)), (v1 25, .inl (G.2 0, 10, .inl f25)), (v1 26, .inl (G.2 0, 10, .inl f26)), (v1 27, .inl (G.2 0, 10, .inl (fun _ => 0))), (v1 28, .inl (G.2 0, 10, .inl (fun _ => 0))), (v1 29, .inl (G.2 1, 10, .inl (fun _ => 0))), (v1 30, .inl (G.2 0, 12, .inl (fun _ => 0))), (v1 31, .inl (G.2 0, 12, .inl (fun _ => 0))), (qo, .inl (G.2 4, 1, .inr (.inl (fun _ => 0))))] H) (hD : va_D (kx_Ad z0) [(q0, .inr (3, [.ref (u1 1), .ref (u1 2), .ref (u1 3), .ref (u1 4), .ref (u1 6), .ref (u1 7), .int 0, .int 0, .int 0])), (u1 1, .inl (G.2 2, 16, .inr (.inr (.inr (.inr (fun _ => none)))))), (u1 2, .inl (G.2 3, 10, .inr (.inr (.inr (.inr g))))), (u1 3, .inl (G.2 0, 14, .inl f3)), (u1 4, .inr (2, [.ref (u1 5), .int 0, .int 0])), (u1 5, .inl (G.2 0, 4, .inl (fun _ => 0))), (u1 6, .inl (G.2 0, 12, .inl (fun _ => 0))), (u1 7, .inl (G.2 0, 12, .inl (fun _ => 0))), (u2 0, .inr (1, [.int 3, .int 0, .int (-1), .int 0, .int 0])), (u2 1, .inr (1, [.int 3, .int 0, .int (-1), .int 0, .int 0])), (u2 2, .inr (1, [.int 3, .int 0, .int (-1), .int 0, .int 0])), (u2 3, .inr (1, [.int 3, .int 0, .int (-1), .int 0, .int 0])), (u2 4, .inr (1, [.int 3, .int 0, .int (-1), .int 0, .int 0])), (u2 5, .inr (1, [.int 3, .int 0, .int (-1), .int 0, .int 0])), (u2 6, .inr (1, [.int 3, .int 0, .int (-1), .int 0, .int 0])), (u2 7, .inr (1, [.int 3, .int 0, .int (-1), .int 0, .int 0])), (u2 8, .inr (1, [.int 3, .int 0, .int (-1), .int 0, .int 0])), (u2 9, .inr (1, [.int 3, .int 0, .int (-1), .int 0, .int 0])), (q1, .inr (4, [.int 0, .ref (v1 15), .ref (v1 16), .ref (v1 17), .ref (v1 18), .ref (v1 19), .ref (v1 20), .int 0, .ref (v1 21), .ref (v1 22), .ref (v1 23), .ref (v1 24), .ref (v1 25), .ref (v1 26), .ref (v1 27), .ref (v1 28), .ref (v1 29), .int 0, .int 0, .int 0, .ref (v1 30), .ref (v1 31), .int 0])), (v1 15, .inl (G.2 0, 16, .inl (fun _ => 0))), (v1 16, .inl (G.2 0, 16, .inl (fun _ => 0))), (v1 17, .inl (G.2 0, 16, .inl (fun _ => 0))), (v1 18, .inl (G.2 1, 16, .inl (fun _ => 0))), (v1 19, .inl (G.2 1, 16, .inl (fun _ => 0))), (v1 20, .inl (G.2 0, 16, .inl (fun _ => 0))), (v1 21, .inl (G.2 0, 192, .inl (fun _ => 0))), (v1 22, .inl (G.2 0, 192, .inl (fun _ => 0))), (v1 23, .inl (G.2 0, 192, .inl (fun _ => 0))), (v1 24, .inl (G.2 0, 14, .inl f24)), (v1 25, .inl (G.2 0, 10, .inl f25)), (v1 26, .inl (G.2 0, 10, .inl f26)), (v1 27, .inl (G.2 0, 10, .inl (fun _ => 0))), (v1 28, .inl (G.2 0, 10, .inl (fun _ => 0))), (v1 29, .inl (G.2 1, 10, .inl (fun _ => 0))), (v1 30, .inl (G.2 0, 12, .inl (fun _ => 0))), (v1 31, .inl (G.2 0, 12, .inl (fun _ => 0))), (qo, .inl (G.2 4, 1, .inr (.inl (fun _ => 0))))]) (hg : ∀ i, i < 10 → g i = some (u2 i)) : kx_Wd G z0 (kx_ad0 q0 q1 qo u1 u2 v1) 0 (kx_sg0 f3 f24 f25 f26) H := by
  have hix : ∀ k n, kx_live 0 k n → ∃ e : va_E, ([(q0, .inr (3, [.ref (u1 1), .ref (u1 2), .ref (u1 3), .ref (u1 4), .ref (u1 6), .ref (u1 7), .int 0, .int 0, .int 0])), (u1 1, .inl (G.2 2, 16, .inr (.inr (.inr (.inr (fun _ => none)))))), (u1 2, .inl (G.2 3, 10, .inr (.inr (.inr (.inr g))))), (u1 3, .inl (G.2 0, 14, .inl f3)), (u1 4, .inr (2, [.ref (u1 5), .int 0, .int 0])), (u1 5, .inl (G.2 0, 4, .inl (fun _ => 0))), (u1 6, .inl (G.2 0, 12, .inl (fun _ => 0))), (u1 7, .inl (G.2 0, 12, .inl (fun _ => 0))), (u2 0, .inr (1, [.int 3, .int 0, .int (-1), .int 0, .int 0])), (u2 1, .inr (1, [.int 3, .int 0, .int (-1), .int 0, .int 0])), (u2 2, .inr (1, [.int 3, .int 0, .int (-1), .int 0, .int 0])), (u2 3, .inr (1, [.int 3, .int 0, .int (-1), .int 0, .int 0])), (u2 4, .inr (1, [.int 3, .int 0, .int (-1), .int 0, .int 0])), (u2 5, .inr (1, [.int 3, .int 0, .int (-1), .int 0, .int 0])), (u2 6, .inr (1, [.int 3, .int 0, .int (-1), .int 0, .int 0])), (u2 7, .inr (1, [.int 3, .int 0, .int (-1), .int 0, .int 0])), (u2 8, .inr (1, [.int 3, .int 0, .int (-1), .int 0, .int 0])), (u2 9, .inr (1, [.int 3, .int 0, .int (-1), .int 0, .int 0])), (q1, .inr (4, [.int 0, .ref (v1 15), .ref (v1 16), .ref (v1 17), .ref (v1 18), .ref (v1 19), .ref (v1 20), .int 0, .ref (v1 21), .ref (v1 22), .ref (v1 23), .ref (v1 24), .ref (v1 25), .ref (v1 26), .ref (v1 27), .ref (v1 28), .ref (v1 29), .int 0, .int 0, .int 0, .ref (v1 30), .ref (v1 31), .int 0])), (v1 15, .inl (G.2 0, 16, .inl (fun _ => 0))), (v1 16, .inl (G.2 0, 16, .inl (fun _ => 0))), (v1 17, .inl (G.2 0, 16, .inl (fun _ => 0))), (v1 18, .inl (G.2 1, 16, .inl (fun _ => 0))), (v1 19, .inl (G.2 1, 16, .inl (fun _ => 0))), (v1 20, .inl (G.2 0, 16, .inl (fun _ => 0))), (v1 21, .inl (G.2 0, 192, .inl (fun _ => 0))), (v1 22, .inl (G.2 0, 192, .inl (fun _ => 0))), (v1 23, .inl (G.2 0, 192, .inl (fun _ => 0))), (v1 24, .inl (G.2 0, 14, .inl f24)), (v1 25, .inl (G.2 0, 10, .inl f25)), (v1 26, .inl (G.2 0, 10, .inl f26)), (v1 27, .inl (G.2 0, 10, .inl (fun _ => 0))), (v1 28, .inl (G.2 0, 10, .inl (fun _ => 0))), (v1 29, .inl (G.2 1, 10, .inl (fun _ => 0))), (v1 30, .inl (G.2 0, 12, .inl (fun _ => 0))), (v1 31, .inl (G.2 0, 12, .inl (fun _ => 0))), (qo, .inl (G.2 4, 1, .inr (.inl (fun _ => 0))))] : va_W)[kx_ix k n]? = some (kx_ad0 q0 q1 qo u1 u2 v1 k n, e) := fun k n hq => match k, n, hq with
    | 0, n, hq => ⟨_, rfl⟩
    | 1, n, hq => ⟨_, rfl⟩
    | 2, n, hq => ⟨_, rfl⟩
    | 3, n, hq => ⟨_, rfl⟩
    | 4, n, hq => ⟨_, rfl⟩
    | 5, n, hq => ⟨_, rfl⟩
    | 6, n, hq => ⟨_, rfl⟩
    | 7, n, hq => ⟨_, rfl⟩
    | 8, n, hq => match n, hq with
      | 0, _ => ⟨_, rfl⟩
      | 1, _ => ⟨_, rfl⟩
      | 2, _ => ⟨_, rfl⟩
      | 3, _ => ⟨_, rfl⟩
      | 4, _ => ⟨_, rfl⟩
      | 5, _ => ⟨_, rfl⟩
      | 6, _ => ⟨_, rfl⟩
      | 7, _ => ⟨_, rfl⟩
      | 8, _ => ⟨_, rfl⟩
      | 9, _ => ⟨_, rfl⟩
      | n + 10, hq => absurd (show n + 10 < 10 from hq) (by omega)
    | 9, n, hq => absurd (show n < 0 from hq) (Nat.not_lt_zero n)
    | 10, n, hq => absurd (show n < 0 from hq) (Nat.not_lt_zero n)
    | 11, n, hq => absurd (show n < 0 from hq) (Nat.not_lt_zero n)
    | 12, n, hq => absurd (show n < 0 from hq) (Nat.not_lt_zero n)
    | 13, n, hq => absurd (show n < 0 from hq) (Nat.not_lt_zero n)
    | 14, n, hq => ⟨_, rfl⟩
    | 15, n, hq => ⟨_, rfl⟩
    | 16, n, hq => ⟨_, rfl⟩
    | 17, n, hq => ⟨_, rfl⟩
    | 18, n, hq => ⟨_, rfl⟩
    | 19, n, hq => ⟨_, rfl⟩
    | 20, n, hq => ⟨_, rfl⟩
    | 21, n, hq => ⟨_, rfl⟩
    | 22, n, hq => ⟨_, rfl⟩
    | 23, n, hq => ⟨_, rfl⟩
    | 24, n, hq => ⟨_, rfl⟩
    | 25, n, hq => ⟨_, rfl⟩
    | 26, n, hq => ⟨_, rfl⟩
    | 27, n, hq => ⟨_, rfl⟩
    | 28, n, hq => ⟨_, rfl⟩
    | 29, n, hq => ⟨_, rfl⟩
    | 30, n, hq => ⟨_, rfl⟩
    | 31, n, hq => ⟨_, rfl⟩
    | 32, n, hq => ⟨_, rfl⟩
    | k + 33, n, hq => absurd (kx_live_33 hq) (by omega)
  refine ⟨fun k n hq => ?_, fun k n k' n' hq hq' he => ?_, fun k n hq => ?_⟩
  · exact match k, n, hq with
    | 0, n, hq => hP 0 _ rfl
    | 1, n, hq => by
      have h9 : H[u1 1]? = some (vp_cell (G.2 2) (16, .inr (.inr (.inr (.inr (fun _ => none)))))) := hP 1 _ rfl
      show H[u1 1]? = some (vp_cell (G.2 2) (16, .inr (.inr (.inr (.inr (fun i => if i < 0 then some qo else none))))))
      rw [h9, vp_cell_q, vp_cell_q]
      exact congrArg some (kx_arrV (fun j _ => by rw [if_neg (Nat.not_lt_zero j)]))
    | 2, n, hq => by
      have h9 : H[u1 2]? = some (vp_cell (G.2 3) (10, .inr (.inr (.inr (.inr g))))) := hP 2 _ rfl
      show H[u1 2]? = some (vp_cell (G.2 3) (10, .inr (.inr (.inr (.inr (fun i => some (u2 i)))))))
      rw [h9, vp_cell_q, vp_cell_q]
      exact congrArg some (kx_arrV (fun j hj => by rw [hg j hj]))
    | 3, n, hq => hP 3 _ rfl
    | 4, n, hq => hP 4 _ rfl
    | 5, n, hq => hP 5 _ rfl
    | 6, n, hq => hP 6 _ rfl
    | 7, n, hq => hP 7 _ rfl
    | 8, n, hq => match n, hq with
      | 0, _ => hP 8 _ rfl
      | 1, _ => hP 9 _ rfl
      | 2, _ => hP 10 _ rfl
      | 3, _ => hP 11 _ rfl
      | 4, _ => hP 12 _ rfl
      | 5, _ => hP 13 _ rfl
      | 6, _ => hP 14 _ rfl
      | 7, _ => hP 15 _ rfl
      | 8, _ => hP 16 _ rfl
      | 9, _ => hP 17 _ rfl
      | n + 10, hq => absurd (show n + 10 < 10 from hq) (by omega)
    | 9, n, hq => absurd (show n < 0 from hq) (Nat.not_lt_zero n)
    | 10, n, hq => absurd (show n < 0 from hq) (Nat.not_lt_zero n)
    | 11, n, hq => absurd (show n < 0 from hq) (Nat.not_lt_zero n)
    | 12, n, hq => absurd (show n < 0 from hq) (Nat.not_lt_zero n)
    | 13, n, hq => absurd (show n < 0 from hq) (Nat.not_lt_zero n)
    | 14, n, hq => hP 18 _ rfl
    | 15, n, hq => hP 19 _ rfl
    | 16, n, hq => hP 20 _ rfl
    | 17, n, hq => hP 21 _ rfl
    | 18, n, hq => hP 22 _ rfl
    | 19, n, hq => hP 23 _ rfl
    | 20, n, hq => hP 24 _ rfl
    | 21, n, hq => hP 25 _ rfl
    | 22, n, hq => hP 26 _ rfl
    | 23, n, hq => hP 27 _ rfl
    | 24, n, hq => hP 28 _ rfl
    | 25, n, hq => hP 29 _ rfl
    | 26, n, hq => hP 30 _ rfl
    | 27, n, hq => hP 31 _ rfl
    | 28, n, hq => hP 32 _ rfl
    | 29, n, hq => hP 33 _ rfl
    | 30, n, hq => hP 34 _ rfl
    | 31, n, hq => hP 35 _ rfl
    | 32, n, hq => by
      have h9 : H[qo]? = some (vp_cell (G.2 4) (1, .inr (.inl (fun _ => 0)))) := hP 36 _ rfl
      show H[qo]? = some (vp_cell (G.2 4) (1, .inr (.inl (fun j => ((fun _ => 0 : Nat → Int32) j).toInt64))))
      rw [h9, vp_cell_l, vp_cell_l]
      exact congrArg some (kx_arrV (fun j _ => congrArg Value.long (show (0 : Int64) = (0 : Int32).toInt64 by decide)))
    | k + 33, n, hq => absurd (kx_live_33 hq) (by omega)
  · obtain ⟨e1, h1⟩ := hix k n hq
    obtain ⟨e2, h2⟩ := hix k' n' hq'
    exact kx_ix_inj hq hq' (hD.1 _ _ _ _ h1 h2 he)
  · obtain ⟨e1, h1⟩ := hix k n hq
    exact hD.2 _ _ h1

theorem kx_rel0 {f3 f24 f25 f26 : Nat → Int32} (h3 : ∀ i, i < 14 → f3 i = 5) (h24 : ∀ i, i < 14 → f24 i = 5) (h25 : ∀ i, i < 10 → f25 i = 3) (h26 : ∀ i, i < 10 → f26 i = -1) : rl_PT 0 (kx_sg0 f3 f24 f25 f26) (kx_sg0 f3 f24 f25 f26) := by
  refine ⟨⟨by decide, nI_0.symm, nI_0.symm, rfl, (show (0 : Int) ≤ (0 : Int32).toInt by decide), (show (0 : Int32).toInt ≤ 100000 by decide), rfl, fun w hw => ?_, fun d hd => ?_, fun i hi => absurd hi (Nat.not_lt_zero i), fun i _ _ => ⟨rfl, rfl, rfl⟩⟩, ⟨fun i hi => absurd hi (Nat.not_lt_zero i), rfl, rfl, fun c hc => rfl⟩, fun j hj => absurd hj (Nat.not_lt_zero j)⟩
  · show f3 w = f24 w ∧ 1 ≤ (f24 w).toInt ∧ (f24 w).toInt ≤ 9
    rw [h3 w hw, h24 w hw]
    decide
  · exact ⟨(h25 d hd).symm, rfl, Or.inl rfl, (h26 d hd).symm, Or.inl (h26 d hd), rfl, rfl, fun _ => (show 0 ≤ (0 : Int32).toInt ∧ (0 : Int32).toInt ≤ 2 by decide)⟩

