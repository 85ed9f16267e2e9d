def tw_un (x : Int32) : Nat := x.toNatClampNeg
theorem rl_un (k : Nat) : k < 100 → tw_un (nI k) = k := fun h => nI_clamp (by omega)
theorem ro_R_box {m nb : Nat} {s t s1 t1 : kx_S} {i : Nat} (h : ro_R m nb s t) (fs : ∀ q j, ¬ (9 ≤ q ∧ q ≤ 13 ∧ j = i) → s1 q j = s q j) (ft : ∀ q j, ¬ (9 ≤ q ∧ q ≤ 13 ∧ j = i) → t1 q j = t q j) (hb : ro_B m s1 t1 i) : ro_R m nb s1 t1 := by
  obtain ⟨h16, h6, h0, hT, hL, hF, hD, hB⟩ := h
  refine ⟨h16, by rw [fs 0 0 (by omega)]; exact h6, fun j h1 h2 => by rw [fs 0 0 (by omega), ft 0 0 (by omega)]; exact h0 j h1 h2, by rw [fs 3 0 (by omega), ft 3 0 (by omega)]; exact hT, by rw [fs 4 0 (by omega), ft 4 0 (by omega)]; exact hL, by rw [fs 5 0 (by omega), ft 5 0 (by omega)]; exact hF, fun d hd => by rw [fs 8 d (by omega), ft 8 d (by omega)]; exact hD d hd, fun j hj => ?_⟩
  by_cases e : j = i
  · rw [e]; exact hb
  · have h9 := hB j hj
    unfold ro_B ro_K at h9 ⊢
    rw [fs 9 j (by omega), ft 9 j (by omega), fs 10 j (by omega), ft 10 j (by omega), fs 11 j (by omega), ft 11 j (by omega), fs 12 j (by omega), ft 12 j (by omega), fs 13 j (by omega), ft 13 j (by omega)]
    exact h9
theorem ro_R_door {m nb : Nat} {s t : kx_S} {d : Nat} {x y : Nat → Int32} (h : ro_R m nb s t) (hd : ro_D nb x y) : ro_R m nb (kx_up s 8 d x) (kx_up t 8 d y) := by
  obtain ⟨h16, h6, h0, hT, hL, hF, hD, hB⟩ := h
  refine ⟨h16, h6, h0, hT, hL, hF, fun d2 hd2 => ?_, hB⟩
  by_cases e : d2 = d
  · rw [e, kx_up_s, kx_up_s]; exact hd
  · rw [kx_up_n e, kx_up_n e]; exact hD d2 hd2
theorem ro_R_0 {m nb : Nat} {s t : kx_S} {k : Nat} {x : Int32} (h : ro_R m nb s t) (hk : 7 ≤ k) : ro_R m nb (kx_up s 0 0 (upd (s 0 0) k x)) (kx_up t 0 0 (upd (t 0 0) k x)) := by
  obtain ⟨h16, h6, h0, hT, hL, hF, hD, hB⟩ := h
  refine ⟨h16, by rw [kx_up_s, upd_n (by omega)]; exact h6, fun j h1 h2 => ?_, hT, hL, hF, hD, hB⟩
  rw [kx_up_s, kx_up_s]
  by_cases e : j = k
  · rw [e, upd_s, upd_s]
  · rw [upd_n e, upd_n e]; exact h0 j h1 h2
theorem ro_R_trust {m nb : Nat} {s t : kx_S} {c : Nat} {y : Int32} (h : ro_R m nb s t) (hy : tw_in y 1 9 = true) : ro_R m nb (kx_up s 3 0 (upd (s 3 0) c y)) (kx_up t 3 0 (upd (t 3 0) (ro_s m c) y)) := by
  obtain ⟨h16, h6, h0, hT, hL, hF, hD, hB⟩ := h
  refine ⟨h16, h6, h0, fun w hw => ?_, hL, hF, hD, hB⟩
  rw [kx_up_s, kx_up_s]
  by_cases e : w = c
  · rw [e, upd_s, upd_s]
    exact ⟨rfl, (tw_in_iff y 1 9).mp hy⟩
  · rw [upd_n e, upd_n (fun z => e (ro_s_inj z))]
    exact hT w hw
theorem ro_AS {m nb : Nat} {s t s' t' : kx_S} {i : Nat} (h : ro_R m nb s t) (hi : i < nb) (hn : tw_n s i < 12) {q q' : Int32} {mj mj' : Nat} (hq : q' = ro_p m q) (hj' : mj' = ro_s m mj) (hmj : mj ≤ 14) (h1 : tw_AS s i (tw_n s i) q mj s') (h2 : tw_AS t i (tw_n t i) q' mj' t') : ro_R m nb s' t' := by
  obtain ⟨et, e6, h12, hK⟩ := ro_tn h hi
  rw [et] at h2
  subst hq hj'
  generalize tw_n s i = n at h1 h2 e6 h12 hK hn
  obtain ⟨a, s1, ⟨a12, aj⟩, es, hS⟩ := h1
  obtain ⟨b, t1, ⟨b12, bj⟩, et1, hT1⟩ := h2
  have b9 := (h.2.2.2.2.2.2.2 i hi).1
  have e07 : t 0 0 7 = s 0 0 7 := h.2.2.1 7 (by decide) (by decide)
  have f9 : s1 9 i = upd (s 9 i) 6 (nI (n + 1)) := by rw [es]; simp [kx_up]
  have f10 : s1 10 i = upd (s 10 i) n (s 0 0 7) := by rw [es]; simp [kx_up]
  have f11 : s1 11 i = upd (s 11 i) n q := by rw [es]; simp [kx_up]
  have f12 : s1 12 i = upd (s 12 i) n (nI mj) := by rw [es]; simp [kx_up]
  have f13 : s1 13 i = upd (s 13 i) n a := by rw [es]; simp [kx_up]
  have fo : ∀ q' j, ¬ (9 ≤ q' ∧ q' ≤ 13 ∧ j = i) → s1 q' j = s q' j := by
    intro q' j hne
    rw [es]
    simp only [kx_up]
    rw [if_neg (fun z => hne ⟨by omega, by omega, z.2⟩), if_neg (fun z => hne ⟨by omega, by omega, z.2⟩), if_neg (fun z => hne ⟨by omega, by omega, z.2⟩), if_neg (fun z => hne ⟨by omega, by omega, z.2⟩), if_neg (fun z => hne ⟨by omega, by omega, z.2⟩)]
  have g9 : t1 9 i = upd (t 9 i) 6 (nI (n + 1)) := by rw [et1]; simp [kx_up]
  have g10 : t1 10 i = upd (t 10 i) n (t 0 0 7) := by rw [et1]; simp [kx_up]
  have g11 : t1 11 i = upd (t 11 i) n (ro_p m q) := by rw [et1]; simp [kx_up]
  have g12 : t1 12 i = upd (t 12 i) n (nI (ro_s m mj)) := by rw [et1]; simp [kx_up]
  have g13 : t1 13 i = upd (t 13 i) n b := by rw [et1]; simp [kx_up]
  have go : ∀ q' j, ¬ (9 ≤ q' ∧ q' ≤ 13 ∧ j = i) → t1 q' j = t q' j := by
    intro q' j hne
    rw [et1]
    simp only [kx_up]
    rw [if_neg (fun z => hne ⟨by omega, by omega, z.2⟩), if_neg (fun z => hne ⟨by omega, by omega, z.2⟩), if_neg (fun z => hne ⟨by omega, by omega, z.2⟩), if_neg (fun z => hne ⟨by omega, by omega, z.2⟩), if_neg (fun z => hne ⟨by omega, by omega, z.2⟩)]
  have R1 : ro_R m nb s1 t1 := by
    refine ro_R_box h fo go ⟨?_, n + 1, by rw [f9, upd_s], by omega, fun k hk => ?_⟩
    · rw [f9, g9]
      obtain ⟨y0, y1, y6, y7, y8, y9, yc, c8, c9⟩ := b9
      exact ⟨by simp [upd, y0], by simp [upd, y1], by simp [upd], by simp [upd, y7], by simp [upd, y8], by simp [upd, y9], by simp [upd]; exact yc, by simp [upd]; exact c8, by simp [upd]; exact c9⟩
    · unfold ro_K
      rw [f10, f11, f12, f13, g10, g11, g12, g13]
      by_cases e : k = n
      · subst e
        simp only [upd_s]
        refine ⟨e07, trivial, ⟨mj, hmj, rfl, rfl⟩, ?_, fun j hj => ?_⟩
        · have z1 : tw_tru a 12 = _ := a12
          have z2 : tw_tru b 12 = _ := b12
          rw [z1, z2, ro_cmn0, e07]
        · obtain ⟨k10, k11, -⟩ := hK j hj
          rw [aj j hj, bj j hj, k10, k11, ro_cmn, e07]
      · have hk2 : k < n := by omega
        obtain ⟨k10, k11, k12, k13, kj⟩ := hK k hk2
        rw [upd_n e, upd_n e, upd_n e, upd_n e, upd_n e, upd_n e, upd_n e, upd_n e]
        exact ⟨k10, k11, k12, k13, kj⟩
  exact ro_SR (n := n + 1) R1 hi (by rw [f9, upd_s]) (by omega) hS hT1
theorem ro_AS12 {m nb : Nat} {s t s' t' : kx_S} {i : Nat} (h : ro_R m nb s t) (hi : i < nb) (hn : tw_n s i = 12) (h1 : tw_SR s s' i (tw_stl s i 12)) (h2 : tw_SR t t' i (tw_stl t i 12)) : ro_R m nb s' t' := by
  obtain ⟨et, e6, h12, hK⟩ := ro_tn h hi
  exact ro_SR (n := 12) h hi (by rw [e6, hn]) (by decide) h1 h2
theorem ro_after {m nb : Nat} {s t : kx_S} (h : ro_R m nb s t) {k : Nat} (hk : k < nb) (x : Int32) : tw_after (t 10 k) (tw_n t k) x = tw_after (s 10 k) (tw_n s k) x := by
  obtain ⟨et, e6, h12, hK⟩ := ro_tn h hk
  rw [et]
  unfold tw_after
  refine decide_eq_decide.mpr ?_
  constructor
  · rintro ⟨a, b⟩
    exact ⟨a, by rw [(hK _ (by omega)).1] at b; exact b⟩
  · rintro ⟨a, b⟩
    exact ⟨a, by rw [(hK _ (by omega)).1]; exact b⟩
theorem ro_lastK {m nb : Nat} {s t : kx_S} (h : ro_R m nb s t) {k : Nat} (hk : k < nb) : tw_last (t 9 k 7) (t 11 k) (tw_n t k) = ro_p m (tw_last (s 9 k 7) (s 11 k) (tw_n s k)) := by
  obtain ⟨et, e6, h12, hK⟩ := ro_tn h hk
  rw [et, (h.2.2.2.2.2.2.2 k hk).1.2.2.2.1]
  exact ro_last _ (fun j hj => (hK j hj).2.1)
theorem ro_sinceK {m nb : Nat} {s t : kx_S} (h : ro_R m nb s t) {k : Nat} (hk : k < nb) (w z : Int32) : tw_since (t 9 k 7) (t 11 k) (t 10 k) (ro_p m w) (tw_n t k) z = tw_since (s 9 k 7) (s 11 k) (s 10 k) w (tw_n s k) z := by
  obtain ⟨et, e6, h12, hK⟩ := ro_tn h hk
  rw [et, (h.2.2.2.2.2.2.2 k hk).1.2.2.2.1]
  exact ro_since _ _ (fun j hj => ⟨(hK j hj).2.1, (hK j hj).1⟩)
theorem ro_fineK {m nb : Nat} {s t : kx_S} (h : ro_R m nb s t) {k : Nat} (hk : k < nb) : tw_fineOf (t 0 0 7) (tw_last (t 9 k 7) (t 11 k) (tw_n t k)) (tw_since (t 9 k 7) (t 11 k) (t 10 k) (tw_last (t 9 k 7) (t 11 k) (tw_n t k)) (tw_n t k) 0) = tw_fineOf (s 0 0 7) (tw_last (s 9 k 7) (s 11 k) (tw_n s k)) (tw_since (s 9 k 7) (s 11 k) (s 10 k) (tw_last (s 9 k 7) (s 11 k) (tw_n s k)) (tw_n s k) 0) := by
  rw [ro_lastK h hk, ro_sinceK h hk, h.2.2.1 7 (by decide) (by decide)]
  unfold tw_fineOf
  rw [ro_kind]
theorem ro_stK {m nb : Nat} {s t : kx_S} (h : ro_R m nb s t) {k : Nat} (hk : k < nb) : tw_st t k (tw_n t k) = tw_st s k (tw_n s k) := by
  obtain ⟨et, e6, h12, hK⟩ := ro_tn h hk
  rw [et]
  exact ro_st h.2.2.2.1 (fun d hd => (h.2.2.2.2.2.2.1 d hd).1 1 (by decide)) hK
theorem ro_liesA {m nb : Nat} {s t : kx_S} (h : ro_R m nb s t) {c : Nat} (hc : c ≤ 14) : ∀ n, n ≤ nb → tw_liesA t (nI (ro_s m c)) n = tw_liesA s (nI c) n := by
  intro n
  induction n with
  | zero => intro _; rfl
  | succ n ih =>
    intro hn
    obtain ⟨et, e6, h12, hK⟩ := ro_tn h (i := n) (by omega)
    rw [tw_liesA, tw_liesA, ih (by omega), et, (h.2.2.2.2.2.2.2 n (by omega)).1.2.2.2.1, ro_lies hc _ (fun j hj => (hK j hj).2.2.1)]
/-- what is alike, in short rows -/
theorem ro_ctx {m nb : Nat} {s t : kx_S} (h : ro_R m nb s t) : nb ≤ 16 ∧ (∀ k, k < nb → tw_n t k = tw_n s k ∧ tw_n s k ≤ 12 ∧ t 9 k 0 = s 9 k 0 ∧ t 9 k 1 = s 9 k 1 ∧ t 9 k 6 = s 9 k 6 ∧ t 9 k 7 = s 9 k 7 ∧ t 9 k 8 = s 9 k 8 ∧ t 9 k 9 = s 9 k 9) ∧ (∀ d, d < 10 → t 8 d 0 = s 8 d 0 ∧ t 8 d 1 = s 8 d 1 ∧ t 8 d 2 = s 8 d 2 ∧ t 8 d 3 = s 8 d 3 ∧ t 8 d 4 = s 8 d 4) ∧ t 0 0 6 = s 0 0 6 ∧ t 0 0 7 = s 0 0 7 ∧ t 0 0 8 = s 0 0 8 ∧ t 4 0 1 = s 4 0 1 ∧ t 4 0 2 = s 4 0 2 := by
  refine ⟨h.1, fun k hk => ?_, fun d hd => ?_, h.2.2.1 6 (by decide) (by decide), h.2.2.1 7 (by decide) (by decide), h.2.2.1 8 (by decide) (by decide), h.2.2.2.2.1.1, h.2.2.2.2.1.2⟩
  · obtain ⟨et, e6, h12, -⟩ := ro_tn h hk
    obtain ⟨b0, b1, b6, b7, b8, b9, -⟩ := (h.2.2.2.2.2.2.2 k hk).1
    exact ⟨et, h12, b0, b1, b6, b7, b8, b9⟩
  · have e := (h.2.2.2.2.2.2.1 d hd).1
    exact ⟨e 0 (by decide), e 1 (by decide), e 2 (by decide), e 3 (by decide), e 4 (by decide)⟩
/-- a call told and answered: answered, or refused and nothing changed -/
def ho (cq : Option Value → kx_S → Prop) (cx : String → Prop) (s : kx_S) (a : Int32) (s' : kx_S) : Prop := cq (some (.int a)) s' ∨ (a = -100005 ∧ s' = s ∧ ∃ E, cx E)
theorem ho_pair {m nb : Nat} {s t s' t' : kx_S} {a b : Int32} {cq cq' : Option Value → kx_S → Prop} {cx cx' : String → Prop} {P : Int32 → Int32 → Prop} (h : ro_R m nb s t) (hp : P (-100005) (-100005)) (h1 : ho cq cx s a s') (h2 : ho cq' cx' t b t') (hqq : cq (some (.int a)) s' → cq' (some (.int b)) t' → P a b ∧ ro_R m nb s' t') (hqx : ∀ E, cq (some (.int a)) s' → cx' E → False) (hxq : ∀ E, cx E → cq' (some (.int b)) t' → False) : P a b ∧ ro_R m nb s' t' := by
  rcases h1 with h1 | ⟨rfl, rfl, E, h1⟩
  · rcases h2 with h2 | ⟨rfl, rfl, E, h2⟩
    · exact hqq h1 h2
    · exact (hqx E h1 h2).elim
  · rcases h2 with h2 | ⟨rfl, rfl, E2, h2⟩
    · exact (hxq E h1 h2).elim
    · exact ⟨hp, h⟩
