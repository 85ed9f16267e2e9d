/-! a turn of the law, without the machine -/
def lo_C (s s1 : kx_S) : Prop := ∀ q m, 14 ≤ q → s1 q m = s q m
def lo_T (t t2 : kx_S) : Prop := ∀ q m, (q ≤ 13 ∨ q = 32) → t2 q m = t q m
theorem lo_C_r {s : kx_S} : lo_C s s := fun _ _ _ => rfl
theorem lo_C_up {s s1 : kx_S} {k n : Nat} {f : Nat → Int32} (h : lo_C s s1) (hk : k < 14) : lo_C s (kx_up s1 k n f) := fun q m hq => by rw [kx_up_q (by omega)]; exact h q m hq
theorem lo_C_tr {a b c : kx_S} (h : lo_C a b) (h2 : lo_C b c) : lo_C a c := fun q m hq => (h2 q m hq).trans (h q m hq)
theorem tw_SA_C : ∀ {k : Nat} {s s' : kx_S}, tw_SA k s s' → lo_C s s' := by
  intro k
  induction k with
  | zero => intro s s' h; rw [show s' = s from h]; exact lo_C_r
  | succ k ih =>
    intro s s' h
    obtain ⟨s1, h1, n, -, -, h2⟩ := h
    exact lo_C_tr (ih h1) (fun q m hq => h2.1 q m (by omega) (by omega) (by omega) (by omega) (by omega))
theorem tw_AS_C {s s' : kx_S} {i n mj : Nat} {p : Int32} (h : tw_AS s i n p mj s') : lo_C s s' := by
  obtain ⟨a, s1, -, e, h2⟩ := h
  have h1 : lo_C s s1 := by rw [e]; exact lo_C_up (lo_C_up (lo_C_up (lo_C_up (lo_C_up lo_C_r (by decide)) (by decide)) (by decide)) (by decide)) (by decide)
  exact lo_C_tr h1 (fun q m hq => h2.1 q m (by omega) (by omega) (by omega) (by omega) (by omega))
theorem lo_T_r {s : kx_S} : lo_T s s := fun _ _ _ => rfl
theorem lo_T_up {s s1 : kx_S} {k n : Nat} {f : Nat → Int32} (h : lo_T s s1) (hk : 13 < k ∧ k < 32) : lo_T s (kx_up s1 k n f) := fun q m hq => by rw [kx_up_q (by omega)]; exact h q m hq
theorem lo_T_tr {a b c : kx_S} (h : lo_T a b) (h2 : lo_T b c) : lo_T a c := fun q m hq => (h2 q m hq).trans (h q m hq)
theorem tm_Q_T {t t2 : kx_S} {v : Int32} (h : tm_Q t t2 v) : lo_T t t2 := fun q m hq => h.1 q m (by omega) (by omega) (by omega)
theorem tm_SA_T {k : Nat} {t t2 : kx_S} (h : tm_SA k t t2) : lo_T t t2 := fun q m hq => tm_SA_fr h q m (by omega) (by omega) (by omega) (by omega) (by omega) (by omega)
theorem tm_add_T {s t : kx_S} {i n : Nat} {q w : Int32} (h : lo_T s t) : lo_T s (tm_add t i n q w) := by
  unfold tm_add
  exact lo_T_up (lo_T_up (lo_T_up (lo_T_up h (by decide)) (by decide)) (by decide)) (by decide)
theorem lo_same {s sgc : kx_S} {f : Nat → Int32} (h : lo_C s sgc) : tm_same s (kx_up sgc 32 0 f) := ⟨fun q h1 h2 => by rw [kx_up_q (by omega)]; exact h q 0 (by omega), fun j _ => by rw [kx_up_q (by decide), h 14 0 (by decide)]⟩
theorem lo_ts {sgc t2 : kx_S} {f : Nat → Int32} (h : lo_T (kx_up sgc 32 0 f) t2) : ts_same sgc t2 := fun q m h1 _ _ _ _ => by rw [h q m (Or.inl h1), kx_up_q (by omega)]
theorem lo_tsr {s t2 : kx_S} (h : lo_T s t2) : ts_same s t2 := fun q m h1 _ _ _ _ => h q m (Or.inl h1)
/-- both sides' answers, and what stands behind the turn -/
theorem lo_gen {nb nb2 : Nat} {s s9 t2 : kx_S} {r9 r10 : Option Value} {C : Int32 → kx_S → Prop} {X : Int32 → Prop} {M : Int32 → kx_S → Prop} (hs : rl_PT nb s s) (hq : (∃ (a : Int32) (sgc : kx_S), r9 = some (.int 0) ∧ C a sgc ∧ s9 = kx_up sgc 32 0 (upd (sgc 32 0) 0 a) ∧ nb2 = nb) ∨ (∃ k : Int32, r9 = some (.int k) ∧ s9 = s ∧ X k ∧ nb2 = nb)) (hm : ∃ b : Int32, r10 = some (.int b) ∧ M b t2) (hT : ∀ b, M b t2 → lo_T s9 t2) (hN : ∀ a b sgc, C a sgc → M b t2 → rl_PT nb s s9 → a = b ∧ t2 14 0 22 = 0 ∧ rl_PT nb2 sgc t2) (hC : ∀ a sgc, C a sgc → lo_C s sgc) (hX : ∀ k b, X k → M b t2 → rl_PT nb s s9 → ¬ k = 0 ∧ tm_Q s9 t2 k) : ∃ k b : Int32, r9 = some (.int k) ∧ r10 = some (.int b) ∧ t2 14 0 22 = k ∧ (k = 0 → t2 32 0 0 = b) ∧ rl_PT nb2 t2 t2 := by
  obtain ⟨b, hb, hM⟩ := hm
  have hT := hT b hM
  rcases hq with ⟨a, sgc, h1, h2, h3, h4⟩ | ⟨k, h1, h2, h3, h4⟩
  · have hs9 : rl_PT nb s s9 := by rw [h3]; exact rl_same ts_same_r (lo_same (hC a sgc h2)) hs
    obtain ⟨e1, e2, e3⟩ := hN a b sgc h2 hM hs9
    refine ⟨0, b, h1, hb, e2, fun _ => ?_, rl_same (lo_ts (by rw [← h3]; exact hT)) tm_same_r e3⟩
    rw [hT 32 0 (Or.inr rfl), h3, kx_up_s, upd_s, e1]
  · subst h2
    obtain ⟨e1, e2⟩ := hX k b h3 hM hs
    refine ⟨k, b, h1, hb, e2.2.2, fun z => absurd z e1, ?_⟩
    rw [h4]
    exact rl_same (lo_tsr hT) (tm_Q_same e2) hs

theorem lc_setTrust {nb : Nat} {s s1 : kx_S} {x y : Int32} {r : Option Value} (h : cq_setTrust nb s x y r s1) : lo_C s s1 := by
  unfold cq_setTrust at h
  obtain ⟨c, -, -, -, -, h⟩ := h
  exact lo_C_tr (lo_C_up lo_C_r (by decide)) (tw_SA_C h)

theorem lt_setTrust {nb : Nat} {t t2 : kx_S} {x y : Int32} {r : Option Value} (h : mq_setTrust nb t x y r t2) : lo_T t t2 := by
  unfold mq_setTrust at h
  rcases h with ⟨-, -, h⟩ | ⟨-, -, -, h⟩ | ⟨c, -, -, -, -, h⟩
  · first | exact tm_Q_T h | exact (fun q m hq => h q m (by omega) (by omega) (by omega) (by omega)) | (refine lo_T_tr ?_ (tm_SA_T h); (repeat (first | exact lo_T_r | refine tm_add_T ?_ | refine lo_T_up ?_ (by decide)))) | (rw [h]; (repeat (first | exact lo_T_r | refine tm_add_T ?_ | refine lo_T_up ?_ (by decide))))
  · first | exact tm_Q_T h | exact (fun q m hq => h q m (by omega) (by omega) (by omega) (by omega)) | (refine lo_T_tr ?_ (tm_SA_T h); (repeat (first | exact lo_T_r | refine tm_add_T ?_ | refine lo_T_up ?_ (by decide)))) | (rw [h]; (repeat (first | exact lo_T_r | refine tm_add_T ?_ | refine lo_T_up ?_ (by decide))))
  · first | exact tm_Q_T h | exact (fun q m hq => h q m (by omega) (by omega) (by omega) (by omega)) | (refine lo_T_tr ?_ (tm_SA_T h); (repeat (first | exact lo_T_r | refine tm_add_T ?_ | refine lo_T_up ?_ (by decide)))) | (rw [h]; (repeat (first | exact lo_T_r | refine tm_add_T ?_ | refine lo_T_up ?_ (by decide))))

theorem lm_setTrust {nb : Nat} {t t2 : kx_S} {x y : Int32} {r : Option Value} (h : mq_setTrust nb t x y r t2) : ∃ b : Int32, r = some (.int b) := by
  unfold mq_setTrust at h
  grind

theorem lc_pass {nb : Nat} {s s1 : kx_S} {x : Int32} {r : Option Value} (h : cq_pass nb s x r s1) : lo_C s s1 := by
  unfold cq_pass at h
  obtain ⟨-, -, -, rfl⟩ := h
  exact lo_C_up lo_C_r (by decide)

theorem lt_pass {nb : Nat} {t t2 : kx_S} {x : Int32} {r : Option Value} (h : mq_pass nb t x r t2) : lo_T t t2 := by
  unfold mq_pass at h
  rcases h with ⟨-, -, h⟩ | ⟨-, -, -, h⟩ | ⟨-, -, -, h⟩
  · first | exact tm_Q_T h | exact (fun q m hq => h q m (by omega) (by omega) (by omega) (by omega)) | (refine lo_T_tr ?_ (tm_SA_T h); (repeat (first | exact lo_T_r | refine tm_add_T ?_ | refine lo_T_up ?_ (by decide)))) | (rw [h]; (repeat (first | exact lo_T_r | refine tm_add_T ?_ | refine lo_T_up ?_ (by decide))))
  · first | exact tm_Q_T h | exact (fun q m hq => h q m (by omega) (by omega) (by omega) (by omega)) | (refine lo_T_tr ?_ (tm_SA_T h); (repeat (first | exact lo_T_r | refine tm_add_T ?_ | refine lo_T_up ?_ (by decide)))) | (rw [h]; (repeat (first | exact lo_T_r | refine tm_add_T ?_ | refine lo_T_up ?_ (by decide))))
  · first | exact tm_Q_T h | exact (fun q m hq => h q m (by omega) (by omega) (by omega) (by omega)) | (refine lo_T_tr ?_ (tm_SA_T h); (repeat (first | exact lo_T_r | refine tm_add_T ?_ | refine lo_T_up ?_ (by decide)))) | (rw [h]; (repeat (first | exact lo_T_r | refine tm_add_T ?_ | refine lo_T_up ?_ (by decide))))

theorem lm_pass {nb : Nat} {t t2 : kx_S} {x : Int32} {r : Option Value} (h : mq_pass nb t x r t2) : ∃ b : Int32, r = some (.int b) := by
  unfold mq_pass at h
  grind

theorem lc_scan {nb : Nat} {s s1 : kx_S} {x y z : Int32} {r : Option Value} (h : cq_scan nb s x y z r s1) : lo_C s s1 := by
  unfold cq_scan at h
  obtain ⟨k, c, -, -, -, -, -, -, -, h⟩ := h
  exact tw_AS_C h

theorem lt_scan {nb : Nat} {t t2 : kx_S} {x y z : Int32} {r : Option Value} (h : mq_scan nb t x y z r t2) : lo_T t t2 := by
  unfold mq_scan at h
  rcases h with ⟨-, -, h⟩ | ⟨-, -, -, -, h⟩ | ⟨k, c, -, -, -, -, -, -, -, h⟩ | ⟨k, c, -, -, -, -, -, -, -, h⟩
  · first | exact tm_Q_T h | exact (fun q m hq => h q m (by omega) (by omega) (by omega) (by omega)) | (refine lo_T_tr ?_ (tm_SA_T h); (repeat (first | exact lo_T_r | refine tm_add_T ?_ | refine lo_T_up ?_ (by decide)))) | (rw [h]; (repeat (first | exact lo_T_r | refine tm_add_T ?_ | refine lo_T_up ?_ (by decide))))
  · first | exact tm_Q_T h | exact (fun q m hq => h q m (by omega) (by omega) (by omega) (by omega)) | (refine lo_T_tr ?_ (tm_SA_T h); (repeat (first | exact lo_T_r | refine tm_add_T ?_ | refine lo_T_up ?_ (by decide)))) | (rw [h]; (repeat (first | exact lo_T_r | refine tm_add_T ?_ | refine lo_T_up ?_ (by decide))))
  · first | exact tm_Q_T h | exact (fun q m hq => h q m (by omega) (by omega) (by omega) (by omega)) | (refine lo_T_tr ?_ (tm_SA_T h); (repeat (first | exact lo_T_r | refine tm_add_T ?_ | refine lo_T_up ?_ (by decide)))) | (rw [h]; (repeat (first | exact lo_T_r | refine tm_add_T ?_ | refine lo_T_up ?_ (by decide))))
  · first | exact tm_Q_T h | exact (fun q m hq => h q m (by omega) (by omega) (by omega) (by omega)) | (refine lo_T_tr ?_ (tm_SA_T h); (repeat (first | exact lo_T_r | refine tm_add_T ?_ | refine lo_T_up ?_ (by decide)))) | (rw [h]; (repeat (first | exact lo_T_r | refine tm_add_T ?_ | refine lo_T_up ?_ (by decide))))

theorem lm_scan {nb : Nat} {t t2 : kx_S} {x y z : Int32} {r : Option Value} (h : mq_scan nb t x y z r t2) : ∃ b : Int32, r = some (.int b) := by
  unfold mq_scan at h
  grind

theorem lc_lay {nb : Nat} {s s1 : kx_S} {x y : Int32} {r : Option Value} (h : cq_lay nb s x y r s1) : lo_C s s1 := by
  unfold cq_lay at h
  obtain ⟨k, d, -, -, -, -, -, -, -, h⟩ := h
  exact tw_AS_C h

theorem lt_lay {nb : Nat} {t t2 : kx_S} {x y : Int32} {r : Option Value} (h : mq_lay nb t x y r t2) : lo_T t t2 := by
  unfold mq_lay at h
  rcases h with ⟨-, -, h⟩ | ⟨k, d, -, -, -, -, -, -, h⟩ | ⟨k, d, -, -, -, -, -, -, -, h⟩
  · first | exact tm_Q_T h | exact (fun q m hq => h q m (by omega) (by omega) (by omega) (by omega)) | (refine lo_T_tr ?_ (tm_SA_T h); (repeat (first | exact lo_T_r | refine tm_add_T ?_ | refine lo_T_up ?_ (by decide)))) | (rw [h]; (repeat (first | exact lo_T_r | refine tm_add_T ?_ | refine lo_T_up ?_ (by decide))))
  · first | exact tm_Q_T h | exact (fun q m hq => h q m (by omega) (by omega) (by omega) (by omega)) | (refine lo_T_tr ?_ (tm_SA_T h); (repeat (first | exact lo_T_r | refine tm_add_T ?_ | refine lo_T_up ?_ (by decide)))) | (rw [h]; (repeat (first | exact lo_T_r | refine tm_add_T ?_ | refine lo_T_up ?_ (by decide))))
  · first | exact tm_Q_T h | exact (fun q m hq => h q m (by omega) (by omega) (by omega) (by omega)) | (refine lo_T_tr ?_ (tm_SA_T h); (repeat (first | exact lo_T_r | refine tm_add_T ?_ | refine lo_T_up ?_ (by decide)))) | (rw [h]; (repeat (first | exact lo_T_r | refine tm_add_T ?_ | refine lo_T_up ?_ (by decide))))

theorem lm_lay {nb : Nat} {t t2 : kx_S} {x y : Int32} {r : Option Value} (h : mq_lay nb t x y r t2) : ∃ b : Int32, r = some (.int b) := by
  unfold mq_lay at h
  grind

theorem lc_find {nb : Nat} {s s1 : kx_S} {x y : Int32} {r : Option Value} (h : cq_find nb s x y r s1) : lo_C s s1 := by
  unfold cq_find at h
  obtain ⟨k, -, -, -, -, -, h⟩ := h
  exact tw_AS_C h

theorem lt_find {nb : Nat} {t t2 : kx_S} {x y : Int32} {r : Option Value} (h : mq_find nb t x y r t2) : lo_T t t2 := by
  unfold mq_find at h
  rcases h with ⟨-, -, h⟩ | ⟨k, -, -, -, -, -, h⟩ | ⟨k, -, -, -, -, -, h⟩
  · first | exact tm_Q_T h | exact (fun q m hq => h q m (by omega) (by omega) (by omega) (by omega)) | (refine lo_T_tr ?_ (tm_SA_T h); (repeat (first | exact lo_T_r | refine tm_add_T ?_ | refine lo_T_up ?_ (by decide)))) | (rw [h]; (repeat (first | exact lo_T_r | refine tm_add_T ?_ | refine lo_T_up ?_ (by decide))))
  · first | exact tm_Q_T h | exact (fun q m hq => h q m (by omega) (by omega) (by omega) (by omega)) | (refine lo_T_tr ?_ (tm_SA_T h); (repeat (first | exact lo_T_r | refine tm_add_T ?_ | refine lo_T_up ?_ (by decide)))) | (rw [h]; (repeat (first | exact lo_T_r | refine tm_add_T ?_ | refine lo_T_up ?_ (by decide))))
  · first | exact tm_Q_T h | exact (fun q m hq => h q m (by omega) (by omega) (by omega) (by omega)) | (refine lo_T_tr ?_ (tm_SA_T h); (repeat (first | exact lo_T_r | refine tm_add_T ?_ | refine lo_T_up ?_ (by decide)))) | (rw [h]; (repeat (first | exact lo_T_r | refine tm_add_T ?_ | refine lo_T_up ?_ (by decide))))

theorem lm_find {nb : Nat} {t t2 : kx_S} {x y : Int32} {r : Option Value} (h : mq_find nb t x y r t2) : ∃ b : Int32, r = some (.int b) := by
  unfold mq_find at h
  grind

theorem lc_setDoor {nb : Nat} {s s1 : kx_S} {x y : Int32} {r : Option Value} (h : cq_setDoor nb s x y r s1) : lo_C s s1 := by
  unfold cq_setDoor at h
  obtain ⟨d, -, -, -, -, -, rfl⟩ := h
  exact lo_C_up lo_C_r (by decide)

theorem lt_setDoor {nb : Nat} {t t2 : kx_S} {x y : Int32} {r : Option Value} (h : mq_setDoor nb t x y r t2) : lo_T t t2 := by
  unfold mq_setDoor at h
  rcases h with ⟨-, -, h⟩ | ⟨d, -, -, -, -, h⟩ | ⟨d, -, -, -, -, -, h⟩ | ⟨d, -, -, -, -, -, h⟩
  · first | exact tm_Q_T h | exact (fun q m hq => h q m (by omega) (by omega) (by omega) (by omega)) | (refine lo_T_tr ?_ (tm_SA_T h); (repeat (first | exact lo_T_r | refine tm_add_T ?_ | refine lo_T_up ?_ (by decide)))) | (rw [h]; (repeat (first | exact lo_T_r | refine tm_add_T ?_ | refine lo_T_up ?_ (by decide))))
  · first | exact tm_Q_T h | exact (fun q m hq => h q m (by omega) (by omega) (by omega) (by omega)) | (refine lo_T_tr ?_ (tm_SA_T h); (repeat (first | exact lo_T_r | refine tm_add_T ?_ | refine lo_T_up ?_ (by decide)))) | (rw [h]; (repeat (first | exact lo_T_r | refine tm_add_T ?_ | refine lo_T_up ?_ (by decide))))
  · first | exact tm_Q_T h | exact (fun q m hq => h q m (by omega) (by omega) (by omega) (by omega)) | (refine lo_T_tr ?_ (tm_SA_T h); (repeat (first | exact lo_T_r | refine tm_add_T ?_ | refine lo_T_up ?_ (by decide)))) | (rw [h]; (repeat (first | exact lo_T_r | refine tm_add_T ?_ | refine lo_T_up ?_ (by decide))))
  · first | exact tm_Q_T h | exact (fun q m hq => h q m (by omega) (by omega) (by omega) (by omega)) | (refine lo_T_tr ?_ (tm_SA_T h); (repeat (first | exact lo_T_r | refine tm_add_T ?_ | refine lo_T_up ?_ (by decide)))) | (rw [h]; (repeat (first | exact lo_T_r | refine tm_add_T ?_ | refine lo_T_up ?_ (by decide))))

theorem lm_setDoor {nb : Nat} {t t2 : kx_S} {x y : Int32} {r : Option Value} (h : mq_setDoor nb t x y r t2) : ∃ b : Int32, r = some (.int b) := by
  unfold mq_setDoor at h
  grind

theorem lc_keep {nb : Nat} {s s1 : kx_S} {x y : Int32} {r : Option Value} (h : cq_keep nb s x y r s1) : lo_C s s1 := by
  unfold cq_keep at h
  obtain ⟨d, k, -, -, -, -, -, -, -, -, rfl⟩ := h
  exact lo_C_up (lo_C_up lo_C_r (by decide)) (by decide)

theorem lt_keep {nb : Nat} {t t2 : kx_S} {x y : Int32} {r : Option Value} (h : mq_keep nb t x y r t2) : lo_T t t2 := by
  unfold mq_keep at h
  rcases h with ⟨-, -, h⟩ | ⟨d, k, -, -, -, -, -, -, h⟩ | ⟨d, k, -, -, -, -, -, -, -, -, h⟩
  · first | exact tm_Q_T h | exact (fun q m hq => h q m (by omega) (by omega) (by omega) (by omega)) | (refine lo_T_tr ?_ (tm_SA_T h); (repeat (first | exact lo_T_r | refine tm_add_T ?_ | refine lo_T_up ?_ (by decide)))) | (rw [h]; (repeat (first | exact lo_T_r | refine tm_add_T ?_ | refine lo_T_up ?_ (by decide))))
  · first | exact tm_Q_T h | exact (fun q m hq => h q m (by omega) (by omega) (by omega) (by omega)) | (refine lo_T_tr ?_ (tm_SA_T h); (repeat (first | exact lo_T_r | refine tm_add_T ?_ | refine lo_T_up ?_ (by decide)))) | (rw [h]; (repeat (first | exact lo_T_r | refine tm_add_T ?_ | refine lo_T_up ?_ (by decide))))
  · first | exact tm_Q_T h | exact (fun q m hq => h q m (by omega) (by omega) (by omega) (by omega)) | (refine lo_T_tr ?_ (tm_SA_T h); (repeat (first | exact lo_T_r | refine tm_add_T ?_ | refine lo_T_up ?_ (by decide)))) | (rw [h]; (repeat (first | exact lo_T_r | refine tm_add_T ?_ | refine lo_T_up ?_ (by decide))))

theorem lm_keep {nb : Nat} {t t2 : kx_S} {x y : Int32} {r : Option Value} (h : mq_keep nb t x y r t2) : ∃ b : Int32, r = some (.int b) := by
  unfold mq_keep at h
  grind

theorem lc_open {nb : Nat} {s s1 : kx_S} {x y : Int32} {r : Option Value} (h : cq_open nb s x y r s1) : lo_C s s1 := by
  unfold cq_open at h
  obtain ⟨d, -, -, -, -, -, h⟩ := h
  rcases h with ⟨-, -, ⟨-, rfl⟩ | ⟨-, h⟩⟩ | ⟨-, k, -, -, -, h⟩
  · exact lo_C_up lo_C_r (by decide)
  · exact lo_C_tr (lo_C_up lo_C_r (by decide)) (tw_SA_C h)
  · rcases h with ⟨-, h⟩ | ⟨-, h⟩
    · exact lo_C_tr (lo_C_up lo_C_r (by decide)) (tw_AS_C h)
    · exact lo_C_tr (lo_C_up (k := 8) lo_C_r (by decide)) (fun q m hq => h.1 q m (by omega) (by omega) (by omega) (by omega) (by omega))

theorem lt_open {nb : Nat} {t t2 : kx_S} {x y : Int32} {r : Option Value} (h : mq_open nb t x y r t2) : lo_T t t2 := by
  unfold mq_open at h
  rcases h with ⟨-, -, h⟩ | ⟨d, -, -, -, -, h⟩ | ⟨d, -, -, -, -, -, h⟩ | ⟨d, -, -, -, -, -, (⟨-, -, h⟩ | ⟨-, k, -, -, -, (⟨-, h⟩ | ⟨-, h⟩)⟩)⟩
  · first | exact tm_Q_T h | exact (fun q m hq => h q m (by omega) (by omega) (by omega) (by omega)) | (refine lo_T_tr ?_ (tm_SA_T h); (repeat (first | exact lo_T_r | refine tm_add_T ?_ | refine lo_T_up ?_ (by decide)))) | (rw [h]; (repeat (first | exact lo_T_r | refine tm_add_T ?_ | refine lo_T_up ?_ (by decide))))
  · first | exact tm_Q_T h | exact (fun q m hq => h q m (by omega) (by omega) (by omega) (by omega)) | (refine lo_T_tr ?_ (tm_SA_T h); (repeat (first | exact lo_T_r | refine tm_add_T ?_ | refine lo_T_up ?_ (by decide)))) | (rw [h]; (repeat (first | exact lo_T_r | refine tm_add_T ?_ | refine lo_T_up ?_ (by decide))))
  · first | exact tm_Q_T h | exact (fun q m hq => h q m (by omega) (by omega) (by omega) (by omega)) | (refine lo_T_tr ?_ (tm_SA_T h); (repeat (first | exact lo_T_r | refine tm_add_T ?_ | refine lo_T_up ?_ (by decide)))) | (rw [h]; (repeat (first | exact lo_T_r | refine tm_add_T ?_ | refine lo_T_up ?_ (by decide))))
  · first | exact tm_Q_T h | exact (fun q m hq => h q m (by omega) (by omega) (by omega) (by omega)) | (refine lo_T_tr ?_ (tm_SA_T h); (repeat (first | exact lo_T_r | refine tm_add_T ?_ | refine lo_T_up ?_ (by decide)))) | (rw [h]; (repeat (first | exact lo_T_r | refine tm_add_T ?_ | refine lo_T_up ?_ (by decide))))
  · first | exact tm_Q_T h | exact (fun q m hq => h q m (by omega) (by omega) (by omega) (by omega)) | (refine lo_T_tr ?_ (tm_SA_T h); (repeat (first | exact lo_T_r | refine tm_add_T ?_ | refine lo_T_up ?_ (by decide)))) | (rw [h]; (repeat (first | exact lo_T_r | refine tm_add_T ?_ | refine lo_T_up ?_ (by decide))))
  · first | exact tm_Q_T h | exact (fun q m hq => h q m (by omega) (by omega) (by omega) (by omega)) | (refine lo_T_tr ?_ (tm_SA_T h); (repeat (first | exact lo_T_r | refine tm_add_T ?_ | refine lo_T_up ?_ (by decide)))) | (rw [h]; (repeat (first | exact lo_T_r | refine tm_add_T ?_ | refine lo_T_up ?_ (by decide))))

theorem lm_open {nb : Nat} {t t2 : kx_S} {x y : Int32} {r : Option Value} (h : mq_open nb t x y r t2) : ∃ b : Int32, r = some (.int b) := by
  unfold mq_open at h
  grind

theorem lc_jam {nb : Nat} {s s1 : kx_S} {x z : Int32} {r : Option Value} (h : cq_jam nb s x z r s1) : lo_C s s1 := by
  unfold cq_jam at h
  obtain ⟨d, -, -, -, h⟩ := h
  exact lo_C_tr (lo_C_up lo_C_r (by decide)) (tw_SA_C h)

theorem lt_jam {nb : Nat} {t t2 : kx_S} {x z : Int32} {r : Option Value} (h : mq_jam nb t x z r t2) : lo_T t t2 := by
  unfold mq_jam at h
  rcases h with ⟨-, -, h⟩ | ⟨d, -, -, -, h⟩
  · first | exact tm_Q_T h | exact (fun q m hq => h q m (by omega) (by omega) (by omega) (by omega)) | (refine lo_T_tr ?_ (tm_SA_T h); (repeat (first | exact lo_T_r | refine tm_add_T ?_ | refine lo_T_up ?_ (by decide)))) | (rw [h]; (repeat (first | exact lo_T_r | refine tm_add_T ?_ | refine lo_T_up ?_ (by decide))))
  · first | exact tm_Q_T h | exact (fun q m hq => h q m (by omega) (by omega) (by omega) (by omega)) | (refine lo_T_tr ?_ (tm_SA_T h); (repeat (first | exact lo_T_r | refine tm_add_T ?_ | refine lo_T_up ?_ (by decide)))) | (rw [h]; (repeat (first | exact lo_T_r | refine tm_add_T ?_ | refine lo_T_up ?_ (by decide))))

theorem lm_jam {nb : Nat} {t t2 : kx_S} {x z : Int32} {r : Option Value} (h : mq_jam nb t x z r t2) : ∃ b : Int32, r = some (.int b) := by
  unfold mq_jam at h
  grind

theorem lc_claim {nb : Nat} {s s1 : kx_S} {x : Int32} {r : Option Value} (h : cq_claim nb s x r s1) : lo_C s s1 := by
  unfold cq_claim at h
  obtain ⟨k, -, -, -, -, -, -, rfl⟩ := h
  exact lo_C_up (lo_C_up lo_C_r (by decide)) (by decide)

theorem lt_claim {nb : Nat} {t t2 : kx_S} {x : Int32} {r : Option Value} (h : mq_claim nb t x r t2) : lo_T t t2 := by
  unfold mq_claim at h
  rcases h with ⟨-, -, h⟩ | ⟨k, -, -, -, -, h⟩ | ⟨k, -, -, -, -, -, -, h, -, -⟩
  · first | exact tm_Q_T h | exact (fun q m hq => h q m (by omega) (by omega) (by omega) (by omega)) | (refine lo_T_tr ?_ (tm_SA_T h); (repeat (first | exact lo_T_r | refine tm_add_T ?_ | refine lo_T_up ?_ (by decide)))) | (rw [h]; (repeat (first | exact lo_T_r | refine tm_add_T ?_ | refine lo_T_up ?_ (by decide))))
  · first | exact tm_Q_T h | exact (fun q m hq => h q m (by omega) (by omega) (by omega) (by omega)) | (refine lo_T_tr ?_ (tm_SA_T h); (repeat (first | exact lo_T_r | refine tm_add_T ?_ | refine lo_T_up ?_ (by decide)))) | (rw [h]; (repeat (first | exact lo_T_r | refine tm_add_T ?_ | refine lo_T_up ?_ (by decide))))
  · first | exact tm_Q_T h | exact (fun q m hq => h q m (by omega) (by omega) (by omega) (by omega)) | (refine lo_T_tr ?_ (tm_SA_T h); (repeat (first | exact lo_T_r | refine tm_add_T ?_ | refine lo_T_up ?_ (by decide)))) | (rw [h]; (repeat (first | exact lo_T_r | refine tm_add_T ?_ | refine lo_T_up ?_ (by decide))))

theorem lm_claim {nb : Nat} {t t2 : kx_S} {x : Int32} {r : Option Value} (h : mq_claim nb t x r t2) : ∃ b : Int32, r = some (.int b) := by
  unfold mq_claim at h
  grind

theorem lc_time {nb : Nat} {s s1 : kx_S} {r : Option Value} (h : cq_time nb s r s1) : lo_C s s1 := by
  unfold cq_time at h
  obtain ⟨-, h⟩ := h
  rw [h]
  exact lo_C_r

theorem lt_time {nb : Nat} {t t2 : kx_S} {r : Option Value} (h : mq_time nb t r t2) : lo_T t t2 := by
  unfold mq_time at h
  obtain ⟨-, h⟩ := h
  first | exact tm_Q_T h | exact (fun q m hq => h q m (by omega) (by omega) (by omega) (by omega)) | (refine lo_T_tr ?_ (tm_SA_T h); (repeat (first | exact lo_T_r | refine tm_add_T ?_ | refine lo_T_up ?_ (by decide)))) | (rw [h]; (repeat (first | exact lo_T_r | refine tm_add_T ?_ | refine lo_T_up ?_ (by decide))))

theorem lm_time {nb : Nat} {t t2 : kx_S} {r : Option Value} (h : mq_time nb t r t2) : ∃ b : Int32, r = some (.int b) := by
  unfold mq_time at h
  grind

theorem lc_boxes {nb : Nat} {s s1 : kx_S} {r : Option Value} (h : cq_boxes nb s r s1) : lo_C s s1 := by
  unfold cq_boxes at h
  obtain ⟨-, h⟩ := h
  rw [h]
  exact lo_C_r

theorem lt_boxes {nb : Nat} {t t2 : kx_S} {r : Option Value} (h : mq_boxes nb t r t2) : lo_T t t2 := by
  unfold mq_boxes at h
  obtain ⟨-, h⟩ := h
  first | exact tm_Q_T h | exact (fun q m hq => h q m (by omega) (by omega) (by omega) (by omega)) | (refine lo_T_tr ?_ (tm_SA_T h); (repeat (first | exact lo_T_r | refine tm_add_T ?_ | refine lo_T_up ?_ (by decide)))) | (rw [h]; (repeat (first | exact lo_T_r | refine tm_add_T ?_ | refine lo_T_up ?_ (by decide))))

theorem lm_boxes {nb : Nat} {t t2 : kx_S} {r : Option Value} (h : mq_boxes nb t r t2) : ∃ b : Int32, r = some (.int b) := by
  unfold mq_boxes at h
  grind

theorem lc_scans {nb : Nat} {s s1 : kx_S} {x : Int32} {r : Option Value} (h : cq_scans nb s x r s1) : lo_C s s1 := by
  unfold cq_scans at h
  obtain ⟨k, -, -, -, h⟩ := h
  rw [h]
  exact lo_C_r

theorem lt_scans {nb : Nat} {t t2 : kx_S} {x : Int32} {r : Option Value} (h : mq_scans nb t x r t2) : lo_T t t2 := by
  unfold mq_scans at h
  rcases h with ⟨-, -, h⟩ | ⟨k, -, -, -, h⟩
  · first | exact tm_Q_T h | exact (fun q m hq => h q m (by omega) (by omega) (by omega) (by omega)) | (refine lo_T_tr ?_ (tm_SA_T h); (repeat (first | exact lo_T_r | refine tm_add_T ?_ | refine lo_T_up ?_ (by decide)))) | (rw [h]; (repeat (first | exact lo_T_r | refine tm_add_T ?_ | refine lo_T_up ?_ (by decide))))
  · first | exact tm_Q_T h | exact (fun q m hq => h q m (by omega) (by omega) (by omega) (by omega)) | (refine lo_T_tr ?_ (tm_SA_T h); (repeat (first | exact lo_T_r | refine tm_add_T ?_ | refine lo_T_up ?_ (by decide)))) | (rw [h]; (repeat (first | exact lo_T_r | refine tm_add_T ?_ | refine lo_T_up ?_ (by decide))))

theorem lm_scans {nb : Nat} {t t2 : kx_S} {x : Int32} {r : Option Value} (h : mq_scans nb t x r t2) : ∃ b : Int32, r = some (.int b) := by
  unfold mq_scans at h
  grind

theorem lc_story {nb : Nat} {s s1 : kx_S} {x : Int32} {r : Option Value} (h : cq_story nb s x r s1) : lo_C s s1 := by
  unfold cq_story at h
  obtain ⟨k, -, -, -, h⟩ := h
  rw [h]
  exact lo_C_r

theorem lt_story {nb : Nat} {t t2 : kx_S} {x : Int32} {r : Option Value} (h : mq_story nb t x r t2) : lo_T t t2 := by
  unfold mq_story at h
  rcases h with ⟨-, -, h⟩ | ⟨k, -, -, -, h⟩
  · first | exact tm_Q_T h | exact (fun q m hq => h q m (by omega) (by omega) (by omega) (by omega)) | (refine lo_T_tr ?_ (tm_SA_T h); (repeat (first | exact lo_T_r | refine tm_add_T ?_ | refine lo_T_up ?_ (by decide)))) | (rw [h]; (repeat (first | exact lo_T_r | refine tm_add_T ?_ | refine lo_T_up ?_ (by decide))))
  · first | exact tm_Q_T h | exact (fun q m hq => h q m (by omega) (by omega) (by omega) (by omega)) | (refine lo_T_tr ?_ (tm_SA_T h); (repeat (first | exact lo_T_r | refine tm_add_T ?_ | refine lo_T_up ?_ (by decide)))) | (rw [h]; (repeat (first | exact lo_T_r | refine tm_add_T ?_ | refine lo_T_up ?_ (by decide))))

theorem lm_story {nb : Nat} {t t2 : kx_S} {x : Int32} {r : Option Value} (h : mq_story nb t x r t2) : ∃ b : Int32, r = some (.int b) := by
  unfold mq_story at h
  grind

theorem lc_storyOfAll {nb : Nat} {s s1 : kx_S} {x : Int32} {r : Option Value} (h : cq_storyOfAll nb s x r s1) : lo_C s s1 := by
  unfold cq_storyOfAll at h
  obtain ⟨k, -, -, -, f, rfl⟩ := h
  exact lo_C_up lo_C_r (by decide)

theorem lt_storyOfAll {nb : Nat} {t t2 : kx_S} {x : Int32} {r : Option Value} (h : mq_storyOfAll nb t x r t2) : lo_T t t2 := by
  unfold mq_storyOfAll at h
  rcases h with ⟨-, -, h⟩ | ⟨k, -, -, -, h⟩
  · first | exact tm_Q_T h | exact (fun q m hq => h q m (by omega) (by omega) (by omega) (by omega)) | (refine lo_T_tr ?_ (tm_SA_T h); (repeat (first | exact lo_T_r | refine tm_add_T ?_ | refine lo_T_up ?_ (by decide)))) | (rw [h]; (repeat (first | exact lo_T_r | refine tm_add_T ?_ | refine lo_T_up ?_ (by decide))))
  · first | exact tm_Q_T h | exact (fun q m hq => h q m (by omega) (by omega) (by omega) (by omega)) | (refine lo_T_tr ?_ (tm_SA_T h); (repeat (first | exact lo_T_r | refine tm_add_T ?_ | refine lo_T_up ?_ (by decide)))) | (rw [h]; (repeat (first | exact lo_T_r | refine tm_add_T ?_ | refine lo_T_up ?_ (by decide))))

theorem lm_storyOfAll {nb : Nat} {t t2 : kx_S} {x : Int32} {r : Option Value} (h : mq_storyOfAll nb t x r t2) : ∃ b : Int32, r = some (.int b) := by
  unfold mq_storyOfAll at h
  grind

theorem lc_placeOf {nb : Nat} {s s1 : kx_S} {x : Int32} {r : Option Value} (h : cq_placeOf nb s x r s1) : lo_C s s1 := by
  unfold cq_placeOf at h
  obtain ⟨k, -, -, -, h⟩ := h
  rw [h]
  exact lo_C_r

theorem lt_placeOf {nb : Nat} {t t2 : kx_S} {x : Int32} {r : Option Value} (h : mq_placeOf nb t x r t2) : lo_T t t2 := by
  unfold mq_placeOf at h
  rcases h with ⟨-, -, h⟩ | ⟨k, -, -, -, h⟩
  · first | exact tm_Q_T h | exact (fun q m hq => h q m (by omega) (by omega) (by omega) (by omega)) | (refine lo_T_tr ?_ (tm_SA_T h); (repeat (first | exact lo_T_r | refine tm_add_T ?_ | refine lo_T_up ?_ (by decide)))) | (rw [h]; (repeat (first | exact lo_T_r | refine tm_add_T ?_ | refine lo_T_up ?_ (by decide))))
  · first | exact tm_Q_T h | exact (fun q m hq => h q m (by omega) (by omega) (by omega) (by omega)) | (refine lo_T_tr ?_ (tm_SA_T h); (repeat (first | exact lo_T_r | refine tm_add_T ?_ | refine lo_T_up ?_ (by decide)))) | (rw [h]; (repeat (first | exact lo_T_r | refine tm_add_T ?_ | refine lo_T_up ?_ (by decide))))

theorem lm_placeOf {nb : Nat} {t t2 : kx_S} {x : Int32} {r : Option Value} (h : mq_placeOf nb t x r t2) : ∃ b : Int32, r = some (.int b) := by
  unfold mq_placeOf at h
  grind

theorem lc_lies {nb : Nat} {s s1 : kx_S} {x : Int32} {r : Option Value} (h : cq_lies nb s x r s1) : lo_C s s1 := by
  unfold cq_lies at h
  obtain ⟨c, -, -, -, h⟩ := h
  rw [h]
  exact lo_C_r

theorem lt_lies {nb : Nat} {t t2 : kx_S} {x : Int32} {r : Option Value} (h : mq_lies nb t x r t2) : lo_T t t2 := by
  unfold mq_lies at h
  rcases h with ⟨-, -, h⟩ | ⟨-, -, h⟩
  · first | exact tm_Q_T h | exact (fun q m hq => h q m (by omega) (by omega) (by omega) (by omega)) | (refine lo_T_tr ?_ (tm_SA_T h); (repeat (first | exact lo_T_r | refine tm_add_T ?_ | refine lo_T_up ?_ (by decide)))) | (rw [h]; (repeat (first | exact lo_T_r | refine tm_add_T ?_ | refine lo_T_up ?_ (by decide))))
  · first | exact tm_Q_T h | exact (fun q m hq => h q m (by omega) (by omega) (by omega) (by omega)) | (refine lo_T_tr ?_ (tm_SA_T h); (repeat (first | exact lo_T_r | refine tm_add_T ?_ | refine lo_T_up ?_ (by decide)))) | (rw [h]; (repeat (first | exact lo_T_r | refine tm_add_T ?_ | refine lo_T_up ?_ (by decide))))

theorem lm_lies {nb : Nat} {t t2 : kx_S} {x : Int32} {r : Option Value} (h : mq_lies nb t x r t2) : ∃ b : Int32, r = some (.int b) := by
  unfold mq_lies at h
  grind

theorem lc_hasFee {nb : Nat} {s s1 : kx_S} {x : Int32} {r : Option Value} (h : cq_hasFee nb s x r s1) : lo_C s s1 := by
  unfold cq_hasFee at h
  obtain ⟨k, -, -, -, h⟩ := h
  rw [h]
  exact lo_C_r

theorem lt_hasFee {nb : Nat} {t t2 : kx_S} {x : Int32} {r : Option Value} (h : mq_hasFee nb t x r t2) : lo_T t t2 := by
  unfold mq_hasFee at h
  rcases h with ⟨-, -, h⟩ | ⟨k, -, -, -, h⟩
  · first | exact tm_Q_T h | exact (fun q m hq => h q m (by omega) (by omega) (by omega) (by omega)) | (refine lo_T_tr ?_ (tm_SA_T h); (repeat (first | exact lo_T_r | refine tm_add_T ?_ | refine lo_T_up ?_ (by decide)))) | (rw [h]; (repeat (first | exact lo_T_r | refine tm_add_T ?_ | refine lo_T_up ?_ (by decide))))
  · first | exact tm_Q_T h | exact (fun q m hq => h q m (by omega) (by omega) (by omega) (by omega)) | (refine lo_T_tr ?_ (tm_SA_T h); (repeat (first | exact lo_T_r | refine tm_add_T ?_ | refine lo_T_up ?_ (by decide)))) | (rw [h]; (repeat (first | exact lo_T_r | refine tm_add_T ?_ | refine lo_T_up ?_ (by decide))))

theorem lm_hasFee {nb : Nat} {t t2 : kx_S} {x : Int32} {r : Option Value} (h : mq_hasFee nb t x r t2) : ∃ b : Int32, r = some (.int b) := by
  unfold mq_hasFee at h
  grind

theorem lc_isInsured {nb : Nat} {s s1 : kx_S} {x : Int32} {r : Option Value} (h : cq_isInsured nb s x r s1) : lo_C s s1 := by
  unfold cq_isInsured at h
  obtain ⟨k, -, -, -, h⟩ := h
  rw [h]
  exact lo_C_r

theorem lt_isInsured {nb : Nat} {t t2 : kx_S} {x : Int32} {r : Option Value} (h : mq_isInsured nb t x r t2) : lo_T t t2 := by
  unfold mq_isInsured at h
  rcases h with ⟨-, -, h⟩ | ⟨k, -, -, -, h⟩
  · first | exact tm_Q_T h | exact (fun q m hq => h q m (by omega) (by omega) (by omega) (by omega)) | (refine lo_T_tr ?_ (tm_SA_T h); (repeat (first | exact lo_T_r | refine tm_add_T ?_ | refine lo_T_up ?_ (by decide)))) | (rw [h]; (repeat (first | exact lo_T_r | refine tm_add_T ?_ | refine lo_T_up ?_ (by decide))))
  · first | exact tm_Q_T h | exact (fun q m hq => h q m (by omega) (by omega) (by omega) (by omega)) | (refine lo_T_tr ?_ (tm_SA_T h); (repeat (first | exact lo_T_r | refine tm_add_T ?_ | refine lo_T_up ?_ (by decide)))) | (rw [h]; (repeat (first | exact lo_T_r | refine tm_add_T ?_ | refine lo_T_up ?_ (by decide))))

theorem lm_isInsured {nb : Nat} {t t2 : kx_S} {x : Int32} {r : Option Value} (h : mq_isInsured nb t x r t2) : ∃ b : Int32, r = some (.int b) := by
  unfold mq_isInsured at h
  grind

theorem lc_fees {nb : Nat} {s s1 : kx_S} {x : Int32} {r : Option Value} (h : cq_fees nb s x r s1) : lo_C s s1 := by
  unfold cq_fees at h
  obtain ⟨c, -, -, -, h⟩ := h
  rw [h]
  exact lo_C_r

theorem lt_fees {nb : Nat} {t t2 : kx_S} {x : Int32} {r : Option Value} (h : mq_fees nb t x r t2) : lo_T t t2 := by
  unfold mq_fees at h
  rcases h with ⟨-, -, h⟩ | ⟨-, -, h⟩
  · first | exact tm_Q_T h | exact (fun q m hq => h q m (by omega) (by omega) (by omega) (by omega)) | (refine lo_T_tr ?_ (tm_SA_T h); (repeat (first | exact lo_T_r | refine tm_add_T ?_ | refine lo_T_up ?_ (by decide)))) | (rw [h]; (repeat (first | exact lo_T_r | refine tm_add_T ?_ | refine lo_T_up ?_ (by decide))))
  · first | exact tm_Q_T h | exact (fun q m hq => h q m (by omega) (by omega) (by omega) (by omega)) | (refine lo_T_tr ?_ (tm_SA_T h); (repeat (first | exact lo_T_r | refine tm_add_T ?_ | refine lo_T_up ?_ (by decide)))) | (rw [h]; (repeat (first | exact lo_T_r | refine tm_add_T ?_ | refine lo_T_up ?_ (by decide))))

theorem lm_fees {nb : Nat} {t t2 : kx_S} {x : Int32} {r : Option Value} (h : mq_fees nb t x r t2) : ∃ b : Int32, r = some (.int b) := by
  unfold mq_fees at h
  grind

theorem lc_insurers {nb : Nat} {s s1 : kx_S} {r : Option Value} (h : cq_insurers nb s r s1) : lo_C s s1 := by
  unfold cq_insurers at h
  obtain ⟨-, h⟩ := h
  rw [h]
  exact lo_C_r

theorem lt_insurers {nb : Nat} {t t2 : kx_S} {r : Option Value} (h : mq_insurers nb t r t2) : lo_T t t2 := by
  unfold mq_insurers at h
  obtain ⟨-, h⟩ := h
  first | exact tm_Q_T h | exact (fun q m hq => h q m (by omega) (by omega) (by omega) (by omega)) | (refine lo_T_tr ?_ (tm_SA_T h); (repeat (first | exact lo_T_r | refine tm_add_T ?_ | refine lo_T_up ?_ (by decide)))) | (rw [h]; (repeat (first | exact lo_T_r | refine tm_add_T ?_ | refine lo_T_up ?_ (by decide))))

theorem lm_insurers {nb : Nat} {t t2 : kx_S} {r : Option Value} (h : mq_insurers nb t r t2) : ∃ b : Int32, r = some (.int b) := by
  unfold mq_insurers at h
  grind

theorem lc_entries {nb : Nat} {s s1 : kx_S} {r : Option Value} (h : cq_entries nb s r s1) : lo_C s s1 := by
  unfold cq_entries at h
  obtain ⟨-, h⟩ := h
  rw [h]
  exact lo_C_r

theorem lt_entries {nb : Nat} {t t2 : kx_S} {r : Option Value} (h : mq_entries nb t r t2) : lo_T t t2 := by
  unfold mq_entries at h
  obtain ⟨-, h⟩ := h
  first | exact tm_Q_T h | exact (fun q m hq => h q m (by omega) (by omega) (by omega) (by omega)) | (refine lo_T_tr ?_ (tm_SA_T h); (repeat (first | exact lo_T_r | refine tm_add_T ?_ | refine lo_T_up ?_ (by decide)))) | (rw [h]; (repeat (first | exact lo_T_r | refine tm_add_T ?_ | refine lo_T_up ?_ (by decide))))

theorem lm_entries {nb : Nat} {t t2 : kx_S} {r : Option Value} (h : mq_entries nb t r t2) : ∃ b : Int32, r = some (.int b) := by
  unfold mq_entries at h
  grind

theorem lc_fine {nb : Nat} {s s1 : kx_S} {x : Int32} {r : Option Value} (h : cq_fine nb s x r s1) : lo_C s s1 := by
  unfold cq_fine at h
  obtain ⟨k, -, -, -, h⟩ := h
  rw [h]
  exact lo_C_r

theorem lt_fine {nb : Nat} {t t2 : kx_S} {x : Int32} {r : Option Value} (h : mq_fine nb t x r t2) : lo_T t t2 := by
  unfold mq_fine at h
  rcases h with ⟨-, -, h⟩ | ⟨k, -, -, -, h⟩
  · first | exact tm_Q_T h | exact (fun q m hq => h q m (by omega) (by omega) (by omega) (by omega)) | (refine lo_T_tr ?_ (tm_SA_T h); (repeat (first | exact lo_T_r | refine tm_add_T ?_ | refine lo_T_up ?_ (by decide)))) | (rw [h]; (repeat (first | exact lo_T_r | refine tm_add_T ?_ | refine lo_T_up ?_ (by decide))))
  · first | exact tm_Q_T h | exact (fun q m hq => h q m (by omega) (by omega) (by omega) (by omega)) | (refine lo_T_tr ?_ (tm_SA_T h); (repeat (first | exact lo_T_r | refine tm_add_T ?_ | refine lo_T_up ?_ (by decide)))) | (rw [h]; (repeat (first | exact lo_T_r | refine tm_add_T ?_ | refine lo_T_up ?_ (by decide))))

theorem lm_fine {nb : Nat} {t t2 : kx_S} {x : Int32} {r : Option Value} (h : mq_fine nb t x r t2) : ∃ b : Int32, r = some (.int b) := by
  unfold mq_fine at h
  grind

theorem lc_isJammed {nb : Nat} {s s1 : kx_S} {x : Int32} {r : Option Value} (h : cq_isJammed nb s x r s1) : lo_C s s1 := by
  unfold cq_isJammed at h
  obtain ⟨d, -, -, -, h⟩ := h
  rw [h]
  exact lo_C_r

theorem lt_isJammed {nb : Nat} {t t2 : kx_S} {x : Int32} {r : Option Value} (h : mq_isJammed nb t x r t2) : lo_T t t2 := by
  unfold mq_isJammed at h
  rcases h with ⟨-, -, h⟩ | ⟨d, -, -, -, h⟩
  · first | exact tm_Q_T h | exact (fun q m hq => h q m (by omega) (by omega) (by omega) (by omega)) | (refine lo_T_tr ?_ (tm_SA_T h); (repeat (first | exact lo_T_r | refine tm_add_T ?_ | refine lo_T_up ?_ (by decide)))) | (rw [h]; (repeat (first | exact lo_T_r | refine tm_add_T ?_ | refine lo_T_up ?_ (by decide))))
  · first | exact tm_Q_T h | exact (fun q m hq => h q m (by omega) (by omega) (by omega) (by omega)) | (refine lo_T_tr ?_ (tm_SA_T h); (repeat (first | exact lo_T_r | refine tm_add_T ?_ | refine lo_T_up ?_ (by decide)))) | (rw [h]; (repeat (first | exact lo_T_r | refine tm_add_T ?_ | refine lo_T_up ?_ (by decide))))

theorem lm_isJammed {nb : Nat} {t t2 : kx_S} {x : Int32} {r : Option Value} (h : mq_isJammed nb t x r t2) : ∃ b : Int32, r = some (.int b) := by
  unfold mq_isJammed at h
  grind

theorem lc_keptFor {nb : Nat} {s s1 : kx_S} {x : Int32} {r : Option Value} (h : cq_keptFor nb s x r s1) : lo_C s s1 := by
  unfold cq_keptFor at h
  obtain ⟨d, -, -, -, h⟩ := h
  rw [h]
  exact lo_C_r

theorem lt_keptFor {nb : Nat} {t t2 : kx_S} {x : Int32} {r : Option Value} (h : mq_keptFor nb t x r t2) : lo_T t t2 := by
  unfold mq_keptFor at h
  rcases h with ⟨-, -, h⟩ | ⟨d, -, -, -, h⟩
  · first | exact tm_Q_T h | exact (fun q m hq => h q m (by omega) (by omega) (by omega) (by omega)) | (refine lo_T_tr ?_ (tm_SA_T h); (repeat (first | exact lo_T_r | refine tm_add_T ?_ | refine lo_T_up ?_ (by decide)))) | (rw [h]; (repeat (first | exact lo_T_r | refine tm_add_T ?_ | refine lo_T_up ?_ (by decide))))
  · first | exact tm_Q_T h | exact (fun q m hq => h q m (by omega) (by omega) (by omega) (by omega)) | (refine lo_T_tr ?_ (tm_SA_T h); (repeat (first | exact lo_T_r | refine tm_add_T ?_ | refine lo_T_up ?_ (by decide)))) | (rw [h]; (repeat (first | exact lo_T_r | refine tm_add_T ?_ | refine lo_T_up ?_ (by decide))))

theorem lm_keptFor {nb : Nat} {t t2 : kx_S} {x : Int32} {r : Option Value} (h : mq_keptFor nb t x r t2) : ∃ b : Int32, r = some (.int b) := by
  unfold mq_keptFor at h
  grind

theorem lq_setTrust {nb : Nat} {s s9 : kx_S} {x y : Int32} {r9 : Option Value} (hs : rl_PT nb s s) (hq : (∃ (a : Int32) (sgc : kx_S), r9 = some (.int 0) ∧ cq_setTrust nb s x y (some (.int a)) sgc ∧ s9 = kx_up sgc 32 0 (upd (sgc 32 0) 0 a)) ∨ (∃ (k : Int32) (E : String), r9 = some (.int k) ∧ s9 = s ∧ cx_setTrust nb s x y E ∧ ((E = kx_ioe ∧ k = 1) ∨ (E = kx_iae ∧ k = 2)))) : rl_PT nb s s9 ∧ ∃ k : Int32, r9 = some (.int k) := by
  rcases hq with ⟨a, sgc, h1, h2, h3⟩ | ⟨k, E, h1, h2, -⟩
  · exact ⟨by rw [h3]; exact rl_same ts_same_r (lo_same (lc_setTrust h2)) hs, _, h1⟩
  · exact ⟨by rw [h2]; exact hs, _, h1⟩

theorem lp_setTrust {nb : Nat} {s s9 t2 : kx_S} {x y : Int32} {r9 r10 : Option Value} (hs : rl_PT nb s s) (hq : (∃ (a : Int32) (sgc : kx_S), r9 = some (.int 0) ∧ cq_setTrust nb s x y (some (.int a)) sgc ∧ s9 = kx_up sgc 32 0 (upd (sgc 32 0) 0 a)) ∨ (∃ (k : Int32) (E : String), r9 = some (.int k) ∧ s9 = s ∧ cx_setTrust nb s x y E ∧ ((E = kx_ioe ∧ k = 1) ∨ (E = kx_iae ∧ k = 2)))) (hm : mq_setTrust nb s9 x y r10 t2) : ∃ k b : Int32, r9 = some (.int k) ∧ r10 = some (.int b) ∧ t2 14 0 22 = k ∧ (k = 0 → t2 32 0 0 = b) ∧ rl_PT nb t2 t2 := by
  obtain ⟨b, hb⟩ := lm_setTrust hm
  refine lo_gen (nb2 := nb) (C := fun a sgc => cq_setTrust nb s x y (some (.int a)) sgc) (X := fun k => ∃ E : String, cx_setTrust nb s x y E ∧ ((E = kx_ioe ∧ k = 1) ∨ (E = kx_iae ∧ k = 2))) (M := fun b t2 => r10 = some (.int b) ∧ mq_setTrust nb s9 x y (some (.int b)) t2) hs ?_ ⟨b, hb, hb, by rw [← hb]; exact hm⟩ (fun b hm => lt_setTrust hm.2) (fun a b sgc hc hm h9 => rn_setTrust h9 hc hm.2) (fun a sgc hc => lc_setTrust hc) ?_
  · rcases hq with ⟨a, sgc, h1, h2, h3⟩ | ⟨k, E, h1, h2, h3, h4⟩
    · exact Or.inl ⟨a, sgc, h1, h2, h3, rfl⟩
    · exact Or.inr ⟨k, h1, h2, ⟨E, h3, h4⟩, rfl⟩
  · intro k b hX hm h9
    obtain ⟨E, hc, hk⟩ := hX
    have hx := rx_setTrust h9 hc hm.2
    rcases hk with ⟨rfl, rfl⟩ | ⟨rfl, rfl⟩
    · rcases hx with ⟨e, hx⟩ | ⟨e, hx⟩
      · exact ⟨by decide, hx⟩
      · exact absurd e (by decide)
    · rcases hx with ⟨e, hx⟩ | ⟨e, hx⟩
      · exact absurd e (by decide)
      · exact ⟨by decide, hx⟩

theorem lq_pass {nb : Nat} {s s9 : kx_S} {x : Int32} {r9 : Option Value} (hs : rl_PT nb s s) (hq : (∃ (a : Int32) (sgc : kx_S), r9 = some (.int 0) ∧ cq_pass nb s x (some (.int a)) sgc ∧ s9 = kx_up sgc 32 0 (upd (sgc 32 0) 0 a)) ∨ (∃ (k : Int32) (E : String), r9 = some (.int k) ∧ s9 = s ∧ cx_pass nb s x E ∧ ((E = kx_iae ∧ k = 1) ∨ (E = kx_ise ∧ k = 2)))) : rl_PT nb s s9 ∧ ∃ k : Int32, r9 = some (.int k) := by
  rcases hq with ⟨a, sgc, h1, h2, h3⟩ | ⟨k, E, h1, h2, -⟩
  · exact ⟨by rw [h3]; exact rl_same ts_same_r (lo_same (lc_pass h2)) hs, _, h1⟩
  · exact ⟨by rw [h2]; exact hs, _, h1⟩

theorem lp_pass {nb : Nat} {s s9 t2 : kx_S} {x : Int32} {r9 r10 : Option Value} (hs : rl_PT nb s s) (hq : (∃ (a : Int32) (sgc : kx_S), r9 = some (.int 0) ∧ cq_pass nb s x (some (.int a)) sgc ∧ s9 = kx_up sgc 32 0 (upd (sgc 32 0) 0 a)) ∨ (∃ (k : Int32) (E : String), r9 = some (.int k) ∧ s9 = s ∧ cx_pass nb s x E ∧ ((E = kx_iae ∧ k = 1) ∨ (E = kx_ise ∧ k = 2)))) (hm : mq_pass nb s9 x r10 t2) : ∃ k b : Int32, r9 = some (.int k) ∧ r10 = some (.int b) ∧ t2 14 0 22 = k ∧ (k = 0 → t2 32 0 0 = b) ∧ rl_PT nb t2 t2 := by
  obtain ⟨b, hb⟩ := lm_pass hm
  refine lo_gen (nb2 := nb) (C := fun a sgc => cq_pass nb s x (some (.int a)) sgc) (X := fun k => ∃ E : String, cx_pass nb s x E ∧ ((E = kx_iae ∧ k = 1) ∨ (E = kx_ise ∧ k = 2))) (M := fun b t2 => r10 = some (.int b) ∧ mq_pass nb s9 x (some (.int b)) t2) hs ?_ ⟨b, hb, hb, by rw [← hb]; exact hm⟩ (fun b hm => lt_pass hm.2) (fun a b sgc hc hm h9 => rn_pass h9 hc hm.2) (fun a sgc hc => lc_pass hc) ?_
  · rcases hq with ⟨a, sgc, h1, h2, h3⟩ | ⟨k, E, h1, h2, h3, h4⟩
    · exact Or.inl ⟨a, sgc, h1, h2, h3, rfl⟩
    · exact Or.inr ⟨k, h1, h2, ⟨E, h3, h4⟩, rfl⟩
  · intro k b hX hm h9
    obtain ⟨E, hc, hk⟩ := hX
    have hx := rx_pass h9 hc hm.2
    rcases hk with ⟨rfl, rfl⟩ | ⟨rfl, rfl⟩
    · rcases hx with ⟨e, hx⟩ | ⟨e, hx⟩
      · exact ⟨by decide, hx⟩
      · exact absurd e (by decide)
    · rcases hx with ⟨e, hx⟩ | ⟨e, hx⟩
      · exact absurd e (by decide)
      · exact ⟨by decide, hx⟩

theorem lq_scan {nb : Nat} {s s9 : kx_S} {x y z : Int32} {r9 : Option Value} (hs : rl_PT nb s s) (hq : (∃ (a : Int32) (sgc : kx_S), r9 = some (.int 0) ∧ cq_scan nb s x y z (some (.int a)) sgc ∧ s9 = kx_up sgc 32 0 (upd (sgc 32 0) 0 a)) ∨ (∃ (k : Int32) (E : String), r9 = some (.int k) ∧ s9 = s ∧ cx_scan nb s x y z E ∧ ((E = kx_ioe ∧ k = 1) ∨ (E = kx_iae ∧ k = 2) ∨ (E = kx_ise ∧ k = 3)))) : rl_PT nb s s9 ∧ ∃ k : Int32, r9 = some (.int k) := by
  rcases hq with ⟨a, sgc, h1, h2, h3⟩ | ⟨k, E, h1, h2, -⟩
  · exact ⟨by rw [h3]; exact rl_same ts_same_r (lo_same (lc_scan h2)) hs, _, h1⟩
  · exact ⟨by rw [h2]; exact hs, _, h1⟩

theorem lp_scan {nb : Nat} {s s9 t2 : kx_S} {x y z : Int32} {r9 r10 : Option Value} (hs : rl_PT nb s s) (hq : (∃ (a : Int32) (sgc : kx_S), r9 = some (.int 0) ∧ cq_scan nb s x y z (some (.int a)) sgc ∧ s9 = kx_up sgc 32 0 (upd (sgc 32 0) 0 a)) ∨ (∃ (k : Int32) (E : String), r9 = some (.int k) ∧ s9 = s ∧ cx_scan nb s x y z E ∧ ((E = kx_ioe ∧ k = 1) ∨ (E = kx_iae ∧ k = 2) ∨ (E = kx_ise ∧ k = 3)))) (hm : mq_scan nb s9 x y z r10 t2) : ∃ k b : Int32, r9 = some (.int k) ∧ r10 = some (.int b) ∧ t2 14 0 22 = k ∧ (k = 0 → t2 32 0 0 = b) ∧ rl_PT nb t2 t2 := by
  obtain ⟨b, hb⟩ := lm_scan hm
  refine lo_gen (nb2 := nb) (C := fun a sgc => cq_scan nb s x y z (some (.int a)) sgc) (X := fun k => ∃ E : String, cx_scan nb s x y z E ∧ ((E = kx_ioe ∧ k = 1) ∨ (E = kx_iae ∧ k = 2) ∨ (E = kx_ise ∧ k = 3))) (M := fun b t2 => r10 = some (.int b) ∧ mq_scan nb s9 x y z (some (.int b)) t2) hs ?_ ⟨b, hb, hb, by rw [← hb]; exact hm⟩ (fun b hm => lt_scan hm.2) (fun a b sgc hc hm h9 => rn_scan h9 hc hm.2) (fun a sgc hc => lc_scan hc) ?_
  · rcases hq with ⟨a, sgc, h1, h2, h3⟩ | ⟨k, E, h1, h2, h3, h4⟩
    · exact Or.inl ⟨a, sgc, h1, h2, h3, rfl⟩
    · exact Or.inr ⟨k, h1, h2, ⟨E, h3, h4⟩, rfl⟩
  · intro k b hX hm h9
    obtain ⟨E, hc, hk⟩ := hX
    have hx := rx_scan h9 hc hm.2
    rcases hk with ⟨rfl, rfl⟩ | ⟨rfl, rfl⟩ | ⟨rfl, rfl⟩
    · rcases hx with ⟨e, hx⟩ | ⟨e, hx⟩ | ⟨e, hx⟩
      · exact ⟨by decide, hx⟩
      · exact absurd e (by decide)
      · exact absurd e (by decide)
    · rcases hx with ⟨e, hx⟩ | ⟨e, hx⟩ | ⟨e, hx⟩
      · exact absurd e (by decide)
      · exact ⟨by decide, hx⟩
      · exact absurd e (by decide)
    · rcases hx with ⟨e, hx⟩ | ⟨e, hx⟩ | ⟨e, hx⟩
      · exact absurd e (by decide)
      · exact absurd e (by decide)
      · exact ⟨by decide, hx⟩

theorem lq_lay {nb : Nat} {s s9 : kx_S} {x y : Int32} {r9 : Option Value} (hs : rl_PT nb s s) (hq : (∃ (a : Int32) (sgc : kx_S), r9 = some (.int 0) ∧ cq_lay nb s x y (some (.int a)) sgc ∧ s9 = kx_up sgc 32 0 (upd (sgc 32 0) 0 a)) ∨ (∃ (k : Int32) (E : String), r9 = some (.int k) ∧ s9 = s ∧ cx_lay nb s x y E ∧ ((E = kx_ioe ∧ k = 1) ∨ (E = kx_ise ∧ k = 2)))) : rl_PT nb s s9 ∧ ∃ k : Int32, r9 = some (.int k) := by
  rcases hq with ⟨a, sgc, h1, h2, h3⟩ | ⟨k, E, h1, h2, -⟩
  · exact ⟨by rw [h3]; exact rl_same ts_same_r (lo_same (lc_lay h2)) hs, _, h1⟩
  · exact ⟨by rw [h2]; exact hs, _, h1⟩

theorem lp_lay {nb : Nat} {s s9 t2 : kx_S} {x y : Int32} {r9 r10 : Option Value} (hs : rl_PT nb s s) (hq : (∃ (a : Int32) (sgc : kx_S), r9 = some (.int 0) ∧ cq_lay nb s x y (some (.int a)) sgc ∧ s9 = kx_up sgc 32 0 (upd (sgc 32 0) 0 a)) ∨ (∃ (k : Int32) (E : String), r9 = some (.int k) ∧ s9 = s ∧ cx_lay nb s x y E ∧ ((E = kx_ioe ∧ k = 1) ∨ (E = kx_ise ∧ k = 2)))) (hm : mq_lay nb s9 x y r10 t2) : ∃ k b : Int32, r9 = some (.int k) ∧ r10 = some (.int b) ∧ t2 14 0 22 = k ∧ (k = 0 → t2 32 0 0 = b) ∧ rl_PT nb t2 t2 := by
  obtain ⟨b, hb⟩ := lm_lay hm
  refine lo_gen (nb2 := nb) (C := fun a sgc => cq_lay nb s x y (some (.int a)) sgc) (X := fun k => ∃ E : String, cx_lay nb s x y E ∧ ((E = kx_ioe ∧ k = 1) ∨ (E = kx_ise ∧ k = 2))) (M := fun b t2 => r10 = some (.int b) ∧ mq_lay nb s9 x y (some (.int b)) t2) hs ?_ ⟨b, hb, hb, by rw [← hb]; exact hm⟩ (fun b hm => lt_lay hm.2) (fun a b sgc hc hm h9 => rn_lay h9 hc hm.2) (fun a sgc hc => lc_lay hc) ?_
  · rcases hq with ⟨a, sgc, h1, h2, h3⟩ | ⟨k, E, h1, h2, h3, h4⟩
    · exact Or.inl ⟨a, sgc, h1, h2, h3, rfl⟩
    · exact Or.inr ⟨k, h1, h2, ⟨E, h3, h4⟩, rfl⟩
  · intro k b hX hm h9
    obtain ⟨E, hc, hk⟩ := hX
    have hx := rx_lay h9 hc hm.2
    rcases hk with ⟨rfl, rfl⟩ | ⟨rfl, rfl⟩
    · rcases hx with ⟨e, hx⟩ | ⟨e, hx⟩
      · exact ⟨by decide, hx⟩
      · exact absurd e (by decide)
    · rcases hx with ⟨e, hx⟩ | ⟨e, hx⟩
      · exact absurd e (by decide)
      · exact ⟨by decide, hx⟩

theorem lq_find {nb : Nat} {s s9 : kx_S} {x y : Int32} {r9 : Option Value} (hs : rl_PT nb s s) (hq : (∃ (a : Int32) (sgc : kx_S), r9 = some (.int 0) ∧ cq_find nb s x y (some (.int a)) sgc ∧ s9 = kx_up sgc 32 0 (upd (sgc 32 0) 0 a)) ∨ (∃ (k : Int32) (E : String), r9 = some (.int k) ∧ s9 = s ∧ cx_find nb s x y E ∧ ((E = kx_ioe ∧ k = 1) ∨ (E = kx_ise ∧ k = 2)))) : rl_PT nb s s9 ∧ ∃ k : Int32, r9 = some (.int k) := by
  rcases hq with ⟨a, sgc, h1, h2, h3⟩ | ⟨k, E, h1, h2, -⟩
  · exact ⟨by rw [h3]; exact rl_same ts_same_r (lo_same (lc_find h2)) hs, _, h1⟩
  · exact ⟨by rw [h2]; exact hs, _, h1⟩

theorem lp_find {nb : Nat} {s s9 t2 : kx_S} {x y : Int32} {r9 r10 : Option Value} (hs : rl_PT nb s s) (hq : (∃ (a : Int32) (sgc : kx_S), r9 = some (.int 0) ∧ cq_find nb s x y (some (.int a)) sgc ∧ s9 = kx_up sgc 32 0 (upd (sgc 32 0) 0 a)) ∨ (∃ (k : Int32) (E : String), r9 = some (.int k) ∧ s9 = s ∧ cx_find nb s x y E ∧ ((E = kx_ioe ∧ k = 1) ∨ (E = kx_ise ∧ k = 2)))) (hm : mq_find nb s9 x y r10 t2) : ∃ k b : Int32, r9 = some (.int k) ∧ r10 = some (.int b) ∧ t2 14 0 22 = k ∧ (k = 0 → t2 32 0 0 = b) ∧ rl_PT nb t2 t2 := by
  obtain ⟨b, hb⟩ := lm_find hm
  refine lo_gen (nb2 := nb) (C := fun a sgc => cq_find nb s x y (some (.int a)) sgc) (X := fun k => ∃ E : String, cx_find nb s x y E ∧ ((E = kx_ioe ∧ k = 1) ∨ (E = kx_ise ∧ k = 2))) (M := fun b t2 => r10 = some (.int b) ∧ mq_find nb s9 x y (some (.int b)) t2) hs ?_ ⟨b, hb, hb, by rw [← hb]; exact hm⟩ (fun b hm => lt_find hm.2) (fun a b sgc hc hm h9 => rn_find h9 hc hm.2) (fun a sgc hc => lc_find hc) ?_
  · rcases hq with ⟨a, sgc, h1, h2, h3⟩ | ⟨k, E, h1, h2, h3, h4⟩
    · exact Or.inl ⟨a, sgc, h1, h2, h3, rfl⟩
    · exact Or.inr ⟨k, h1, h2, ⟨E, h3, h4⟩, rfl⟩
  · intro k b hX hm h9
    obtain ⟨E, hc, hk⟩ := hX
    have hx := rx_find h9 hc hm.2
    rcases hk with ⟨rfl, rfl⟩ | ⟨rfl, rfl⟩
    · rcases hx with ⟨e, hx⟩ | ⟨e, hx⟩
      · exact ⟨by decide, hx⟩
      · exact absurd e (by decide)
    · rcases hx with ⟨e, hx⟩ | ⟨e, hx⟩
      · exact absurd e (by decide)
      · exact ⟨by decide, hx⟩

theorem lq_setDoor {nb : Nat} {s s9 : kx_S} {x y : Int32} {r9 : Option Value} (hs : rl_PT nb s s) (hq : (∃ (a : Int32) (sgc : kx_S), r9 = some (.int 0) ∧ cq_setDoor nb s x y (some (.int a)) sgc ∧ s9 = kx_up sgc 32 0 (upd (sgc 32 0) 0 a)) ∨ (∃ (k : Int32) (E : String), r9 = some (.int k) ∧ s9 = s ∧ cx_setDoor nb s x y E ∧ ((E = kx_ioe ∧ k = 1) ∨ (E = kx_iae ∧ k = 2) ∨ (E = kx_ise ∧ k = 3)))) : rl_PT nb s s9 ∧ ∃ k : Int32, r9 = some (.int k) := by
  rcases hq with ⟨a, sgc, h1, h2, h3⟩ | ⟨k, E, h1, h2, -⟩
  · exact ⟨by rw [h3]; exact rl_same ts_same_r (lo_same (lc_setDoor h2)) hs, _, h1⟩
  · exact ⟨by rw [h2]; exact hs, _, h1⟩

theorem lp_setDoor {nb : Nat} {s s9 t2 : kx_S} {x y : Int32} {r9 r10 : Option Value} (hs : rl_PT nb s s) (hq : (∃ (a : Int32) (sgc : kx_S), r9 = some (.int 0) ∧ cq_setDoor nb s x y (some (.int a)) sgc ∧ s9 = kx_up sgc 32 0 (upd (sgc 32 0) 0 a)) ∨ (∃ (k : Int32) (E : String), r9 = some (.int k) ∧ s9 = s ∧ cx_setDoor nb s x y E ∧ ((E = kx_ioe ∧ k = 1) ∨ (E = kx_iae ∧ k = 2) ∨ (E = kx_ise ∧ k = 3)))) (hm : mq_setDoor nb s9 x y r10 t2) : ∃ k b : Int32, r9 = some (.int k) ∧ r10 = some (.int b) ∧ t2 14 0 22 = k ∧ (k = 0 → t2 32 0 0 = b) ∧ rl_PT nb t2 t2 := by
  obtain ⟨b, hb⟩ := lm_setDoor hm
  refine lo_gen (nb2 := nb) (C := fun a sgc => cq_setDoor nb s x y (some (.int a)) sgc) (X := fun k => ∃ E : String, cx_setDoor nb s x y E ∧ ((E = kx_ioe ∧ k = 1) ∨ (E = kx_iae ∧ k = 2) ∨ (E = kx_ise ∧ k = 3))) (M := fun b t2 => r10 = some (.int b) ∧ mq_setDoor nb s9 x y (some (.int b)) t2) hs ?_ ⟨b, hb, hb, by rw [← hb]; exact hm⟩ (fun b hm => lt_setDoor hm.2) (fun a b sgc hc hm h9 => rn_setDoor h9 hc hm.2) (fun a sgc hc => lc_setDoor hc) ?_
  · rcases hq with ⟨a, sgc, h1, h2, h3⟩ | ⟨k, E, h1, h2, h3, h4⟩
    · exact Or.inl ⟨a, sgc, h1, h2, h3, rfl⟩
    · exact Or.inr ⟨k, h1, h2, ⟨E, h3, h4⟩, rfl⟩
  · intro k b hX hm h9
    obtain ⟨E, hc, hk⟩ := hX
    have hx := rx_setDoor h9 hc hm.2
    rcases hk with ⟨rfl, rfl⟩ | ⟨rfl, rfl⟩ | ⟨rfl, rfl⟩
    · rcases hx with ⟨e, hx⟩ | ⟨e, hx⟩ | ⟨e, hx⟩
      · exact ⟨by decide, hx⟩
      · exact absurd e (by decide)
      · exact absurd e (by decide)
    · rcases hx with ⟨e, hx⟩ | ⟨e, hx⟩ | ⟨e, hx⟩
      · exact absurd e (by decide)
      · exact ⟨by decide, hx⟩
      · exact absurd e (by decide)
    · rcases hx with ⟨e, hx⟩ | ⟨e, hx⟩ | ⟨e, hx⟩
      · exact absurd e (by decide)
      · exact absurd e (by decide)
      · exact ⟨by decide, hx⟩

theorem lq_keep {nb : Nat} {s s9 : kx_S} {x y : Int32} {r9 : Option Value} (hs : rl_PT nb s s) (hq : (∃ (a : Int32) (sgc : kx_S), r9 = some (.int 0) ∧ cq_keep nb s x y (some (.int a)) sgc ∧ s9 = kx_up sgc 32 0 (upd (sgc 32 0) 0 a)) ∨ (∃ (k : Int32) (E : String), r9 = some (.int k) ∧ s9 = s ∧ cx_keep nb s x y E ∧ ((E = kx_ioe ∧ k = 1) ∨ (E = kx_ise ∧ k = 2)))) : rl_PT nb s s9 ∧ ∃ k : Int32, r9 = some (.int k) := by
  rcases hq with ⟨a, sgc, h1, h2, h3⟩ | ⟨k, E, h1, h2, -⟩
  · exact ⟨by rw [h3]; exact rl_same ts_same_r (lo_same (lc_keep h2)) hs, _, h1⟩
  · exact ⟨by rw [h2]; exact hs, _, h1⟩

theorem lp_keep {nb : Nat} {s s9 t2 : kx_S} {x y : Int32} {r9 r10 : Option Value} (hs : rl_PT nb s s) (hq : (∃ (a : Int32) (sgc : kx_S), r9 = some (.int 0) ∧ cq_keep nb s x y (some (.int a)) sgc ∧ s9 = kx_up sgc 32 0 (upd (sgc 32 0) 0 a)) ∨ (∃ (k : Int32) (E : String), r9 = some (.int k) ∧ s9 = s ∧ cx_keep nb s x y E ∧ ((E = kx_ioe ∧ k = 1) ∨ (E = kx_ise ∧ k = 2)))) (hm : mq_keep nb s9 x y r10 t2) : ∃ k b : Int32, r9 = some (.int k) ∧ r10 = some (.int b) ∧ t2 14 0 22 = k ∧ (k = 0 → t2 32 0 0 = b) ∧ rl_PT nb t2 t2 := by
  obtain ⟨b, hb⟩ := lm_keep hm
  refine lo_gen (nb2 := nb) (C := fun a sgc => cq_keep nb s x y (some (.int a)) sgc) (X := fun k => ∃ E : String, cx_keep nb s x y E ∧ ((E = kx_ioe ∧ k = 1) ∨ (E = kx_ise ∧ k = 2))) (M := fun b t2 => r10 = some (.int b) ∧ mq_keep nb s9 x y (some (.int b)) t2) hs ?_ ⟨b, hb, hb, by rw [← hb]; exact hm⟩ (fun b hm => lt_keep hm.2) (fun a b sgc hc hm h9 => rn_keep h9 hc hm.2) (fun a sgc hc => lc_keep hc) ?_
  · rcases hq with ⟨a, sgc, h1, h2, h3⟩ | ⟨k, E, h1, h2, h3, h4⟩
    · exact Or.inl ⟨a, sgc, h1, h2, h3, rfl⟩
    · exact Or.inr ⟨k, h1, h2, ⟨E, h3, h4⟩, rfl⟩
  · intro k b hX hm h9
    obtain ⟨E, hc, hk⟩ := hX
    have hx := rx_keep h9 hc hm.2
    rcases hk with ⟨rfl, rfl⟩ | ⟨rfl, rfl⟩
    · rcases hx with ⟨e, hx⟩ | ⟨e, hx⟩
      · exact ⟨by decide, hx⟩
      · exact absurd e (by decide)
    · rcases hx with ⟨e, hx⟩ | ⟨e, hx⟩
      · exact absurd e (by decide)
      · exact ⟨by decide, hx⟩

theorem lq_open {nb : Nat} {s s9 : kx_S} {x y : Int32} {r9 : Option Value} (hs : rl_PT nb s s) (hq : (∃ (a : Int32) (sgc : kx_S), r9 = some (.int 0) ∧ cq_open nb s x y (some (.int a)) sgc ∧ s9 = kx_up sgc 32 0 (upd (sgc 32 0) 0 a)) ∨ (∃ (k : Int32) (E : String), r9 = some (.int k) ∧ s9 = s ∧ cx_open nb s x y E ∧ ((E = kx_ioe ∧ k = 1) ∨ (E = kx_iae ∧ k = 2) ∨ (E = kx_ise ∧ k = 3)))) : rl_PT nb s s9 ∧ ∃ k : Int32, r9 = some (.int k) := by
  rcases hq with ⟨a, sgc, h1, h2, h3⟩ | ⟨k, E, h1, h2, -⟩
  · exact ⟨by rw [h3]; exact rl_same ts_same_r (lo_same (lc_open h2)) hs, _, h1⟩
  · exact ⟨by rw [h2]; exact hs, _, h1⟩

theorem lp_open {nb : Nat} {s s9 t2 : kx_S} {x y : Int32} {r9 r10 : Option Value} (hs : rl_PT nb s s) (hq : (∃ (a : Int32) (sgc : kx_S), r9 = some (.int 0) ∧ cq_open nb s x y (some (.int a)) sgc ∧ s9 = kx_up sgc 32 0 (upd (sgc 32 0) 0 a)) ∨ (∃ (k : Int32) (E : String), r9 = some (.int k) ∧ s9 = s ∧ cx_open nb s x y E ∧ ((E = kx_ioe ∧ k = 1) ∨ (E = kx_iae ∧ k = 2) ∨ (E = kx_ise ∧ k = 3)))) (hm : mq_open nb s9 x y r10 t2) : ∃ k b : Int32, r9 = some (.int k) ∧ r10 = some (.int b) ∧ t2 14 0 22 = k ∧ (k = 0 → t2 32 0 0 = b) ∧ rl_PT nb t2 t2 := by
  obtain ⟨b, hb⟩ := lm_open hm
  refine lo_gen (nb2 := nb) (C := fun a sgc => cq_open nb s x y (some (.int a)) sgc) (X := fun k => ∃ E : String, cx_open nb s x y E ∧ ((E = kx_ioe ∧ k = 1) ∨ (E = kx_iae ∧ k = 2) ∨ (E = kx_ise ∧ k = 3))) (M := fun b t2 => r10 = some (.int b) ∧ mq_open nb s9 x y (some (.int b)) t2) hs ?_ ⟨b, hb, hb, by rw [← hb]; exact hm⟩ (fun b hm => lt_open hm.2) (fun a b sgc hc hm h9 => rn_open h9 hc hm.2) (fun a sgc hc => lc_open hc) ?_
  · rcases hq with ⟨a, sgc, h1, h2, h3⟩ | ⟨k, E, h1, h2, h3, h4⟩
    · exact Or.inl ⟨a, sgc, h1, h2, h3, rfl⟩
    · exact Or.inr ⟨k, h1, h2, ⟨E, h3, h4⟩, rfl⟩
  · intro k b hX hm h9
    obtain ⟨E, hc, hk⟩ := hX
    have hx := rx_open h9 hc hm.2
    rcases hk with ⟨rfl, rfl⟩ | ⟨rfl, rfl⟩ | ⟨rfl, rfl⟩
    · rcases hx with ⟨e, hx⟩ | ⟨e, hx⟩ | ⟨e, hx⟩
      · exact ⟨by decide, hx⟩
      · exact absurd e (by decide)
      · exact absurd e (by decide)
    · rcases hx with ⟨e, hx⟩ | ⟨e, hx⟩ | ⟨e, hx⟩
      · exact absurd e (by decide)
      · exact ⟨by decide, hx⟩
      · exact absurd e (by decide)
    · rcases hx with ⟨e, hx⟩ | ⟨e, hx⟩ | ⟨e, hx⟩
      · exact absurd e (by decide)
      · exact absurd e (by decide)
      · exact ⟨by decide, hx⟩

theorem lq_jam {nb : Nat} {s s9 : kx_S} {x z : Int32} {r9 : Option Value} (hs : rl_PT nb s s) (hq : (∃ (a : Int32) (sgc : kx_S), r9 = some (.int 0) ∧ cq_jam nb s x z (some (.int a)) sgc ∧ s9 = kx_up sgc 32 0 (upd (sgc 32 0) 0 a)) ∨ (∃ (k : Int32) (E : String), r9 = some (.int k) ∧ s9 = s ∧ cx_jam nb s x z E ∧ ((E = kx_ioe ∧ k = 1)))) : rl_PT nb s s9 ∧ ∃ k : Int32, r9 = some (.int k) := by
  rcases hq with ⟨a, sgc, h1, h2, h3⟩ | ⟨k, E, h1, h2, -⟩
  · exact ⟨by rw [h3]; exact rl_same ts_same_r (lo_same (lc_jam h2)) hs, _, h1⟩
  · exact ⟨by rw [h2]; exact hs, _, h1⟩

theorem lp_jam {nb : Nat} {s s9 t2 : kx_S} {x z : Int32} (hz : tw_01 z) {r9 r10 : Option Value} (hs : rl_PT nb s s) (hq : (∃ (a : Int32) (sgc : kx_S), r9 = some (.int 0) ∧ cq_jam nb s x z (some (.int a)) sgc ∧ s9 = kx_up sgc 32 0 (upd (sgc 32 0) 0 a)) ∨ (∃ (k : Int32) (E : String), r9 = some (.int k) ∧ s9 = s ∧ cx_jam nb s x z E ∧ ((E = kx_ioe ∧ k = 1)))) (hm : mq_jam nb s9 x z r10 t2) : ∃ k b : Int32, r9 = some (.int k) ∧ r10 = some (.int b) ∧ t2 14 0 22 = k ∧ (k = 0 → t2 32 0 0 = b) ∧ rl_PT nb t2 t2 := by
  obtain ⟨b, hb⟩ := lm_jam hm
  refine lo_gen (nb2 := nb) (C := fun a sgc => cq_jam nb s x z (some (.int a)) sgc) (X := fun k => ∃ E : String, cx_jam nb s x z E ∧ ((E = kx_ioe ∧ k = 1))) (M := fun b t2 => r10 = some (.int b) ∧ mq_jam nb s9 x z (some (.int b)) t2) hs ?_ ⟨b, hb, hb, by rw [← hb]; exact hm⟩ (fun b hm => lt_jam hm.2) (fun a b sgc hc hm h9 => rn_jam hz h9 hc hm.2) (fun a sgc hc => lc_jam hc) ?_
  · rcases hq with ⟨a, sgc, h1, h2, h3⟩ | ⟨k, E, h1, h2, h3, h4⟩
    · exact Or.inl ⟨a, sgc, h1, h2, h3, rfl⟩
    · exact Or.inr ⟨k, h1, h2, ⟨E, h3, h4⟩, rfl⟩
  · intro k b hX hm h9
    obtain ⟨E, hc, hk⟩ := hX
    have hx := rx_jam h9 hc hm.2
    obtain ⟨-, rfl⟩ := hk
    exact ⟨by decide, hx.2⟩

theorem lq_claim {nb : Nat} {s s9 : kx_S} {x : Int32} {r9 : Option Value} (hs : rl_PT nb s s) (hq : (∃ (a : Int32) (sgc : kx_S), r9 = some (.int 0) ∧ cq_claim nb s x (some (.int a)) sgc ∧ s9 = kx_up sgc 32 0 (upd (sgc 32 0) 0 a)) ∨ (∃ (k : Int32) (E : String), r9 = some (.int k) ∧ s9 = s ∧ cx_claim nb s x E ∧ ((E = kx_ioe ∧ k = 1) ∨ (E = kx_ise ∧ k = 2)))) : rl_PT nb s s9 ∧ ∃ k : Int32, r9 = some (.int k) := by
  rcases hq with ⟨a, sgc, h1, h2, h3⟩ | ⟨k, E, h1, h2, -⟩
  · exact ⟨by rw [h3]; exact rl_same ts_same_r (lo_same (lc_claim h2)) hs, _, h1⟩
  · exact ⟨by rw [h2]; exact hs, _, h1⟩

theorem lp_claim {nb : Nat} {s s9 t2 : kx_S} {x : Int32} {r9 r10 : Option Value} (hs : rl_PT nb s s) (hq : (∃ (a : Int32) (sgc : kx_S), r9 = some (.int 0) ∧ cq_claim nb s x (some (.int a)) sgc ∧ s9 = kx_up sgc 32 0 (upd (sgc 32 0) 0 a)) ∨ (∃ (k : Int32) (E : String), r9 = some (.int k) ∧ s9 = s ∧ cx_claim nb s x E ∧ ((E = kx_ioe ∧ k = 1) ∨ (E = kx_ise ∧ k = 2)))) (hm : mq_claim nb s9 x r10 t2) : ∃ k b : Int32, r9 = some (.int k) ∧ r10 = some (.int b) ∧ t2 14 0 22 = k ∧ (k = 0 → t2 32 0 0 = b) ∧ rl_PT nb t2 t2 := by
  obtain ⟨b, hb⟩ := lm_claim hm
  refine lo_gen (nb2 := nb) (C := fun a sgc => cq_claim nb s x (some (.int a)) sgc) (X := fun k => ∃ E : String, cx_claim nb s x E ∧ ((E = kx_ioe ∧ k = 1) ∨ (E = kx_ise ∧ k = 2))) (M := fun b t2 => r10 = some (.int b) ∧ mq_claim nb s9 x (some (.int b)) t2) hs ?_ ⟨b, hb, hb, by rw [← hb]; exact hm⟩ (fun b hm => lt_claim hm.2) (fun a b sgc hc hm h9 => rn_claim h9 hc hm.2) (fun a sgc hc => lc_claim hc) ?_
  · rcases hq with ⟨a, sgc, h1, h2, h3⟩ | ⟨k, E, h1, h2, h3, h4⟩
    · exact Or.inl ⟨a, sgc, h1, h2, h3, rfl⟩
    · exact Or.inr ⟨k, h1, h2, ⟨E, h3, h4⟩, rfl⟩
  · intro k b hX hm h9
    obtain ⟨E, hc, hk⟩ := hX
    have hx := rx_claim h9 hc hm.2
    rcases hk with ⟨rfl, rfl⟩ | ⟨rfl, rfl⟩
    · rcases hx with ⟨e, hx⟩ | ⟨e, hx⟩
      · exact ⟨by decide, hx⟩
      · exact absurd e (by decide)
    · rcases hx with ⟨e, hx⟩ | ⟨e, hx⟩
      · exact absurd e (by decide)
      · exact ⟨by decide, hx⟩

theorem lq_scans {nb : Nat} {s s9 : kx_S} {x : Int32} {r9 : Option Value} (hs : rl_PT nb s s) (hq : (∃ (a : Int32) (sgc : kx_S), r9 = some (.int 0) ∧ cq_scans nb s x (some (.int a)) sgc ∧ s9 = kx_up sgc 32 0 (upd (sgc 32 0) 0 a)) ∨ (∃ (k : Int32) (E : String), r9 = some (.int k) ∧ s9 = s ∧ cx_scans nb s x E ∧ ((E = kx_ioe ∧ k = 1)))) : rl_PT nb s s9 ∧ ∃ k : Int32, r9 = some (.int k) := by
  rcases hq with ⟨a, sgc, h1, h2, h3⟩ | ⟨k, E, h1, h2, -⟩
  · exact ⟨by rw [h3]; exact rl_same ts_same_r (lo_same (lc_scans h2)) hs, _, h1⟩
  · exact ⟨by rw [h2]; exact hs, _, h1⟩

theorem lp_scans {nb : Nat} {s s9 t2 : kx_S} {x : Int32} {r9 r10 : Option Value} (hs : rl_PT nb s s) (hq : (∃ (a : Int32) (sgc : kx_S), r9 = some (.int 0) ∧ cq_scans nb s x (some (.int a)) sgc ∧ s9 = kx_up sgc 32 0 (upd (sgc 32 0) 0 a)) ∨ (∃ (k : Int32) (E : String), r9 = some (.int k) ∧ s9 = s ∧ cx_scans nb s x E ∧ ((E = kx_ioe ∧ k = 1)))) (hm : mq_scans nb s9 x r10 t2) : ∃ k b : Int32, r9 = some (.int k) ∧ r10 = some (.int b) ∧ t2 14 0 22 = k ∧ (k = 0 → t2 32 0 0 = b) ∧ rl_PT nb t2 t2 := by
  obtain ⟨b, hb⟩ := lm_scans hm
  refine lo_gen (nb2 := nb) (C := fun a sgc => cq_scans nb s x (some (.int a)) sgc) (X := fun k => ∃ E : String, cx_scans nb s x E ∧ ((E = kx_ioe ∧ k = 1))) (M := fun b t2 => r10 = some (.int b) ∧ mq_scans nb s9 x (some (.int b)) t2) hs ?_ ⟨b, hb, hb, by rw [← hb]; exact hm⟩ (fun b hm => lt_scans hm.2) (fun a b sgc hc hm h9 => by have z := rn_scans h9 hc hm.2; exact ⟨z.1, z.2.1.2.2, by obtain ⟨-, z2, z3⟩ := z; rw [z3]; exact rl_same ts_same_r (tm_Q_same z2) h9⟩) (fun a sgc hc => lc_scans hc) ?_
  · rcases hq with ⟨a, sgc, h1, h2, h3⟩ | ⟨k, E, h1, h2, h3, h4⟩
    · exact Or.inl ⟨a, sgc, h1, h2, h3, rfl⟩
    · exact Or.inr ⟨k, h1, h2, ⟨E, h3, h4⟩, rfl⟩
  · intro k b hX hm h9
    obtain ⟨E, hc, hk⟩ := hX
    have hx := rx_scans h9 hc hm.2
    obtain ⟨-, rfl⟩ := hk
    exact ⟨by decide, hx.2⟩

theorem lq_story {nb : Nat} {s s9 : kx_S} {x : Int32} {r9 : Option Value} (hs : rl_PT nb s s) (hq : (∃ (a : Int32) (sgc : kx_S), r9 = some (.int 0) ∧ cq_story nb s x (some (.int a)) sgc ∧ s9 = kx_up sgc 32 0 (upd (sgc 32 0) 0 a)) ∨ (∃ (k : Int32) (E : String), r9 = some (.int k) ∧ s9 = s ∧ cx_story nb s x E ∧ ((E = kx_ioe ∧ k = 1)))) : rl_PT nb s s9 ∧ ∃ k : Int32, r9 = some (.int k) := by
  rcases hq with ⟨a, sgc, h1, h2, h3⟩ | ⟨k, E, h1, h2, -⟩
  · exact ⟨by rw [h3]; exact rl_same ts_same_r (lo_same (lc_story h2)) hs, _, h1⟩
  · exact ⟨by rw [h2]; exact hs, _, h1⟩

theorem lp_story {nb : Nat} {s s9 t2 : kx_S} {x : Int32} {r9 r10 : Option Value} (hs : rl_PT nb s s) (hq : (∃ (a : Int32) (sgc : kx_S), r9 = some (.int 0) ∧ cq_story nb s x (some (.int a)) sgc ∧ s9 = kx_up sgc 32 0 (upd (sgc 32 0) 0 a)) ∨ (∃ (k : Int32) (E : String), r9 = some (.int k) ∧ s9 = s ∧ cx_story nb s x E ∧ ((E = kx_ioe ∧ k = 1)))) (hm : mq_story nb s9 x r10 t2) : ∃ k b : Int32, r9 = some (.int k) ∧ r10 = some (.int b) ∧ t2 14 0 22 = k ∧ (k = 0 → t2 32 0 0 = b) ∧ rl_PT nb t2 t2 := by
  obtain ⟨b, hb⟩ := lm_story hm
  refine lo_gen (nb2 := nb) (C := fun a sgc => cq_story nb s x (some (.int a)) sgc) (X := fun k => ∃ E : String, cx_story nb s x E ∧ ((E = kx_ioe ∧ k = 1))) (M := fun b t2 => r10 = some (.int b) ∧ mq_story nb s9 x (some (.int b)) t2) hs ?_ ⟨b, hb, hb, by rw [← hb]; exact hm⟩ (fun b hm => lt_story hm.2) (fun a b sgc hc hm h9 => by have z := rn_story h9 hc hm.2; exact ⟨z.1, z.2.1.2.2, by obtain ⟨-, z2, z3⟩ := z; rw [z3]; exact rl_same ts_same_r (tm_Q_same z2) h9⟩) (fun a sgc hc => lc_story hc) ?_
  · rcases hq with ⟨a, sgc, h1, h2, h3⟩ | ⟨k, E, h1, h2, h3, h4⟩
    · exact Or.inl ⟨a, sgc, h1, h2, h3, rfl⟩
    · exact Or.inr ⟨k, h1, h2, ⟨E, h3, h4⟩, rfl⟩
  · intro k b hX hm h9
    obtain ⟨E, hc, hk⟩ := hX
    have hx := rx_story h9 hc hm.2
    obtain ⟨-, rfl⟩ := hk
    exact ⟨by decide, hx.2⟩

theorem lq_storyOfAll {nb : Nat} {s s9 : kx_S} {x : Int32} {r9 : Option Value} (hs : rl_PT nb s s) (hq : (∃ (a : Int32) (sgc : kx_S), r9 = some (.int 0) ∧ cq_storyOfAll nb s x (some (.int a)) sgc ∧ s9 = kx_up sgc 32 0 (upd (sgc 32 0) 0 a)) ∨ (∃ (k : Int32) (E : String), r9 = some (.int k) ∧ s9 = s ∧ cx_storyOfAll nb s x E ∧ ((E = kx_ioe ∧ k = 1)))) : rl_PT nb s s9 ∧ ∃ k : Int32, r9 = some (.int k) := by
  rcases hq with ⟨a, sgc, h1, h2, h3⟩ | ⟨k, E, h1, h2, -⟩
  · exact ⟨by rw [h3]; exact rl_same ts_same_r (lo_same (lc_storyOfAll h2)) hs, _, h1⟩
  · exact ⟨by rw [h2]; exact hs, _, h1⟩

theorem lp_storyOfAll {nb : Nat} {s s9 t2 : kx_S} {x : Int32} {r9 r10 : Option Value} (hs : rl_PT nb s s) (hq : (∃ (a : Int32) (sgc : kx_S), r9 = some (.int 0) ∧ cq_storyOfAll nb s x (some (.int a)) sgc ∧ s9 = kx_up sgc 32 0 (upd (sgc 32 0) 0 a)) ∨ (∃ (k : Int32) (E : String), r9 = some (.int k) ∧ s9 = s ∧ cx_storyOfAll nb s x E ∧ ((E = kx_ioe ∧ k = 1)))) (hm : mq_storyOfAll nb s9 x r10 t2) : ∃ k b : Int32, r9 = some (.int k) ∧ r10 = some (.int b) ∧ t2 14 0 22 = k ∧ (k = 0 → t2 32 0 0 = b) ∧ rl_PT nb t2 t2 := by
  obtain ⟨b, hb⟩ := lm_storyOfAll hm
  refine lo_gen (nb2 := nb) (C := fun a sgc => cq_storyOfAll nb s x (some (.int a)) sgc) (X := fun k => ∃ E : String, cx_storyOfAll nb s x E ∧ ((E = kx_ioe ∧ k = 1))) (M := fun b t2 => r10 = some (.int b) ∧ mq_storyOfAll nb s9 x (some (.int b)) t2) hs ?_ ⟨b, hb, hb, by rw [← hb]; exact hm⟩ (fun b hm => lt_storyOfAll hm.2) (fun a b sgc hc hm h9 => by have z := rn_storyOfAll h9 hc hm.2; exact ⟨z.1, z.2.1.2.2, by obtain ⟨-, z2, f, z3⟩ := z; rw [z3]; exact rl_same (fun q m _ h2 _ _ _ => kx_up_q h2) (tm_Q_same z2) h9⟩) (fun a sgc hc => lc_storyOfAll hc) ?_
  · rcases hq with ⟨a, sgc, h1, h2, h3⟩ | ⟨k, E, h1, h2, h3, h4⟩
    · exact Or.inl ⟨a, sgc, h1, h2, h3, rfl⟩
    · exact Or.inr ⟨k, h1, h2, ⟨E, h3, h4⟩, rfl⟩
  · intro k b hX hm h9
    obtain ⟨E, hc, hk⟩ := hX
    have hx := rx_storyOfAll h9 hc hm.2
    obtain ⟨-, rfl⟩ := hk
    exact ⟨by decide, hx.2⟩

theorem lq_placeOf {nb : Nat} {s s9 : kx_S} {x : Int32} {r9 : Option Value} (hs : rl_PT nb s s) (hq : (∃ (a : Int32) (sgc : kx_S), r9 = some (.int 0) ∧ cq_placeOf nb s x (some (.int a)) sgc ∧ s9 = kx_up sgc 32 0 (upd (sgc 32 0) 0 a)) ∨ (∃ (k : Int32) (E : String), r9 = some (.int k) ∧ s9 = s ∧ cx_placeOf nb s x E ∧ ((E = kx_ioe ∧ k = 1)))) : rl_PT nb s s9 ∧ ∃ k : Int32, r9 = some (.int k) := by
  rcases hq with ⟨a, sgc, h1, h2, h3⟩ | ⟨k, E, h1, h2, -⟩
  · exact ⟨by rw [h3]; exact rl_same ts_same_r (lo_same (lc_placeOf h2)) hs, _, h1⟩
  · exact ⟨by rw [h2]; exact hs, _, h1⟩

theorem lp_placeOf {nb : Nat} {s s9 t2 : kx_S} {x : Int32} {r9 r10 : Option Value} (hs : rl_PT nb s s) (hq : (∃ (a : Int32) (sgc : kx_S), r9 = some (.int 0) ∧ cq_placeOf nb s x (some (.int a)) sgc ∧ s9 = kx_up sgc 32 0 (upd (sgc 32 0) 0 a)) ∨ (∃ (k : Int32) (E : String), r9 = some (.int k) ∧ s9 = s ∧ cx_placeOf nb s x E ∧ ((E = kx_ioe ∧ k = 1)))) (hm : mq_placeOf nb s9 x r10 t2) : ∃ k b : Int32, r9 = some (.int k) ∧ r10 = some (.int b) ∧ t2 14 0 22 = k ∧ (k = 0 → t2 32 0 0 = b) ∧ rl_PT nb t2 t2 := by
  obtain ⟨b, hb⟩ := lm_placeOf hm
  refine lo_gen (nb2 := nb) (C := fun a sgc => cq_placeOf nb s x (some (.int a)) sgc) (X := fun k => ∃ E : String, cx_placeOf nb s x E ∧ ((E = kx_ioe ∧ k = 1))) (M := fun b t2 => r10 = some (.int b) ∧ mq_placeOf nb s9 x (some (.int b)) t2) hs ?_ ⟨b, hb, hb, by rw [← hb]; exact hm⟩ (fun b hm => lt_placeOf hm.2) (fun a b sgc hc hm h9 => by have z := rn_placeOf h9 hc hm.2; exact ⟨z.1, z.2.1.2.2, by obtain ⟨-, z2, z3⟩ := z; rw [z3]; exact rl_same ts_same_r (tm_Q_same z2) h9⟩) (fun a sgc hc => lc_placeOf hc) ?_
  · rcases hq with ⟨a, sgc, h1, h2, h3⟩ | ⟨k, E, h1, h2, h3, h4⟩
    · exact Or.inl ⟨a, sgc, h1, h2, h3, rfl⟩
    · exact Or.inr ⟨k, h1, h2, ⟨E, h3, h4⟩, rfl⟩
  · intro k b hX hm h9
    obtain ⟨E, hc, hk⟩ := hX
    have hx := rx_placeOf h9 hc hm.2
    obtain ⟨-, rfl⟩ := hk
    exact ⟨by decide, hx.2⟩

theorem lq_lies {nb : Nat} {s s9 : kx_S} {x : Int32} {r9 : Option Value} (hs : rl_PT nb s s) (hq : (∃ (a : Int32) (sgc : kx_S), r9 = some (.int 0) ∧ cq_lies nb s x (some (.int a)) sgc ∧ s9 = kx_up sgc 32 0 (upd (sgc 32 0) 0 a)) ∨ (∃ (k : Int32) (E : String), r9 = some (.int k) ∧ s9 = s ∧ cx_lies nb s x E ∧ ((E = kx_ioe ∧ k = 1)))) : rl_PT nb s s9 ∧ ∃ k : Int32, r9 = some (.int k) := by
  rcases hq with ⟨a, sgc, h1, h2, h3⟩ | ⟨k, E, h1, h2, -⟩
  · exact ⟨by rw [h3]; exact rl_same ts_same_r (lo_same (lc_lies h2)) hs, _, h1⟩
  · exact ⟨by rw [h2]; exact hs, _, h1⟩

theorem lp_lies {nb : Nat} {s s9 t2 : kx_S} {x : Int32} {r9 r10 : Option Value} (hs : rl_PT nb s s) (hq : (∃ (a : Int32) (sgc : kx_S), r9 = some (.int 0) ∧ cq_lies nb s x (some (.int a)) sgc ∧ s9 = kx_up sgc 32 0 (upd (sgc 32 0) 0 a)) ∨ (∃ (k : Int32) (E : String), r9 = some (.int k) ∧ s9 = s ∧ cx_lies nb s x E ∧ ((E = kx_ioe ∧ k = 1)))) (hm : mq_lies nb s9 x r10 t2) : ∃ k b : Int32, r9 = some (.int k) ∧ r10 = some (.int b) ∧ t2 14 0 22 = k ∧ (k = 0 → t2 32 0 0 = b) ∧ rl_PT nb t2 t2 := by
  obtain ⟨b, hb⟩ := lm_lies hm
  refine lo_gen (nb2 := nb) (C := fun a sgc => cq_lies nb s x (some (.int a)) sgc) (X := fun k => ∃ E : String, cx_lies nb s x E ∧ ((E = kx_ioe ∧ k = 1))) (M := fun b t2 => r10 = some (.int b) ∧ mq_lies nb s9 x (some (.int b)) t2) hs ?_ ⟨b, hb, hb, by rw [← hb]; exact hm⟩ (fun b hm => lt_lies hm.2) (fun a b sgc hc hm h9 => by have z := rn_lies h9 hc hm.2; exact ⟨z.1, z.2.1.2.2, by obtain ⟨-, z2, z3⟩ := z; rw [z3]; exact rl_same ts_same_r (tm_Q_same z2) h9⟩) (fun a sgc hc => lc_lies hc) ?_
  · rcases hq with ⟨a, sgc, h1, h2, h3⟩ | ⟨k, E, h1, h2, h3, h4⟩
    · exact Or.inl ⟨a, sgc, h1, h2, h3, rfl⟩
    · exact Or.inr ⟨k, h1, h2, ⟨E, h3, h4⟩, rfl⟩
  · intro k b hX hm h9
    obtain ⟨E, hc, hk⟩ := hX
    have hx := rx_lies h9 hc hm.2
    obtain ⟨-, rfl⟩ := hk
    exact ⟨by decide, hx.2⟩

theorem lq_hasFee {nb : Nat} {s s9 : kx_S} {x : Int32} {r9 : Option Value} (hs : rl_PT nb s s) (hq : (∃ (a : Int32) (sgc : kx_S), r9 = some (.int 0) ∧ cq_hasFee nb s x (some (.int a)) sgc ∧ s9 = kx_up sgc 32 0 (upd (sgc 32 0) 0 a)) ∨ (∃ (k : Int32) (E : String), r9 = some (.int k) ∧ s9 = s ∧ cx_hasFee nb s x E ∧ ((E = kx_ioe ∧ k = 1)))) : rl_PT nb s s9 ∧ ∃ k : Int32, r9 = some (.int k) := by
  rcases hq with ⟨a, sgc, h1, h2, h3⟩ | ⟨k, E, h1, h2, -⟩
  · exact ⟨by rw [h3]; exact rl_same ts_same_r (lo_same (lc_hasFee h2)) hs, _, h1⟩
  · exact ⟨by rw [h2]; exact hs, _, h1⟩

theorem lp_hasFee {nb : Nat} {s s9 t2 : kx_S} {x : Int32} {r9 r10 : Option Value} (hs : rl_PT nb s s) (hq : (∃ (a : Int32) (sgc : kx_S), r9 = some (.int 0) ∧ cq_hasFee nb s x (some (.int a)) sgc ∧ s9 = kx_up sgc 32 0 (upd (sgc 32 0) 0 a)) ∨ (∃ (k : Int32) (E : String), r9 = some (.int k) ∧ s9 = s ∧ cx_hasFee nb s x E ∧ ((E = kx_ioe ∧ k = 1)))) (hm : mq_hasFee nb s9 x r10 t2) : ∃ k b : Int32, r9 = some (.int k) ∧ r10 = some (.int b) ∧ t2 14 0 22 = k ∧ (k = 0 → t2 32 0 0 = b) ∧ rl_PT nb t2 t2 := by
  obtain ⟨b, hb⟩ := lm_hasFee hm
  refine lo_gen (nb2 := nb) (C := fun a sgc => cq_hasFee nb s x (some (.int a)) sgc) (X := fun k => ∃ E : String, cx_hasFee nb s x E ∧ ((E = kx_ioe ∧ k = 1))) (M := fun b t2 => r10 = some (.int b) ∧ mq_hasFee nb s9 x (some (.int b)) t2) hs ?_ ⟨b, hb, hb, by rw [← hb]; exact hm⟩ (fun b hm => lt_hasFee hm.2) (fun a b sgc hc hm h9 => by have z := rn_hasFee h9 hc hm.2; exact ⟨z.1, z.2.1.2.2, by obtain ⟨-, z2, z3⟩ := z; rw [z3]; exact rl_same ts_same_r (tm_Q_same z2) h9⟩) (fun a sgc hc => lc_hasFee hc) ?_
  · rcases hq with ⟨a, sgc, h1, h2, h3⟩ | ⟨k, E, h1, h2, h3, h4⟩
    · exact Or.inl ⟨a, sgc, h1, h2, h3, rfl⟩
    · exact Or.inr ⟨k, h1, h2, ⟨E, h3, h4⟩, rfl⟩
  · intro k b hX hm h9
    obtain ⟨E, hc, hk⟩ := hX
    have hx := rx_hasFee h9 hc hm.2
    obtain ⟨-, rfl⟩ := hk
    exact ⟨by decide, hx.2⟩

theorem lq_isInsured {nb : Nat} {s s9 : kx_S} {x : Int32} {r9 : Option Value} (hs : rl_PT nb s s) (hq : (∃ (a : Int32) (sgc : kx_S), r9 = some (.int 0) ∧ cq_isInsured nb s x (some (.int a)) sgc ∧ s9 = kx_up sgc 32 0 (upd (sgc 32 0) 0 a)) ∨ (∃ (k : Int32) (E : String), r9 = some (.int k) ∧ s9 = s ∧ cx_isInsured nb s x E ∧ ((E = kx_ioe ∧ k = 1)))) : rl_PT nb s s9 ∧ ∃ k : Int32, r9 = some (.int k) := by
  rcases hq with ⟨a, sgc, h1, h2, h3⟩ | ⟨k, E, h1, h2, -⟩
  · exact ⟨by rw [h3]; exact rl_same ts_same_r (lo_same (lc_isInsured h2)) hs, _, h1⟩
  · exact ⟨by rw [h2]; exact hs, _, h1⟩

theorem lp_isInsured {nb : Nat} {s s9 t2 : kx_S} {x : Int32} {r9 r10 : Option Value} (hs : rl_PT nb s s) (hq : (∃ (a : Int32) (sgc : kx_S), r9 = some (.int 0) ∧ cq_isInsured nb s x (some (.int a)) sgc ∧ s9 = kx_up sgc 32 0 (upd (sgc 32 0) 0 a)) ∨ (∃ (k : Int32) (E : String), r9 = some (.int k) ∧ s9 = s ∧ cx_isInsured nb s x E ∧ ((E = kx_ioe ∧ k = 1)))) (hm : mq_isInsured nb s9 x r10 t2) : ∃ k b : Int32, r9 = some (.int k) ∧ r10 = some (.int b) ∧ t2 14 0 22 = k ∧ (k = 0 → t2 32 0 0 = b) ∧ rl_PT nb t2 t2 := by
  obtain ⟨b, hb⟩ := lm_isInsured hm
  refine lo_gen (nb2 := nb) (C := fun a sgc => cq_isInsured nb s x (some (.int a)) sgc) (X := fun k => ∃ E : String, cx_isInsured nb s x E ∧ ((E = kx_ioe ∧ k = 1))) (M := fun b t2 => r10 = some (.int b) ∧ mq_isInsured nb s9 x (some (.int b)) t2) hs ?_ ⟨b, hb, hb, by rw [← hb]; exact hm⟩ (fun b hm => lt_isInsured hm.2) (fun a b sgc hc hm h9 => by have z := rn_isInsured h9 hc hm.2; exact ⟨z.1, z.2.1.2.2, by obtain ⟨-, z2, z3⟩ := z; rw [z3]; exact rl_same ts_same_r (tm_Q_same z2) h9⟩) (fun a sgc hc => lc_isInsured hc) ?_
  · rcases hq with ⟨a, sgc, h1, h2, h3⟩ | ⟨k, E, h1, h2, h3, h4⟩
    · exact Or.inl ⟨a, sgc, h1, h2, h3, rfl⟩
    · exact Or.inr ⟨k, h1, h2, ⟨E, h3, h4⟩, rfl⟩
  · intro k b hX hm h9
    obtain ⟨E, hc, hk⟩ := hX
    have hx := rx_isInsured h9 hc hm.2
    obtain ⟨-, rfl⟩ := hk
    exact ⟨by decide, hx.2⟩

theorem lq_fees {nb : Nat} {s s9 : kx_S} {x : Int32} {r9 : Option Value} (hs : rl_PT nb s s) (hq : (∃ (a : Int32) (sgc : kx_S), r9 = some (.int 0) ∧ cq_fees nb s x (some (.int a)) sgc ∧ s9 = kx_up sgc 32 0 (upd (sgc 32 0) 0 a)) ∨ (∃ (k : Int32) (E : String), r9 = some (.int k) ∧ s9 = s ∧ cx_fees nb s x E ∧ ((E = kx_ioe ∧ k = 1)))) : rl_PT nb s s9 ∧ ∃ k : Int32, r9 = some (.int k) := by
  rcases hq with ⟨a, sgc, h1, h2, h3⟩ | ⟨k, E, h1, h2, -⟩
  · exact ⟨by rw [h3]; exact rl_same ts_same_r (lo_same (lc_fees h2)) hs, _, h1⟩
  · exact ⟨by rw [h2]; exact hs, _, h1⟩

theorem lp_fees {nb : Nat} {s s9 t2 : kx_S} {x : Int32} {r9 r10 : Option Value} (hs : rl_PT nb s s) (hq : (∃ (a : Int32) (sgc : kx_S), r9 = some (.int 0) ∧ cq_fees nb s x (some (.int a)) sgc ∧ s9 = kx_up sgc 32 0 (upd (sgc 32 0) 0 a)) ∨ (∃ (k : Int32) (E : String), r9 = some (.int k) ∧ s9 = s ∧ cx_fees nb s x E ∧ ((E = kx_ioe ∧ k = 1)))) (hm : mq_fees nb s9 x r10 t2) : ∃ k b : Int32, r9 = some (.int k) ∧ r10 = some (.int b) ∧ t2 14 0 22 = k ∧ (k = 0 → t2 32 0 0 = b) ∧ rl_PT nb t2 t2 := by
  obtain ⟨b, hb⟩ := lm_fees hm
  refine lo_gen (nb2 := nb) (C := fun a sgc => cq_fees nb s x (some (.int a)) sgc) (X := fun k => ∃ E : String, cx_fees nb s x E ∧ ((E = kx_ioe ∧ k = 1))) (M := fun b t2 => r10 = some (.int b) ∧ mq_fees nb s9 x (some (.int b)) t2) hs ?_ ⟨b, hb, hb, by rw [← hb]; exact hm⟩ (fun b hm => lt_fees hm.2) (fun a b sgc hc hm h9 => by have z := rn_fees h9 hc hm.2; exact ⟨z.1, z.2.1.2.2, by obtain ⟨-, z2, z3⟩ := z; rw [z3]; exact rl_same ts_same_r (tm_Q_same z2) h9⟩) (fun a sgc hc => lc_fees hc) ?_
  · rcases hq with ⟨a, sgc, h1, h2, h3⟩ | ⟨k, E, h1, h2, h3, h4⟩
    · exact Or.inl ⟨a, sgc, h1, h2, h3, rfl⟩
    · exact Or.inr ⟨k, h1, h2, ⟨E, h3, h4⟩, rfl⟩
  · intro k b hX hm h9
    obtain ⟨E, hc, hk⟩ := hX
    have hx := rx_fees h9 hc hm.2
    obtain ⟨-, rfl⟩ := hk
    exact ⟨by decide, hx.2⟩

theorem lq_fine {nb : Nat} {s s9 : kx_S} {x : Int32} {r9 : Option Value} (hs : rl_PT nb s s) (hq : (∃ (a : Int32) (sgc : kx_S), r9 = some (.int 0) ∧ cq_fine nb s x (some (.int a)) sgc ∧ s9 = kx_up sgc 32 0 (upd (sgc 32 0) 0 a)) ∨ (∃ (k : Int32) (E : String), r9 = some (.int k) ∧ s9 = s ∧ cx_fine nb s x E ∧ ((E = kx_ioe ∧ k = 1)))) : rl_PT nb s s9 ∧ ∃ k : Int32, r9 = some (.int k) := by
  rcases hq with ⟨a, sgc, h1, h2, h3⟩ | ⟨k, E, h1, h2, -⟩
  · exact ⟨by rw [h3]; exact rl_same ts_same_r (lo_same (lc_fine h2)) hs, _, h1⟩
  · exact ⟨by rw [h2]; exact hs, _, h1⟩

theorem lp_fine {nb : Nat} {s s9 t2 : kx_S} {x : Int32} {r9 r10 : Option Value} (hs : rl_PT nb s s) (hq : (∃ (a : Int32) (sgc : kx_S), r9 = some (.int 0) ∧ cq_fine nb s x (some (.int a)) sgc ∧ s9 = kx_up sgc 32 0 (upd (sgc 32 0) 0 a)) ∨ (∃ (k : Int32) (E : String), r9 = some (.int k) ∧ s9 = s ∧ cx_fine nb s x E ∧ ((E = kx_ioe ∧ k = 1)))) (hm : mq_fine nb s9 x r10 t2) : ∃ k b : Int32, r9 = some (.int k) ∧ r10 = some (.int b) ∧ t2 14 0 22 = k ∧ (k = 0 → t2 32 0 0 = b) ∧ rl_PT nb t2 t2 := by
  obtain ⟨b, hb⟩ := lm_fine hm
  refine lo_gen (nb2 := nb) (C := fun a sgc => cq_fine nb s x (some (.int a)) sgc) (X := fun k => ∃ E : String, cx_fine nb s x E ∧ ((E = kx_ioe ∧ k = 1))) (M := fun b t2 => r10 = some (.int b) ∧ mq_fine nb s9 x (some (.int b)) t2) hs ?_ ⟨b, hb, hb, by rw [← hb]; exact hm⟩ (fun b hm => lt_fine hm.2) (fun a b sgc hc hm h9 => by have z := rn_fine h9 hc hm.2; exact ⟨z.1, z.2.1.2.2, by obtain ⟨-, z2, z3⟩ := z; rw [z3]; exact rl_same ts_same_r (tm_Q_same z2) h9⟩) (fun a sgc hc => lc_fine hc) ?_
  · rcases hq with ⟨a, sgc, h1, h2, h3⟩ | ⟨k, E, h1, h2, h3, h4⟩
    · exact Or.inl ⟨a, sgc, h1, h2, h3, rfl⟩
    · exact Or.inr ⟨k, h1, h2, ⟨E, h3, h4⟩, rfl⟩
  · intro k b hX hm h9
    obtain ⟨E, hc, hk⟩ := hX
    have hx := rx_fine h9 hc hm.2
    obtain ⟨-, rfl⟩ := hk
    exact ⟨by decide, hx.2⟩

theorem lq_isJammed {nb : Nat} {s s9 : kx_S} {x : Int32} {r9 : Option Value} (hs : rl_PT nb s s) (hq : (∃ (a : Int32) (sgc : kx_S), r9 = some (.int 0) ∧ cq_isJammed nb s x (some (.int a)) sgc ∧ s9 = kx_up sgc 32 0 (upd (sgc 32 0) 0 a)) ∨ (∃ (k : Int32) (E : String), r9 = some (.int k) ∧ s9 = s ∧ cx_isJammed nb s x E ∧ ((E = kx_ioe ∧ k = 1)))) : rl_PT nb s s9 ∧ ∃ k : Int32, r9 = some (.int k) := by
  rcases hq with ⟨a, sgc, h1, h2, h3⟩ | ⟨k, E, h1, h2, -⟩
  · exact ⟨by rw [h3]; exact rl_same ts_same_r (lo_same (lc_isJammed h2)) hs, _, h1⟩
  · exact ⟨by rw [h2]; exact hs, _, h1⟩

theorem lp_isJammed {nb : Nat} {s s9 t2 : kx_S} {x : Int32} {r9 r10 : Option Value} (hs : rl_PT nb s s) (hq : (∃ (a : Int32) (sgc : kx_S), r9 = some (.int 0) ∧ cq_isJammed nb s x (some (.int a)) sgc ∧ s9 = kx_up sgc 32 0 (upd (sgc 32 0) 0 a)) ∨ (∃ (k : Int32) (E : String), r9 = some (.int k) ∧ s9 = s ∧ cx_isJammed nb s x E ∧ ((E = kx_ioe ∧ k = 1)))) (hm : mq_isJammed nb s9 x r10 t2) : ∃ k b : Int32, r9 = some (.int k) ∧ r10 = some (.int b) ∧ t2 14 0 22 = k ∧ (k = 0 → t2 32 0 0 = b) ∧ rl_PT nb t2 t2 := by
  obtain ⟨b, hb⟩ := lm_isJammed hm
  refine lo_gen (nb2 := nb) (C := fun a sgc => cq_isJammed nb s x (some (.int a)) sgc) (X := fun k => ∃ E : String, cx_isJammed nb s x E ∧ ((E = kx_ioe ∧ k = 1))) (M := fun b t2 => r10 = some (.int b) ∧ mq_isJammed nb s9 x (some (.int b)) t2) hs ?_ ⟨b, hb, hb, by rw [← hb]; exact hm⟩ (fun b hm => lt_isJammed hm.2) (fun a b sgc hc hm h9 => by have z := rn_isJammed h9 hc hm.2; exact ⟨z.1, z.2.1.2.2, by obtain ⟨-, z2, z3⟩ := z; rw [z3]; exact rl_same ts_same_r (tm_Q_same z2) h9⟩) (fun a sgc hc => lc_isJammed hc) ?_
  · rcases hq with ⟨a, sgc, h1, h2, h3⟩ | ⟨k, E, h1, h2, h3, h4⟩
    · exact Or.inl ⟨a, sgc, h1, h2, h3, rfl⟩
    · exact Or.inr ⟨k, h1, h2, ⟨E, h3, h4⟩, rfl⟩
  · intro k b hX hm h9
    obtain ⟨E, hc, hk⟩ := hX
    have hx := rx_isJammed h9 hc hm.2
    obtain ⟨-, rfl⟩ := hk
    exact ⟨by decide, hx.2⟩

theorem lq_keptFor {nb : Nat} {s s9 : kx_S} {x : Int32} {r9 : Option Value} (hs : rl_PT nb s s) (hq : (∃ (a : Int32) (sgc : kx_S), r9 = some (.int 0) ∧ cq_keptFor nb s x (some (.int a)) sgc ∧ s9 = kx_up sgc 32 0 (upd (sgc 32 0) 0 a)) ∨ (∃ (k : Int32) (E : String), r9 = some (.int k) ∧ s9 = s ∧ cx_keptFor nb s x E ∧ ((E = kx_ioe ∧ k = 1)))) : rl_PT nb s s9 ∧ ∃ k : Int32, r9 = some (.int k) := by
  rcases hq with ⟨a, sgc, h1, h2, h3⟩ | ⟨k, E, h1, h2, -⟩
  · exact ⟨by rw [h3]; exact rl_same ts_same_r (lo_same (lc_keptFor h2)) hs, _, h1⟩
  · exact ⟨by rw [h2]; exact hs, _, h1⟩

theorem lp_keptFor {nb : Nat} {s s9 t2 : kx_S} {x : Int32} {r9 r10 : Option Value} (hs : rl_PT nb s s) (hq : (∃ (a : Int32) (sgc : kx_S), r9 = some (.int 0) ∧ cq_keptFor nb s x (some (.int a)) sgc ∧ s9 = kx_up sgc 32 0 (upd (sgc 32 0) 0 a)) ∨ (∃ (k : Int32) (E : String), r9 = some (.int k) ∧ s9 = s ∧ cx_keptFor nb s x E ∧ ((E = kx_ioe ∧ k = 1)))) (hm : mq_keptFor nb s9 x r10 t2) : ∃ k b : Int32, r9 = some (.int k) ∧ r10 = some (.int b) ∧ t2 14 0 22 = k ∧ (k = 0 → t2 32 0 0 = b) ∧ rl_PT nb t2 t2 := by
  obtain ⟨b, hb⟩ := lm_keptFor hm
  refine lo_gen (nb2 := nb) (C := fun a sgc => cq_keptFor nb s x (some (.int a)) sgc) (X := fun k => ∃ E : String, cx_keptFor nb s x E ∧ ((E = kx_ioe ∧ k = 1))) (M := fun b t2 => r10 = some (.int b) ∧ mq_keptFor nb s9 x (some (.int b)) t2) hs ?_ ⟨b, hb, hb, by rw [← hb]; exact hm⟩ (fun b hm => lt_keptFor hm.2) (fun a b sgc hc hm h9 => by have z := rn_keptFor h9 hc hm.2; exact ⟨z.1, z.2.1.2.2, by obtain ⟨-, z2, z3⟩ := z; rw [z3]; exact rl_same ts_same_r (tm_Q_same z2) h9⟩) (fun a sgc hc => lc_keptFor hc) ?_
  · rcases hq with ⟨a, sgc, h1, h2, h3⟩ | ⟨k, E, h1, h2, h3, h4⟩
    · exact Or.inl ⟨a, sgc, h1, h2, h3, rfl⟩
    · exact Or.inr ⟨k, h1, h2, ⟨E, h3, h4⟩, rfl⟩
  · intro k b hX hm h9
    obtain ⟨E, hc, hk⟩ := hX
    have hx := rx_keptFor h9 hc hm.2
    obtain ⟨-, rfl⟩ := hk
    exact ⟨by decide, hx.2⟩

