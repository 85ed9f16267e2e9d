/-! what a call leaves of the other town -/
def ro_fr (s s' : kx_S) : Prop := ∀ q n, 14 ≤ q → s' q n = s q n
theorem ro_fr.rf {s : kx_S} : ro_fr s s := fun _ _ _ => rfl
theorem ro_fr.tr {s s1 s2 : kx_S} (h : ro_fr s s1) (h2 : ro_fr s1 s2) : ro_fr s s2 := fun q n hq => (h2 q n hq).trans (h q n hq)
theorem ro_fr.up {s : kx_S} {q n : Nat} {r : Nat → Int32} (hq : q < 14) : ro_fr s (kx_up s q n r) := fun q2 n2 h => kx_up_q (by omega)
theorem ro_fr.SR {s s' : kx_S} {i : Nat} {x : tw_R} (h : tw_SR s s' i x) : ro_fr s s' := fun q n hq => h.1 q n (by omega) (by omega) (by omega) (by omega) (fun z => by omega)
theorem ro_fr.SA : ∀ {k : Nat} {s s' : kx_S}, tw_SA k s s' → ro_fr s s' := by
  intro k
  induction k with
  | zero => intro s s' h; rw [show s' = s from h]; exact ro_fr.rf
  | succ k ih =>
    intro s s' h
    obtain ⟨s1, h1, n, -, -, h2⟩ := h
    exact (ih h1).tr (ro_fr.SR h2)
theorem ro_fr.AS {s s' : kx_S} {i n : Nat} {q : Int32} {mj : Nat} (h : tw_AS s i n q mj s') : ro_fr s s' := by
  obtain ⟨a, s1, -, es, h2⟩ := h
  refine ro_fr.tr ?_ (ro_fr.SR h2)
  rw [es]
  exact (ro_fr.up (by decide)).tr ((ro_fr.up (by decide)).tr ((ro_fr.up (by decide)).tr ((ro_fr.up (by decide)).tr (ro_fr.up (by decide)))))

set_option maxHeartbeats 2000000 in
theorem rp_setTrust {m nb : Nat} {s t s' t' : kx_S} {a b : Int32} {c : Nat} {y : Int32} (h : ro_R m nb s t) (hc : c < 14) (h1 : ho (cq_setTrust nb s (nI c) y) (cx_setTrust nb s (nI c) y) s a s') (h2 : ho (cq_setTrust nb t (nI (ro_s m c)) y) (cx_setTrust nb t (nI (ro_s m c)) y) t b t') : (a = b) ∧ ro_R m nb s' t' := by
  obtain ⟨x16, xb, xd, x6, x7, x8, x1, x2⟩ := ro_ctx h
  have en : ∀ {j k : Nat}, j < 100 → k < 100 → nI j = nI k → j = k := fun h1 h2 e => (nI_eq (by omega) (by omega)).mp e
  have hc2 : ro_s m c < 14 := ro_s_13 hc
  refine ho_pair (P := Eq) h rfl h1 h2 ?_ ?_ ?_
  · rintro ⟨c1, hc1, e1, hy, ha, hS⟩ ⟨c2, hc2, e2, -, hb, hT⟩
    obtain rfl := en (by omega) (by omega) e1
    obtain rfl := en (by omega) (by omega) e2
    refine ⟨?_, ro_SA (Nat.le_refl _) (ro_R_trust h hy) hS hT⟩
    rw [Value.int.inj (Option.some.inj ha), Value.int.inj (Option.some.inj hb), (h.2.2.2.1 c hc).1]
  · intro E h3 h4
    unfold cq_setTrust at h3
    unfold cx_setTrust at h4
    grind [!rl_un]
  · intro E h4 h3
    unfold cq_setTrust at h3
    unfold cx_setTrust at h4
    grind [!rl_un]
theorem rf_setTrust {nb : Nat} {s s' : kx_S} {a x y : Int32} (h : ho (cq_setTrust nb s x y) (cx_setTrust nb s x y) s a s') : ro_fr s s' := by
  rcases h with h | ⟨-, rfl, -⟩
  · obtain ⟨c, -, -, -, -, h⟩ := h; exact (ro_fr.up (by decide)).tr (ro_fr.SA h)
  · exact ro_fr.rf
set_option maxHeartbeats 2000000 in
theorem rp_pass {m nb : Nat} {s t s' t' : kx_S} {a b : Int32} {x : Int32} (h : ro_R m nb s t) (h1 : ho (cq_pass nb s x) (cx_pass nb s x) s a s') (h2 : ho (cq_pass nb t x) (cx_pass nb t x) t b t') : (a = b) ∧ ro_R m nb s' t' := by
  obtain ⟨x16, xb, xd, x6, x7, x8, x1, x2⟩ := ro_ctx h
  have en : ∀ {j k : Nat}, j < 100 → k < 100 → nI j = nI k → j = k := fun h1 h2 e => (nI_eq (by omega) (by omega)).mp e
  refine ho_pair (P := Eq) h rfl h1 h2 ?_ ?_ ?_
  · rintro ⟨-, -, ha, rfl⟩ ⟨-, -, hb, rfl⟩
    rw [Value.int.inj (Option.some.inj ha), Value.int.inj (Option.some.inj hb), x7]
    exact ⟨rfl, ro_R_0 h (by decide)⟩
  · intro E h3 h4
    unfold cq_pass at h3
    unfold cx_pass at h4
    grind [!rl_un]
  · intro E h4 h3
    unfold cq_pass at h3
    unfold cx_pass at h4
    grind [!rl_un]
theorem rf_pass {nb : Nat} {s s' : kx_S} {a x : Int32} (h : ho (cq_pass nb s x) (cx_pass nb s x) s a s') : ro_fr s s' := by
  rcases h with h | ⟨-, rfl, -⟩
  · obtain ⟨-, -, -, rfl⟩ := h; exact ro_fr.up (by decide)
  · exact ro_fr.rf
set_option maxHeartbeats 2000000 in
theorem rp_scan {m nb : Nat} {s t s' t' : kx_S} {a b : Int32} {x z : Int32} {c : Nat} (h : ro_R m nb s t) (hc : c < 4) (h1 : ho (cq_scan nb s x (nI c) z) (cx_scan nb s x (nI c) z) s a s') (h2 : ho (cq_scan nb t x (nI (ro_s m c)) z) (cx_scan nb t x (nI (ro_s m c)) z) t b t') : (a = b) ∧ ro_R m nb s' t' := by
  obtain ⟨x16, xb, xd, x6, x7, x8, x1, x2⟩ := ro_ctx h
  have en : ∀ {j k : Nat}, j < 100 → k < 100 → nI j = nI k → j = k := fun h1 h2 e => (nI_eq (by omega) (by omega)).mp e
  have hc2 : ro_s m c < 4 := ro_s_lt hc
  refine ho_pair (P := Eq) h rfl h1 h2 ?_ ?_ ?_
  · rintro ⟨k, c1, hk, ex, hc1, e1, hz, hn, ha, hS⟩ ⟨k2, c2, hk2, ex2, hc2, e2, -, hn2, hb, hT⟩
    obtain rfl := en (by omega) (by omega) (ex.symm.trans ex2)
    obtain rfl := en (by omega) (by omega) e1
    obtain rfl := en (by omega) (by omega) e2
    have e5 : tw_pt (nI (ro_s m c)) z = ro_p m (tw_pt (nI c) z) := by
      unfold tw_pt
      split
      · have e6 : ∀ c : Nat, (1 : Int32) + nI c = nI (1 + c) := fun c => nI_add 1 c
        rw [e6, e6, ro_p, if_pos (ro_in c hc), nI_clamp (by omega), show 1 + c - 1 = c by omega]
      · split
        · exact (ro_0 m).symm
        · exact (ro_30 m).symm
    refine ⟨?_, ro_AS h hk hn e5 rfl (by omega) hS hT⟩
    rw [Value.int.inj (Option.some.inj ha), Value.int.inj (Option.some.inj hb), (xb k hk).1]
  · intro E h3 h4
    unfold cq_scan at h3
    unfold cx_scan at h4
    grind [!rl_un]
  · intro E h4 h3
    unfold cq_scan at h3
    unfold cx_scan at h4
    grind [!rl_un]
theorem rf_scan {nb : Nat} {s s' : kx_S} {a x y z : Int32} (h : ho (cq_scan nb s x y z) (cx_scan nb s x y z) s a s') : ro_fr s s' := by
  rcases h with h | ⟨-, rfl, -⟩
  · obtain ⟨k, c, -, -, -, -, -, -, -, h⟩ := h; exact ro_fr.AS h
  · exact ro_fr.rf
set_option maxHeartbeats 2000000 in
theorem rp_lay {m nb : Nat} {s t s' t' : kx_S} {a b : Int32} {x y : Int32} (h : ro_R m nb s t) (h1 : ho (cq_lay nb s x y) (cx_lay nb s x y) s a s') (h2 : ho (cq_lay nb t x y) (cx_lay nb t x y) t b t') : (a = b) ∧ ro_R m nb s' t' := by
  obtain ⟨x16, xb, xd, x6, x7, x8, x1, x2⟩ := ro_ctx h
  have en : ∀ {j k : Nat}, j < 100 → k < 100 → nI j = nI k → j = k := fun h1 h2 e => (nI_eq (by omega) (by omega)).mp e
  refine ho_pair (P := Eq) h rfl h1 h2 ?_ ?_ ?_
  · rintro ⟨k, d, hk, ex, hd, ey, hn, -, ha, hS⟩ ⟨k2, d2, hk2, ex2, hd2, ey2, hn2, -, hb, hT⟩
    obtain rfl := en (by omega) (by omega) (ex.symm.trans ex2)
    obtain rfl := en (by omega) (by omega) (ey.symm.trans ey2)
    refine ⟨?_, ro_AS h hk hn (ro_10 m hd).symm (ro_s_ge (by omega)).symm (by omega) hS hT⟩
    rw [Value.int.inj (Option.some.inj ha), Value.int.inj (Option.some.inj hb), (xb k hk).1]
  · intro E h3 h4
    unfold cq_lay at h3
    unfold cx_lay at h4
    grind [!rl_un]
  · intro E h4 h3
    unfold cq_lay at h3
    unfold cx_lay at h4
    grind [!rl_un]
theorem rf_lay {nb : Nat} {s s' : kx_S} {a x y : Int32} (h : ho (cq_lay nb s x y) (cx_lay nb s x y) s a s') : ro_fr s s' := by
  rcases h with h | ⟨-, rfl, -⟩
  · obtain ⟨k, d, -, -, -, -, -, -, -, h⟩ := h; exact ro_fr.AS h
  · exact ro_fr.rf
set_option maxHeartbeats 2000000 in
theorem rp_find {m nb : Nat} {s t s' t' : kx_S} {a b : Int32} {x y : Int32} (h : ro_R m nb s t) (h1 : ho (cq_find nb s x y) (cx_find nb s x y) s a s') (h2 : ho (cq_find nb t x (ro_p m y)) (cx_find nb t x (ro_p m y)) t b t') : (a = b) ∧ ro_R m nb s' t' := by
  obtain ⟨x16, xb, xd, x6, x7, x8, x1, x2⟩ := ro_ctx h
  have en : ∀ {j k : Nat}, j < 100 → k < 100 → nI j = nI k → j = k := fun h1 h2 e => (nI_eq (by omega) (by omega)).mp e
  have xk := ro_kind m y
  refine ho_pair (P := Eq) h rfl h1 h2 ?_ ?_ ?_
  · rintro ⟨k, hk, ex, -, hn, ha, hS⟩ ⟨k2, hk2, ex2, -, hn2, hb, hT⟩
    obtain rfl := en (by omega) (by omega) (ex.symm.trans ex2)
    refine ⟨?_, ro_AS h hk hn rfl (ro_s_ge (by omega)).symm (by omega) hS hT⟩
    rw [Value.int.inj (Option.some.inj ha), Value.int.inj (Option.some.inj hb), (xb k hk).1]
  · intro E h3 h4
    unfold cq_find at h3
    unfold cx_find at h4
    grind [!rl_un]
  · intro E h4 h3
    unfold cq_find at h3
    unfold cx_find at h4
    grind [!rl_un]
theorem rf_find {nb : Nat} {s s' : kx_S} {a x y : Int32} (h : ho (cq_find nb s x y) (cx_find nb s x y) s a s') : ro_fr s s' := by
  rcases h with h | ⟨-, rfl, -⟩
  · obtain ⟨k, -, -, -, -, -, h⟩ := h; exact ro_fr.AS h
  · exact ro_fr.rf
set_option maxHeartbeats 2000000 in
theorem rp_setDoor {m nb : Nat} {s t s' t' : kx_S} {a b : Int32} {x y : Int32} (h : ro_R m nb s t) (h1 : ho (cq_setDoor nb s x y) (cx_setDoor nb s x y) s a s') (h2 : ho (cq_setDoor nb t x y) (cx_setDoor nb t x y) t b t') : (a = b) ∧ ro_R m nb s' t' := by
  obtain ⟨x16, xb, xd, x6, x7, x8, x1, x2⟩ := ro_ctx h
  have en : ∀ {j k : Nat}, j < 100 → k < 100 → nI j = nI k → j = k := fun h1 h2 e => (nI_eq (by omega) (by omega)).mp e
  refine ho_pair (P := Eq) h rfl h1 h2 ?_ ?_ ?_
  · rintro ⟨d, hd, ex, hy, h2, ha, rfl⟩ ⟨d2, hd2, ex2, -, -, hb, rfl⟩
    obtain rfl := en (by omega) (by omega) (ex.symm.trans ex2)
    rw [Value.int.inj (Option.some.inj ha), Value.int.inj (Option.some.inj hb), (xd d hd).1]
    obtain ⟨e5, c1, c2⟩ := h.2.2.2.2.2.2.1 d hd
    refine ⟨rfl, ro_R_door h ⟨fun j hj => ?_, by simp [upd]; exact c1, by simp [upd]; exact c2⟩⟩
    by_cases e : j = 0
    · rw [e, upd_s, upd_s]
    · rw [upd_n e, upd_n e]; exact e5 j hj
  · intro E h3 h4
    unfold cq_setDoor at h3
    unfold cx_setDoor at h4
    grind [!rl_un]
  · intro E h4 h3
    unfold cq_setDoor at h3
    unfold cx_setDoor at h4
    grind [!rl_un]
theorem rf_setDoor {nb : Nat} {s s' : kx_S} {a x y : Int32} (h : ho (cq_setDoor nb s x y) (cx_setDoor nb s x y) s a s') : ro_fr s s' := by
  rcases h with h | ⟨-, rfl, -⟩
  · obtain ⟨d, -, -, -, -, -, rfl⟩ := h; exact ro_fr.up (by decide)
  · exact ro_fr.rf
set_option maxHeartbeats 2000000 in
theorem rp_keep {m nb : Nat} {s t s' t' : kx_S} {a b : Int32} {x y : Int32} (h : ro_R m nb s t) (h1 : ho (cq_keep nb s x y) (cx_keep nb s x y) s a s') (h2 : ho (cq_keep nb t x y) (cx_keep nb t x y) t b t') : (a = b) ∧ ro_R m nb s' t' := by
  obtain ⟨x16, xb, xd, x6, x7, x8, x1, x2⟩ := ro_ctx h
  have en : ∀ {j k : Nat}, j < 100 → k < 100 → nI j = nI k → j = k := fun h1 h2 e => (nI_eq (by omega) (by omega)).mp e
  refine ho_pair (P := Eq) h rfl h1 h2 ?_ ?_ ?_
  · rintro ⟨d, k, hd, ex, hk, ey, -, -, -, ha, rfl⟩ ⟨d2, k2, hd2, ex2, hk2, ey2, -, -, -, hb, rfl⟩
    obtain rfl := en (by omega) (by omega) (ex.symm.trans ex2)
    obtain rfl := en (by omega) (by omega) (ey.symm.trans ey2)
    rw [Value.int.inj (Option.some.inj ha), Value.int.inj (Option.some.inj hb), x8]
    obtain ⟨e5, c1, c2⟩ := h.2.2.2.2.2.2.1 d hd
    refine ⟨rfl, ro_R_0 (ro_R_door h ⟨fun j hj => ?_, by simp [upd]; exact c1, Or.inr ⟨k, hk, by simp [upd]⟩⟩) (by decide)⟩
    rcases (show j = 0 ∨ j = 1 ∨ j = 2 ∨ j = 3 ∨ j = 4 by omega) with rfl | rfl | rfl | rfl | rfl
    · simp [upd]; exact e5 0 hj
    · simp [upd]; exact e5 1 hj
    · simp [upd]
    · simp [upd]
    · simp [upd]
  · intro E h3 h4
    unfold cq_keep at h3
    unfold cx_keep at h4
    grind [!rl_un]
  · intro E h4 h3
    unfold cq_keep at h3
    unfold cx_keep at h4
    grind [!rl_un]
theorem rf_keep {nb : Nat} {s s' : kx_S} {a x y : Int32} (h : ho (cq_keep nb s x y) (cx_keep nb s x y) s a s') : ro_fr s s' := by
  rcases h with h | ⟨-, rfl, -⟩
  · obtain ⟨d, k, -, -, -, -, -, -, -, -, rfl⟩ := h; exact (ro_fr.up (by decide)).tr (ro_fr.up (by decide))
  · exact ro_fr.rf
set_option maxHeartbeats 2000000 in
theorem rp_open {m nb : Nat} {s t s' t' : kx_S} {a b : Int32} {x y : Int32} (h : ro_R m nb s t) (h1 : ho (cq_open nb s x y) (cx_open nb s x y) s a s') (h2 : ho (cq_open nb t x y) (cx_open nb t x y) t b t') : (a = b) ∧ ro_R m nb s' t' := by
  obtain ⟨x16, xb, xd, x6, x7, x8, x1, x2⟩ := ro_ctx h
  have en : ∀ {j k : Nat}, j < 100 → k < 100 → nI j = nI k → j = k := fun h1 h2 e => (nI_eq (by omega) (by omega)).mp e
  refine ho_pair (P := Eq) h rfl h1 h2 ?_ ?_ ?_
  · rintro ⟨d, hd, ex, hy, h2, h1, hs⟩ ⟨d2, hd2, ex2, -, -, -, ht⟩
    obtain rfl := en (by omega) (by omega) (ex.symm.trans ex2)
    obtain ⟨e5, c1, c2⟩ := h.2.2.2.2.2.2.1 d hd
    obtain ⟨d0, d1, d2, d3, d4⟩ := xd d hd
    rw [d2, d3, d4] at ht
    rcases hs with ⟨n1, ha, hs⟩ | ⟨n1, k, hk, ek, ha, hs⟩
    · rcases ht with ⟨n2, hb, ht⟩ | ⟨n2, -⟩
      · rw [Value.int.inj (Option.some.inj ha), Value.int.inj (Option.some.inj hb)]
        refine ⟨rfl, ?_⟩
        rcases hs with ⟨l1, rfl⟩ | ⟨l1, hs⟩
        · rcases ht with ⟨l2, rfl⟩ | ⟨l2, ht⟩
          · refine ro_R_door h ⟨fun j hj => ?_, by simp [upd]; exact c1, by simp [upd]; exact c2⟩
            by_cases e : j = 4
            · rw [e, upd_s, upd_s]
            · rw [upd_n e, upd_n e]; exact e5 j hj
          · exact absurd l1 l2
        · rcases ht with ⟨l2, rfl⟩ | ⟨l2, ht⟩
          · exact absurd l2 l1
          · refine ro_SA (Nat.le_refl _) (ro_R_door h ⟨fun j hj => ?_, by simp [upd, tw_01], by simp [upd]; exact c2⟩) hs ht
            rcases (show j = 0 ∨ j = 1 ∨ j = 2 ∨ j = 3 ∨ j = 4 by omega) with rfl | rfl | rfl | rfl | rfl
            · simp [upd]; exact e5 0 hj
            · simp [upd]
            · simp [upd]; exact e5 2 hj
            · simp [upd]; exact e5 3 hj
            · simp [upd]
      · exact absurd n2 n1
    · rcases ht with ⟨n2, -⟩ | ⟨-, k2, hk2, ek2, hb, ht⟩
      · exact absurd n1 n2
      · obtain rfl := en (by omega) (by omega) (ek.symm.trans ek2)
        rw [Value.int.inj (Option.some.inj ha), Value.int.inj (Option.some.inj hb)]
        refine ⟨rfl, ?_⟩
        have R1 : ro_R m nb (kx_up s 8 d (upd (s 8 d) 2 (-1))) (kx_up t 8 d (upd (t 8 d) 2 (-1))) := by
          refine ro_R_door h ⟨fun j hj => ?_, by simp [upd]; exact c1, Or.inl (by simp [upd])⟩
          by_cases e : j = 2
          · rw [e, upd_s, upd_s]
          · rw [upd_n e, upd_n e]; exact e5 j hj
        have e9 : tw_n t k = tw_n s k := (xb k hk).1
        rcases hs with ⟨l1, hs⟩ | ⟨l1, hs⟩
        · rcases ht with ⟨l2, ht⟩ | ⟨l2, ht⟩
          · exact ro_AS R1 hk l1 (ro_30 m).symm (ro_s_ge (by omega)).symm (by omega) hs ht
          · exact absurd l2 (by omega)
        · rcases ht with ⟨l2, ht⟩ | ⟨l2, ht⟩
          · exact absurd l2 (by omega)
          · exact ro_AS12 R1 hk l1 hs ht
  · intro E h3 h4
    unfold cq_open at h3
    unfold cx_open at h4
    grind [!rl_un]
  · intro E h4 h3
    unfold cq_open at h3
    unfold cx_open at h4
    grind [!rl_un]
theorem rf_open {nb : Nat} {s s' : kx_S} {a x y : Int32} (h : ho (cq_open nb s x y) (cx_open nb s x y) s a s') : ro_fr s s' := by
  rcases h with h | ⟨-, rfl, -⟩
  · obtain ⟨d, -, -, -, -, -, ⟨-, -, ⟨-, rfl⟩ | ⟨-, h⟩⟩ | ⟨-, k, -, -, -, ⟨-, h⟩ | ⟨-, h⟩⟩⟩ := h
    · exact ro_fr.up (by decide)
    · exact (ro_fr.up (by decide)).tr (ro_fr.SA h)
    · exact (ro_fr.up (by decide)).tr (ro_fr.AS h)
    · exact (ro_fr.up (by decide)).tr (ro_fr.SR h)
  · exact ro_fr.rf
set_option maxHeartbeats 2000000 in
theorem rp_jam {m nb : Nat} {s t s' t' : kx_S} {a b : Int32} {x z : Int32} (h : ro_R m nb s t) (hz : tw_01 z) (h1 : ho (cq_jam nb s x z) (cx_jam nb s x z) s a s') (h2 : ho (cq_jam nb t x z) (cx_jam nb t x z) t b t') : (a = b) ∧ ro_R m nb s' t' := by
  obtain ⟨x16, xb, xd, x6, x7, x8, x1, x2⟩ := ro_ctx h
  have en : ∀ {j k : Nat}, j < 100 → k < 100 → nI j = nI k → j = k := fun h1 h2 e => (nI_eq (by omega) (by omega)).mp e
  refine ho_pair (P := Eq) h rfl h1 h2 ?_ ?_ ?_
  · rintro ⟨d, hd, ex, ha, hS⟩ ⟨d2, hd2, ex2, hb, hT⟩
    obtain rfl := en (by omega) (by omega) (ex.symm.trans ex2)
    rw [Value.int.inj (Option.some.inj ha), Value.int.inj (Option.some.inj hb), (xd d hd).2.1]
    obtain ⟨e5, c1, c2⟩ := h.2.2.2.2.2.2.1 d hd
    refine ⟨rfl, ro_SA (Nat.le_refl _) (ro_R_door h ?_) hS hT⟩
    split
    · refine ⟨fun j hj => ?_, by simp [upd]; exact hz, by simp [upd]; exact c2⟩
      rcases (show j = 0 ∨ j = 1 ∨ j = 2 ∨ j = 3 ∨ j = 4 by omega) with rfl | rfl | rfl | rfl | rfl
      · simp [upd]; exact e5 0 hj
      · simp [upd]
      · simp [upd]; exact e5 2 hj
      · simp [upd]; exact e5 3 hj
      · simp [upd]
    · refine ⟨fun j hj => ?_, by simp [upd]; exact hz, by simp [upd]; exact c2⟩
      by_cases e : j = 1
      · rw [e, upd_s, upd_s]
      · rw [upd_n e, upd_n e]; exact e5 j hj
  · intro E h3 h4
    unfold cq_jam at h3
    unfold cx_jam at h4
    grind [!rl_un]
  · intro E h4 h3
    unfold cq_jam at h3
    unfold cx_jam at h4
    grind [!rl_un]
theorem rf_jam {nb : Nat} {s s' : kx_S} {a x z : Int32} (h : ho (cq_jam nb s x z) (cx_jam nb s x z) s a s') : ro_fr s s' := by
  rcases h with h | ⟨-, rfl, -⟩
  · obtain ⟨d, -, -, -, h⟩ := h; exact (ro_fr.up (by decide)).tr (ro_fr.SA h)
  · exact ro_fr.rf
set_option maxHeartbeats 2000000 in
theorem rp_claim {m nb : Nat} {s t s' t' : kx_S} {a b : Int32} {x : Int32} (h : ro_R m nb s t) (h1 : ho (cq_claim nb s x) (cx_claim nb s x) s a s') (h2 : ho (cq_claim nb t x) (cx_claim nb t x) t b t') : (a = b) ∧ ro_R m nb s' t' := by
  obtain ⟨x16, xb, xd, x6, x7, x8, x1, x2⟩ := ro_ctx h
  have en : ∀ {j k : Nat}, j < 100 → k < 100 → nI j = nI k → j = k := fun h1 h2 e => (nI_eq (by omega) (by omega)).mp e
  have xl : ∀ k, k < nb → (decide (tw_last (t 9 k 7) (t 11 k) (tw_n t k) = 30) = decide (tw_last (s 9 k 7) (s 11 k) (tw_n s k) = 30)) ∧ tw_after (t 10 k) (tw_n t k) (t 0 0 7 - 1000) = tw_after (s 10 k) (tw_n s k) (s 0 0 7 - 1000) := fun k hk => ⟨by rw [ro_lastK h hk]; exact decide_eq_decide.mpr ro_eq30, by rw [x7]; exact ro_after h hk _⟩
  refine ho_pair (P := Eq) h rfl h1 h2 ?_ ?_ ?_
  · rintro ⟨k, hk, ex, -, -, -, ha, rfl⟩ ⟨k2, hk2, ex2, -, -, -, hb, rfl⟩
    obtain rfl := en (by omega) (by omega) (ex.symm.trans ex2)
    rw [Value.int.inj (Option.some.inj ha), Value.int.inj (Option.some.inj hb), (xb k hk).2.2.2.1]
    refine ⟨rfl, ?_⟩
    have hB := h.2.2.2.2.2.2.2 k hk
    have R1 : ro_R m nb (kx_up s 9 k (upd (s 9 k) 8 1)) (kx_up t 9 k (upd (t 9 k) 8 1)) := by
      refine ro_R_box (i := k) h (fun q j hne => ?_) (fun q j hne => ?_) ⟨?_, ?_⟩
      · simp only [kx_up]; exact if_neg (fun z => hne ⟨by omega, by omega, z.2⟩)
      · simp only [kx_up]; exact if_neg (fun z => hne ⟨by omega, by omega, z.2⟩)
      · rw [kx_up_s, kx_up_s]
        obtain ⟨y0, y1, y6, y7, y8, y9, yc, c8, c9⟩ := hB.1
        exact ⟨by simp [upd, y0], by simp [upd, y1], by simp [upd, y6], by simp [upd, y7], by simp [upd], by simp [upd, y9], by simp [upd]; exact yc, by simp [upd, tw_01], by simp [upd]; exact c9⟩
      · obtain ⟨n, hn, h12, hK⟩ := hB.2
        exact ⟨n, by rw [kx_up_s]; simp [upd]; exact hn, h12, fun k9 hk9 => hK k9 hk9⟩
    obtain ⟨h16, h6, h0, hT, hL, hF, hD, hBB⟩ := R1
    refine ⟨h16, h6, h0, hT, ?_, hF, hD, hBB⟩
    rw [kx_up_s, kx_up_s]
    have z1 : t 4 0 1 = s 4 0 1 := hL.1
    have z2 : t 4 0 2 = s 4 0 2 := hL.2
    exact ⟨by simp [tw_pay, upd, z1], by simp [tw_pay, upd, z2]⟩
  · intro E h3 h4
    unfold cq_claim at h3
    unfold cx_claim at h4
    grind [!rl_un]
  · intro E h4 h3
    unfold cq_claim at h3
    unfold cx_claim at h4
    grind [!rl_un]
theorem rf_claim {nb : Nat} {s s' : kx_S} {a x : Int32} (h : ho (cq_claim nb s x) (cx_claim nb s x) s a s') : ro_fr s s' := by
  rcases h with h | ⟨-, rfl, -⟩
  · obtain ⟨k, -, -, -, -, -, -, rfl⟩ := h; exact (ro_fr.up (by decide)).tr (ro_fr.up (by decide))
  · exact ro_fr.rf
set_option maxHeartbeats 2000000 in
theorem rp_scans {m nb : Nat} {s t s' t' : kx_S} {a b : Int32} {x : Int32} (h : ro_R m nb s t) (h1 : ho (cq_scans nb s x) (cx_scans nb s x) s a s') (h2 : ho (cq_scans nb t x) (cx_scans nb t x) t b t') : (a = b) ∧ ro_R m nb s' t' := by
  obtain ⟨x16, xb, xd, x6, x7, x8, x1, x2⟩ := ro_ctx h
  have en : ∀ {j k : Nat}, j < 100 → k < 100 → nI j = nI k → j = k := fun h1 h2 e => (nI_eq (by omega) (by omega)).mp e
  refine ho_pair (P := Eq) h rfl h1 h2 ?_ ?_ ?_
  · rintro ⟨k, hk, ex, ha, rfl⟩ ⟨k2, hk2, ex2, hb, rfl⟩
    obtain rfl := en (by omega) (by omega) (ex.symm.trans ex2)
    refine ⟨?_, h⟩
    rw [Value.int.inj (Option.some.inj ha), Value.int.inj (Option.some.inj hb)]
    exact ((xb k hk).2.2.2.2.1).symm
  · intro E h3 h4
    unfold cq_scans at h3
    unfold cx_scans at h4
    grind [!rl_un]
  · intro E h4 h3
    unfold cq_scans at h3
    unfold cx_scans at h4
    grind [!rl_un]
theorem rf_scans {nb : Nat} {s s' : kx_S} {a x : Int32} (h : ho (cq_scans nb s x) (cx_scans nb s x) s a s') : ro_fr s s' := by
  rcases h with h | ⟨-, rfl, -⟩
  · obtain ⟨k, -, -, -, rfl⟩ := h; exact ro_fr.rf
  · exact ro_fr.rf
set_option maxHeartbeats 2000000 in
theorem rp_story {m nb : Nat} {s t s' t' : kx_S} {a b : Int32} {x : Int32} (h : ro_R m nb s t) (h1 : ho (cq_story nb s x) (cx_story nb s x) s a s') (h2 : ho (cq_story nb t x) (cx_story nb t x) t b t') : (a = b) ∧ ro_R m nb s' t' := by
  obtain ⟨x16, xb, xd, x6, x7, x8, x1, x2⟩ := ro_ctx h
  have en : ∀ {j k : Nat}, j < 100 → k < 100 → nI j = nI k → j = k := fun h1 h2 e => (nI_eq (by omega) (by omega)).mp e
  refine ho_pair (P := Eq) h rfl h1 h2 ?_ ?_ ?_
  · rintro ⟨k, hk, ex, ha, rfl⟩ ⟨k2, hk2, ex2, hb, rfl⟩
    obtain rfl := en (by omega) (by omega) (ex.symm.trans ex2)
    refine ⟨?_, h⟩
    rw [Value.int.inj (Option.some.inj ha), Value.int.inj (Option.some.inj hb)]
    exact ((xb k hk).2.2.2.2.2.1).symm
  · intro E h3 h4
    unfold cq_story at h3
    unfold cx_story at h4
    grind [!rl_un]
  · intro E h4 h3
    unfold cq_story at h3
    unfold cx_story at h4
    grind [!rl_un]
theorem rf_story {nb : Nat} {s s' : kx_S} {a x : Int32} (h : ho (cq_story nb s x) (cx_story nb s x) s a s') : ro_fr s s' := by
  rcases h with h | ⟨-, rfl, -⟩
  · obtain ⟨k, -, -, -, rfl⟩ := h; exact ro_fr.rf
  · exact ro_fr.rf
set_option maxHeartbeats 2000000 in
theorem rp_storyOfAll {m nb : Nat} {s t s' t' : kx_S} {a b : Int32} {x : Int32} (h : ro_R m nb s t) (h1 : ho (cq_storyOfAll nb s x) (cx_storyOfAll nb s x) s a s') (h2 : ho (cq_storyOfAll nb t x) (cx_storyOfAll nb t x) t b t') : (a = b) ∧ ro_R m nb s' t' := by
  obtain ⟨x16, xb, xd, x6, x7, x8, x1, x2⟩ := ro_ctx h
  have en : ∀ {j k : Nat}, j < 100 → k < 100 → nI j = nI k → j = k := fun h1 h2 e => (nI_eq (by omega) (by omega)).mp e
  refine ho_pair (P := Eq) h rfl h1 h2 ?_ ?_ ?_
  · rintro ⟨k, hk, ex, ha, f, rfl⟩ ⟨k2, hk2, ex2, hb, f2, rfl⟩
    obtain rfl := en (by omega) (by omega) (ex.symm.trans ex2)
    refine ⟨?_, ro_R_eq h (fun q n h1 h2 h3 => kx_up_q h2) (fun q n h1 h2 h3 => kx_up_q h2)⟩
    rw [Value.int.inj (Option.some.inj ha), Value.int.inj (Option.some.inj hb)]
    exact (ro_stK h hk).symm
  · intro E h3 h4
    unfold cq_storyOfAll at h3
    unfold cx_storyOfAll at h4
    grind [!rl_un]
  · intro E h4 h3
    unfold cq_storyOfAll at h3
    unfold cx_storyOfAll at h4
    grind [!rl_un]
theorem rf_storyOfAll {nb : Nat} {s s' : kx_S} {a x : Int32} (h : ho (cq_storyOfAll nb s x) (cx_storyOfAll nb s x) s a s') : ro_fr s s' := by
  rcases h with h | ⟨-, rfl, -⟩
  · obtain ⟨k, -, -, -, f, rfl⟩ := h; exact ro_fr.up (by decide)
  · exact ro_fr.rf
set_option maxHeartbeats 2000000 in
theorem rp_hasFee {m nb : Nat} {s t s' t' : kx_S} {a b : Int32} {x : Int32} (h : ro_R m nb s t) (h1 : ho (cq_hasFee nb s x) (cx_hasFee nb s x) s a s') (h2 : ho (cq_hasFee nb t x) (cx_hasFee nb t x) t b t') : (a = b) ∧ ro_R m nb s' t' := by
  obtain ⟨x16, xb, xd, x6, x7, x8, x1, x2⟩ := ro_ctx h
  have en : ∀ {j k : Nat}, j < 100 → k < 100 → nI j = nI k → j = k := fun h1 h2 e => (nI_eq (by omega) (by omega)).mp e
  refine ho_pair (P := Eq) h rfl h1 h2 ?_ ?_ ?_
  · rintro ⟨k, hk, ex, ha, rfl⟩ ⟨k2, hk2, ex2, hb, rfl⟩
    obtain rfl := en (by omega) (by omega) (ex.symm.trans ex2)
    refine ⟨?_, h⟩
    rw [Value.int.inj (Option.some.inj ha), Value.int.inj (Option.some.inj hb)]
    exact ((xb k hk).2.2.2.2.2.2.2).symm
  · intro E h3 h4
    unfold cq_hasFee at h3
    unfold cx_hasFee at h4
    grind [!rl_un]
  · intro E h4 h3
    unfold cq_hasFee at h3
    unfold cx_hasFee at h4
    grind [!rl_un]
theorem rf_hasFee {nb : Nat} {s s' : kx_S} {a x : Int32} (h : ho (cq_hasFee nb s x) (cx_hasFee nb s x) s a s') : ro_fr s s' := by
  rcases h with h | ⟨-, rfl, -⟩
  · obtain ⟨k, -, -, -, rfl⟩ := h; exact ro_fr.rf
  · exact ro_fr.rf
set_option maxHeartbeats 2000000 in
theorem rp_isInsured {m nb : Nat} {s t s' t' : kx_S} {a b : Int32} {x : Int32} (h : ro_R m nb s t) (h1 : ho (cq_isInsured nb s x) (cx_isInsured nb s x) s a s') (h2 : ho (cq_isInsured nb t x) (cx_isInsured nb t x) t b t') : (a = b) ∧ ro_R m nb s' t' := by
  obtain ⟨x16, xb, xd, x6, x7, x8, x1, x2⟩ := ro_ctx h
  have en : ∀ {j k : Nat}, j < 100 → k < 100 → nI j = nI k → j = k := fun h1 h2 e => (nI_eq (by omega) (by omega)).mp e
  refine ho_pair (P := Eq) h rfl h1 h2 ?_ ?_ ?_
  · rintro ⟨k, hk, ex, ha, rfl⟩ ⟨k2, hk2, ex2, hb, rfl⟩
    obtain rfl := en (by omega) (by omega) (ex.symm.trans ex2)
    refine ⟨?_, h⟩
    rw [Value.int.inj (Option.some.inj ha), Value.int.inj (Option.some.inj hb)]
    exact ((xb k hk).2.2.2.2.2.2.1).symm
  · intro E h3 h4
    unfold cq_isInsured at h3
    unfold cx_isInsured at h4
    grind [!rl_un]
  · intro E h4 h3
    unfold cq_isInsured at h3
    unfold cx_isInsured at h4
    grind [!rl_un]
theorem rf_isInsured {nb : Nat} {s s' : kx_S} {a x : Int32} (h : ho (cq_isInsured nb s x) (cx_isInsured nb s x) s a s') : ro_fr s s' := by
  rcases h with h | ⟨-, rfl, -⟩
  · obtain ⟨k, -, -, -, rfl⟩ := h; exact ro_fr.rf
  · exact ro_fr.rf
set_option maxHeartbeats 2000000 in
theorem rp_fine {m nb : Nat} {s t s' t' : kx_S} {a b : Int32} {x : Int32} (h : ro_R m nb s t) (h1 : ho (cq_fine nb s x) (cx_fine nb s x) s a s') (h2 : ho (cq_fine nb t x) (cx_fine nb t x) t b t') : (a = b) ∧ ro_R m nb s' t' := by
  obtain ⟨x16, xb, xd, x6, x7, x8, x1, x2⟩ := ro_ctx h
  have en : ∀ {j k : Nat}, j < 100 → k < 100 → nI j = nI k → j = k := fun h1 h2 e => (nI_eq (by omega) (by omega)).mp e
  refine ho_pair (P := Eq) h rfl h1 h2 ?_ ?_ ?_
  · rintro ⟨k, hk, ex, ha, rfl⟩ ⟨k2, hk2, ex2, hb, rfl⟩
    obtain rfl := en (by omega) (by omega) (ex.symm.trans ex2)
    refine ⟨?_, h⟩
    rw [Value.int.inj (Option.some.inj ha), Value.int.inj (Option.some.inj hb)]
    exact (ro_fineK h hk).symm
  · intro E h3 h4
    unfold cq_fine at h3
    unfold cx_fine at h4
    grind [!rl_un]
  · intro E h4 h3
    unfold cq_fine at h3
    unfold cx_fine at h4
    grind [!rl_un]
theorem rf_fine {nb : Nat} {s s' : kx_S} {a x : Int32} (h : ho (cq_fine nb s x) (cx_fine nb s x) s a s') : ro_fr s s' := by
  rcases h with h | ⟨-, rfl, -⟩
  · obtain ⟨k, -, -, -, rfl⟩ := h; exact ro_fr.rf
  · exact ro_fr.rf
set_option maxHeartbeats 2000000 in
theorem rp_isJammed {m nb : Nat} {s t s' t' : kx_S} {a b : Int32} {x : Int32} (h : ro_R m nb s t) (h1 : ho (cq_isJammed nb s x) (cx_isJammed nb s x) s a s') (h2 : ho (cq_isJammed nb t x) (cx_isJammed nb t x) t b t') : (a = b) ∧ ro_R m nb s' t' := by
  obtain ⟨x16, xb, xd, x6, x7, x8, x1, x2⟩ := ro_ctx h
  have en : ∀ {j k : Nat}, j < 100 → k < 100 → nI j = nI k → j = k := fun h1 h2 e => (nI_eq (by omega) (by omega)).mp e
  refine ho_pair (P := Eq) h rfl h1 h2 ?_ ?_ ?_
  · rintro ⟨k, hk, ex, ha, rfl⟩ ⟨k2, hk2, ex2, hb, rfl⟩
    obtain rfl := en (by omega) (by omega) (ex.symm.trans ex2)
    refine ⟨?_, h⟩
    rw [Value.int.inj (Option.some.inj ha), Value.int.inj (Option.some.inj hb)]
    exact ((xd k hk).2.1).symm
  · intro E h3 h4
    unfold cq_isJammed at h3
    unfold cx_isJammed at h4
    grind [!rl_un]
  · intro E h4 h3
    unfold cq_isJammed at h3
    unfold cx_isJammed at h4
    grind [!rl_un]
theorem rf_isJammed {nb : Nat} {s s' : kx_S} {a x : Int32} (h : ho (cq_isJammed nb s x) (cx_isJammed nb s x) s a s') : ro_fr s s' := by
  rcases h with h | ⟨-, rfl, -⟩
  · obtain ⟨k, -, -, -, rfl⟩ := h; exact ro_fr.rf
  · exact ro_fr.rf
set_option maxHeartbeats 2000000 in
theorem rp_keptFor {m nb : Nat} {s t s' t' : kx_S} {a b : Int32} {x : Int32} (h : ro_R m nb s t) (h1 : ho (cq_keptFor nb s x) (cx_keptFor nb s x) s a s') (h2 : ho (cq_keptFor nb t x) (cx_keptFor nb t x) t b t') : (a = b) ∧ ro_R m nb s' t' := by
  obtain ⟨x16, xb, xd, x6, x7, x8, x1, x2⟩ := ro_ctx h
  have en : ∀ {j k : Nat}, j < 100 → k < 100 → nI j = nI k → j = k := fun h1 h2 e => (nI_eq (by omega) (by omega)).mp e
  refine ho_pair (P := Eq) h rfl h1 h2 ?_ ?_ ?_
  · rintro ⟨k, hk, ex, ha, rfl⟩ ⟨k2, hk2, ex2, hb, rfl⟩
    obtain rfl := en (by omega) (by omega) (ex.symm.trans ex2)
    refine ⟨?_, h⟩
    rw [Value.int.inj (Option.some.inj ha), Value.int.inj (Option.some.inj hb)]
    exact ((xd k hk).2.2.1).symm
  · intro E h3 h4
    unfold cq_keptFor at h3
    unfold cx_keptFor at h4
    grind [!rl_un]
  · intro E h4 h3
    unfold cq_keptFor at h3
    unfold cx_keptFor at h4
    grind [!rl_un]
theorem rf_keptFor {nb : Nat} {s s' : kx_S} {a x : Int32} (h : ho (cq_keptFor nb s x) (cx_keptFor nb s x) s a s') : ro_fr s s' := by
  rcases h with h | ⟨-, rfl, -⟩
  · obtain ⟨k, -, -, -, rfl⟩ := h; exact ro_fr.rf
  · exact ro_fr.rf
set_option maxHeartbeats 2000000 in
theorem rp_placeOf {m nb : Nat} {s t s' t' : kx_S} {a b : Int32} {x : Int32} (h : ro_R m nb s t) (h1 : ho (cq_placeOf nb s x) (cx_placeOf nb s x) s a s') (h2 : ho (cq_placeOf nb t x) (cx_placeOf nb t x) t b t') : (b = ro_p m a) ∧ ro_R m nb s' t' := by
  obtain ⟨x16, xb, xd, x6, x7, x8, x1, x2⟩ := ro_ctx h
  have en : ∀ {j k : Nat}, j < 100 → k < 100 → nI j = nI k → j = k := fun h1 h2 e => (nI_eq (by omega) (by omega)).mp e
  refine ho_pair (P := (fun a b => b = ro_p m a)) h (if_neg (by decide)).symm h1 h2 ?_ ?_ ?_
  · rintro ⟨k, hk, ex, ha, rfl⟩ ⟨k2, hk2, ex2, hb, rfl⟩
    obtain rfl := en (by omega) (by omega) (ex.symm.trans ex2)
    refine ⟨?_, h⟩
    rw [Value.int.inj (Option.some.inj ha), Value.int.inj (Option.some.inj hb)]
    exact ro_lastK h hk
  · intro E h3 h4
    unfold cq_placeOf at h3
    unfold cx_placeOf at h4
    grind [!rl_un]
  · intro E h4 h3
    unfold cq_placeOf at h3
    unfold cx_placeOf at h4
    grind [!rl_un]
theorem rf_placeOf {nb : Nat} {s s' : kx_S} {a x : Int32} (h : ho (cq_placeOf nb s x) (cx_placeOf nb s x) s a s') : ro_fr s s' := by
  rcases h with h | ⟨-, rfl, -⟩
  · obtain ⟨k, -, -, -, rfl⟩ := h; exact ro_fr.rf
  · exact ro_fr.rf
set_option maxHeartbeats 2000000 in
theorem rp_lies {m nb : Nat} {s t s' t' : kx_S} {a b : Int32} {c : Nat} (h : ro_R m nb s t) (hc : c < 14) (h1 : ho (cq_lies nb s (nI c)) (cx_lies nb s (nI c)) s a s') (h2 : ho (cq_lies nb t (nI (ro_s m c))) (cx_lies nb t (nI (ro_s m c))) t b t') : (a = b) ∧ ro_R m nb s' t' := by
  obtain ⟨x16, xb, xd, x6, x7, x8, x1, x2⟩ := ro_ctx h
  have en : ∀ {j k : Nat}, j < 100 → k < 100 → nI j = nI k → j = k := fun h1 h2 e => (nI_eq (by omega) (by omega)).mp e
  have hc2 : ro_s m c < 14 := ro_s_13 hc
  refine ho_pair (P := Eq) h rfl h1 h2 ?_ ?_ ?_
  · rintro ⟨c1, hc1, e1, ha, rfl⟩ ⟨c2, hc2, e2, hb, rfl⟩
    refine ⟨?_, h⟩
    rw [Value.int.inj (Option.some.inj ha), Value.int.inj (Option.some.inj hb)]
    exact (ro_liesA h (by omega) nb (Nat.le_refl _)).symm
  · intro E h3 h4
    unfold cq_lies at h3
    unfold cx_lies at h4
    grind [!rl_un]
  · intro E h4 h3
    unfold cq_lies at h3
    unfold cx_lies at h4
    grind [!rl_un]
theorem rf_lies {nb : Nat} {s s' : kx_S} {a x : Int32} (h : ho (cq_lies nb s x) (cx_lies nb s x) s a s') : ro_fr s s' := by
  rcases h with h | ⟨-, rfl, -⟩
  · obtain ⟨k, -, -, -, rfl⟩ := h; exact ro_fr.rf
  · exact ro_fr.rf
set_option maxHeartbeats 2000000 in
theorem rp_fees {m nb : Nat} {s t s' t' : kx_S} {a b : Int32} {c : Nat} (h : ro_R m nb s t) (hc : c < 4) (h1 : ho (cq_fees nb s (nI c)) (cx_fees nb s (nI c)) s a s') (h2 : ho (cq_fees nb t (nI (ro_s m c))) (cx_fees nb t (nI (ro_s m c))) t b t') : (a = b) ∧ ro_R m nb s' t' := by
  obtain ⟨x16, xb, xd, x6, x7, x8, x1, x2⟩ := ro_ctx h
  have en : ∀ {j k : Nat}, j < 100 → k < 100 → nI j = nI k → j = k := fun h1 h2 e => (nI_eq (by omega) (by omega)).mp e
  have hc2 : ro_s m c < 4 := ro_s_lt hc
  refine ho_pair (P := Eq) h rfl h1 h2 ?_ ?_ ?_
  · rintro ⟨c1, hc1, e1, ha, rfl⟩ ⟨c2, hc2, e2, hb, rfl⟩
    obtain rfl := en (by omega) (by omega) e1
    obtain rfl := en (by omega) (by omega) e2
    refine ⟨?_, h⟩
    rw [Value.int.inj (Option.some.inj ha), Value.int.inj (Option.some.inj hb)]
    exact (h.2.2.2.2.2.1 c hc).symm
  · intro E h3 h4
    unfold cq_fees at h3
    unfold cx_fees at h4
    grind [!rl_un]
  · intro E h4 h3
    unfold cq_fees at h3
    unfold cx_fees at h4
    grind [!rl_un]
theorem rf_fees {nb : Nat} {s s' : kx_S} {a x : Int32} (h : ho (cq_fees nb s x) (cx_fees nb s x) s a s') : ro_fr s s' := by
  rcases h with h | ⟨-, rfl, -⟩
  · obtain ⟨k, -, -, -, rfl⟩ := h; exact ro_fr.rf
  · exact ro_fr.rf
theorem ro_box {m nb : Nat} {s t s1 t1 : kx_S} {x y a b : Int32} (h : ro_R m nb s t) (h1 : cn_box nb s x y a s1) (h2 : cn_box nb t x y b t1) : a = b ∧ ro_R m (nb + 1) s1 t1 := by
  obtain ⟨hx, hy, hnb, ha, f0, f90, f91, f96, f97, f98, f99, f910, fo⟩ := h1
  obtain ⟨-, -, -, hb, g0, g90, g91, g96, g97, g98, g99, g910, go⟩ := h2
  obtain ⟨h16, h6, h0, hT, hL, hF, hD, hB⟩ := h
  have fs : ∀ q m, q ≠ 0 → q ≤ 8 → s1 q m = s q m := fun q m h1 h2 => fo q m (fun z => h1 z.1) (fun z => by omega)
  have gs : ∀ q m, q ≠ 0 → q ≤ 8 → t1 q m = t q m := fun q m h1 h2 => go q m (fun z => h1 z.1) (fun z => by omega)
  have fb : ∀ q m, q ≠ 0 → m ≠ nb → s1 q m = s q m := fun q m h1 h2 => fo q m (fun z => h1 z.1) (fun z => h2 z.2.2)
  have gb : ∀ q m, q ≠ 0 → m ≠ nb → t1 q m = t q m := fun q m h1 h2 => go q m (fun z => h1 z.1) (fun z => h2 z.2.2)
  refine ⟨ha.trans hb.symm, by omega, by rw [f0, upd_s], fun j h1 h2 => ?_, by rw [fs 3 0 (by decide) (by decide), gs 3 0 (by decide) (by decide)]; exact hT, by rw [fs 4 0 (by decide) (by decide), gs 4 0 (by decide) (by decide)]; exact hL, by rw [fs 5 0 (by decide) (by decide), gs 5 0 (by decide) (by decide)]; exact hF, fun d hd => ?_, fun i hi => ?_⟩
  · rw [f0, g0]
    by_cases e : j = 6
    · rw [e, upd_s, upd_s]
    · rw [upd_n e, upd_n e]; exact h0 j h1 h2
  · rw [fs 8 d (by decide) (by decide), gs 8 d (by decide) (by decide)]
    obtain ⟨a1, a2, a3⟩ := hD d hd
    refine ⟨a1, a2, ?_⟩
    rcases a3 with a3 | ⟨b9, hb9, e9⟩
    · exact Or.inl a3
    · exact Or.inr ⟨b9, by omega, e9⟩
  · by_cases e : i = nb
    · subst e
      refine ⟨⟨by rw [f90, g90], by rw [f91, g91], by rw [f96, g96], by rw [f97, g97], by rw [f98, g98], by rw [f99, g99], Or.inl ⟨f910, g910⟩, Or.inl f98, Or.inl f99⟩, 0, f96, by decide, fun k hk => absurd hk (Nat.not_lt_zero k)⟩
    · have h9 := hB i (by omega)
      unfold ro_B ro_K at h9 ⊢
      rw [fb 9 i (by decide) e, gb 9 i (by decide) e, fb 10 i (by decide) e, gb 10 i (by decide) e, fb 11 i (by decide) e, gb 11 i (by decide) e, fb 12 i (by decide) e, gb 12 i (by decide) e, fb 13 i (by decide) e, gb 13 i (by decide) e]
      exact h9
theorem ro_fr_box {nb : Nat} {s s1 : kx_S} {x y a : Int32} (h : cn_box nb s x y a s1) : ro_fr s s1 := by
  obtain ⟨-, -, -, -, -, -, -, -, -, -, -, -, fo⟩ := h
  exact fun q n hq => fo q n (by omega) (by omega)
theorem cx_box_not {nb : Nat} {s s1 : kx_S} {x y a : Int32} {E : String} (h : cn_box nb s x y a s1) (h2 : cx_box nb x y E) : False := by
  obtain ⟨hx, hy, hnb, -⟩ := h
  rcases h2 with ⟨-, h2⟩ | ⟨-, -, h2⟩
  · rw [hx, hy] at h2; exact absurd h2 (by decide)
  · omega
