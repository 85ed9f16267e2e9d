theorem rn_open {nb : Nat} {s s1 t t2 : kx_S} {x y : Int32} {a b : Int32} (h : rl_PT nb s t) (hc : cq_open nb s x y (some (.int a)) s1) (hm : mq_open nb t x y (some (.int b)) t2) : a = b ∧ t2 14 0 22 = 0 ∧ rl_PT nb s1 t2 := by
  obtain ⟨h16, h07, hb, hdr⟩ := rl_ctx h
  unfold cq_open at hc
  unfold mq_open at hm
  obtain ⟨d, hd, hx, hy, hkf, hj, hcase⟩ := hc
  have dr0 := rl_drs h d hd
  obtain ⟨x1, x2, x3, x4, x5, x6, x7, x8⟩ := dr0
  have hj2 : t 29 0 d = 0 := by rw [← x2]; exact hj
  obtain ⟨w0, w2⟩ := x8 hj2
  have e1 : ((1 : Int32)).toInt = 1 := by decide
  have e3 : ((3 : Int32)).toInt = 3 := by decide
  have ew : (t 28 0 d + 1).toInt = (t 28 0 d).toInt + 1 := by rw [tw_addI (by omega) (by omega), e1]
  rcases hcase with ⟨hne, hr, hcase⟩ | ⟨heq, k, hk, hkk, hr, hcase⟩
  · have key : tm_SA nb (kx_up (kx_up (kx_up t 14 0 (upd (t 14 0) 22 0)) 28 0 (upd (t 28 0) d (t 28 0 d + 1))) 29 0 (upd (t 29 0) d (if t 28 0 d + 1 = 3 then (1 : Int32) else 0))) t2 ∧ b = -1 := by grind [!rl_un]
    have ea : a = b := by grind [!rl_un]
    rw [x7] at hcase
    have et : t2 14 0 22 = 0 := by
      rw [tm_SA_14 key.1 22 (by decide) (by decide)]
      simp [kx_up, upd]
    rcases hcase with ⟨hlt, hs1⟩ | ⟨hge, hsa⟩
    · have hn3 : ¬ t 28 0 d + 1 = 3 := by
        intro z
        rw [z] at hlt
        exact absurd hlt (by decide)
      rw [if_neg hn3] at key
      have P : rl_raw nb (kx_up s 8 d (upd (s 8 d) 4 (t 28 0 d + 1))) (kx_up (kx_up (kx_up t 14 0 (upd (t 14 0) 22 0)) 28 0 (upd (t 28 0) d (t 28 0 d + 1))) 29 0 (upd (t 29 0) d 0)) ∧ rl_debts nb (kx_up s 8 d (upd (s 8 d) 4 (t 28 0 d + 1))) (kx_up (kx_up (kx_up t 14 0 (upd (t 14 0) 22 0)) 28 0 (upd (t 28 0) d (t 28 0 d + 1))) 29 0 (upd (t 29 0) d 0)) ∧ ((kx_up (kx_up (kx_up t 14 0 (upd (t 14 0) 22 0)) 28 0 (upd (t 28 0) d (t 28 0 d + 1))) 29 0 (upd (t 29 0) d 0)) 29 0 = t 29 0 → rl_PT nb (kx_up s 8 d (upd (s 8 d) 4 (t 28 0 d + 1))) (kx_up (kx_up (kx_up t 14 0 (upd (t 14 0) 22 0)) 28 0 (upd (t 28 0) d (t 28 0 d + 1))) 29 0 (upd (t 29 0) d 0))) := by
        refine rl_doors (fun q m h1 h2 h3 => by simp [kx_up, h2, h3]) (by simp [kx_up, upd]) (by simp [kx_up, upd]) (by simp [kx_up, upd]; exact h.1.2.2.2.2.2.2.1) (fun q h1 h2 => by have e1 : q ≠ 14 := (by omega); have e2 : q ≠ 25 := (by omega); have e3 : q ≠ 26 := (by omega); have e4 : q ≠ 27 := (by omega); have e5 : q ≠ 28 := (by omega); have e6 : q ≠ 29 := (by omega); simp [kx_up, e1, e2, e3, e4, e5, e6]) (fun j h1 h2 => by simp [kx_up, upd, h1, h2]) (fun d2 hd2 => ?_) h
        by_cases e : d2 = d
        · subst e
          obtain ⟨x1, x2, x3, x4, x5, x6, x7, x8⟩ := rl_drs h d2 hd2
          unfold rl_door
          rw [tw_lt, ew, e3] at hlt
          simp [kx_up, upd, -Int32.toInt_add]
          exact ⟨x1, x2.trans hj2, Or.inl rfl, x4, x5, x6, by omega, by omega⟩
        · exact rl_door_o (by simp [kx_up, e]) (by simp [kx_up, upd, e]) (by simp [kx_up, upd, e]) (by simp [kx_up, upd, e]) (by simp [kx_up, upd, e]) (by simp [kx_up, upd, e]) (rl_drs h d2 hd2)
      have p0 := P.2.2 (by simp only [kx_up_s]; exact upd_self hj2)
      rw [← hs1] at p0
      exact ⟨ea, et, rl_noops p0 nb (Nat.le_refl nb) key.1⟩
    · have hn3 : t 28 0 d + 1 = 3 := by
        rw [tw_lt, ew, e3] at hge
        apply Int32.toInt_inj.mp
        rw [ew, e3]
        omega
      rw [if_pos hn3] at key
      have P : rl_raw nb (kx_up s 8 d (upd (upd (s 8 d) 4 (t 28 0 d + 1)) 1 1)) (kx_up (kx_up (kx_up t 14 0 (upd (t 14 0) 22 0)) 28 0 (upd (t 28 0) d (t 28 0 d + 1))) 29 0 (upd (t 29 0) d 1)) ∧ rl_debts nb (kx_up s 8 d (upd (upd (s 8 d) 4 (t 28 0 d + 1)) 1 1)) (kx_up (kx_up (kx_up t 14 0 (upd (t 14 0) 22 0)) 28 0 (upd (t 28 0) d (t 28 0 d + 1))) 29 0 (upd (t 29 0) d 1)) ∧ ((kx_up (kx_up (kx_up t 14 0 (upd (t 14 0) 22 0)) 28 0 (upd (t 28 0) d (t 28 0 d + 1))) 29 0 (upd (t 29 0) d 1)) 29 0 = t 29 0 → rl_PT nb (kx_up s 8 d (upd (upd (s 8 d) 4 (t 28 0 d + 1)) 1 1)) (kx_up (kx_up (kx_up t 14 0 (upd (t 14 0) 22 0)) 28 0 (upd (t 28 0) d (t 28 0 d + 1))) 29 0 (upd (t 29 0) d 1))) := by
        refine rl_doors (fun q m h1 h2 h3 => by simp [kx_up, h2, h3]) (by simp [kx_up, upd]) (by simp [kx_up, upd]) (by simp [kx_up, upd]; exact h.1.2.2.2.2.2.2.1) (fun q h1 h2 => by have e1 : q ≠ 14 := (by omega); have e2 : q ≠ 25 := (by omega); have e3 : q ≠ 26 := (by omega); have e4 : q ≠ 27 := (by omega); have e5 : q ≠ 28 := (by omega); have e6 : q ≠ 29 := (by omega); simp [kx_up, e1, e2, e3, e4, e5, e6]) (fun j h1 h2 => by simp [kx_up, upd, h1, h2]) (fun d2 hd2 => ?_) h
        by_cases e : d2 = d
        · subst e
          obtain ⟨x1, x2, x3, x4, x5, x6, x7, x8⟩ := rl_drs h d2 hd2
          unfold rl_door
          simp [kx_up, upd]
          exact ⟨x1, Or.inr rfl, x4, x5, x6⟩
        · exact rl_door_o (by simp [kx_up, e]) (by simp [kx_up, upd, e]) (by simp [kx_up, upd, e]) (by simp [kx_up, upd, e]) (by simp [kx_up, upd, e]) (by simp [kx_up, upd, e]) (rl_drs h d2 hd2)
      have p := rl_chain P.1 P.2.1 nb (Nat.le_refl nb) hsa key.1
      exact ⟨ea, et, rl_P_imp p (fun j hj _ => hj)⟩
  · obtain ⟨hb1, hb2, -⟩ := hb k hk
    have ekk : t 26 0 d = nI k := by rw [← x4]; exact hkk
    have key : ((tm_n t k < 12 ∧ tm_SA nb (tm_add (kx_up (kx_up t 14 0 (upd (t 14 0) 22 0)) 26 0 (upd (t 26 0) d (-1))) k (tm_n t k) 30 (nI (4 + d))) t2) ∨ (tm_n t k = 12 ∧ t2 = kx_up (kx_up t 14 0 (upd (t 14 0) 22 0)) 26 0 (upd (t 26 0) d (-1)))) ∧ b = nI k := by grind [!rl_un]
    have ea : a = b := by grind [!rl_un]
    have P : rl_raw nb (kx_up s 8 d (upd (s 8 d) 2 (-1))) (kx_up t 26 0 (upd (t 26 0) d (-1))) ∧ rl_debts nb (kx_up s 8 d (upd (s 8 d) 2 (-1))) (kx_up t 26 0 (upd (t 26 0) d (-1))) ∧ ((kx_up t 26 0 (upd (t 26 0) d (-1))) 29 0 = t 29 0 → rl_PT nb (kx_up s 8 d (upd (s 8 d) 2 (-1))) (kx_up t 26 0 (upd (t 26 0) d (-1)))) := by
      refine rl_doors (fun q m h1 h2 h3 => by simp [kx_up, h2, h3]) (by simp [kx_up, upd]) (by simp [kx_up, upd]) (by simp [kx_up, upd]; exact h.1.2.2.2.2.2.2.1) (fun q h1 h2 => by have e1 : q ≠ 14 := (by omega); have e2 : q ≠ 25 := (by omega); have e3 : q ≠ 26 := (by omega); have e4 : q ≠ 27 := (by omega); have e5 : q ≠ 28 := (by omega); have e6 : q ≠ 29 := (by omega); simp [kx_up, e1, e2, e3, e4, e5, e6]) (fun j h1 h2 => by simp [kx_up, upd, h1, h2]) (fun d2 hd2 => ?_) h
      by_cases e : d2 = d
      · subst e
        obtain ⟨x1, x2, x3, x4, x5, x6, x7, x8⟩ := rl_drs h d2 hd2
        unfold rl_door
        simp [kx_up, upd]
        exact ⟨x1, x2, x3, x6, x7, x8⟩
      · exact rl_door_o (by simp [kx_up, e]) (by simp [kx_up, upd, e]) (by simp [kx_up, upd, e]) (by simp [kx_up, upd, e]) (by simp [kx_up, upd, e]) (by simp [kx_up, upd, e]) (rl_drs h d2 hd2)
    have p0 := P.2.2 (by simp [kx_up])
    have en : tm_n (kx_up t 26 0 (upd (t 26 0) d (-1))) k = tm_n t k := rfl
    rw [hb1] at hcase
    rcases hcase with ⟨hlt, has⟩ | ⟨h12, hsr⟩
    · have key2 : tm_SA nb (tm_add (kx_up (kx_up t 14 0 (upd (t 14 0) 22 0)) 26 0 (upd (t 26 0) d (-1))) k (tm_n t k) 30 (nI (4 + d))) t2 := by
        rcases key.1 with z | z
        · exact z.2
        · omega
      rw [kx_up_comm (by decide : (14 : Nat) ≠ 26)] at key2
      obtain ⟨p1, p2⟩ := rl_add en p0 hk hlt (by decide) (Or.inr ⟨4 + d, by omega, rfl⟩) (tw_mk_nI (by omega)).symm has key2
      exact ⟨ea, p2, p1⟩
    · have key2 : t2 = kx_up (kx_up t 14 0 (upd (t 14 0) 22 0)) 26 0 (upd (t 26 0) d (-1)) := by
        rcases key.1 with z | z
        · omega
        · exact z.2
      have hb12 := (p0.1.2.2.2.2.2.2.2.2.2.1 k hk).2.2.1
      have hss := rl_noop_s p0.1 p0.2.1 hk (p0.2.2 k hk trivial) ⟨12, by rw [hb12, en, h12], Nat.le_refl 12, hsr⟩
      rw [key2]
      refine ⟨ea, by simp [kx_up, upd], rl_same hss ⟨fun q h1 h2 => ?_, fun j hj => by simp [kx_up, upd, hj]⟩ p0⟩
      have z1 : q ≠ 14 := by omega
      simp [kx_up, z1]

theorem rn_claim {nb : Nat} {s s1 t t2 : kx_S} {x : Int32} {a b : Int32} (h : rl_PT nb s t) (hc : cq_claim nb s x (some (.int a)) s1) (hm : mq_claim nb t x (some (.int b)) t2) : a = b ∧ t2 14 0 22 = 0 ∧ rl_PT nb s1 t2 := by
  obtain ⟨h16, h07, hb, hdr⟩ := rl_ctx h
  unfold cq_claim at hc
  unfold mq_claim at hm
  obtain ⟨k, hk, hx, hdl, hi, haf, hr, hs1⟩ := hc
  obtain ⟨c1, c2, c3, c4, c5, c6, c7, c8, c9, c10⟩ := hb k hk
  have ha2 := rl_after h k hk
  rw [c10] at hdl
  have hdl2 : ¬ tw_last (tm_st t k (tm_n t k)) (tm_pl t k) (tm_n t k) = 30 := of_decide_eq_false hdl
  have haf2 : ¬ tw_after (s 10 k) (tw_n s k) (s 0 0 7 - 1000) = true := by rw [haf]; decide
  rw [ha2] at haf2
  have key : (∀ q m, ¬ (q = 14 ∧ m = 0) → q ≠ 18 → q ≠ 30 → q ≠ 31 → t2 q m = t q m) ∧ t2 18 0 = upd (t 18 0) k 1 ∧ t2 14 0 = upd (upd (upd (t 14 0) 22 0) 18 (t 14 0 18 + t 16 0 k)) 19 (t 14 0 19 + 1) ∧ b = t 16 0 k := by grind [!rl_un]
  obtain ⟨kf, k18, k14, kb⟩ := key
  have ea : a = b := by grind [!rl_un]
  have kq : ∀ q, 15 ≤ q → q ≤ 29 → q ≠ 18 → t2 q 0 = t q 0 := fun q h1 h2 h3 => kf q 0 (fun z => by omega) h3 (by omega) (by omega)
  have k14o : ∀ j, j ≠ 22 → j ≠ 18 → j ≠ 19 → t2 14 0 j = t 14 0 j := fun j h1 h2 h3 => by rw [k14]; simp [upd, h1, h2, h3]
  obtain ⟨hr1, hd1, hu1⟩ := h
  subst hs1
  have s9 : ∀ i j, j ≠ 8 → (kx_up (kx_up s 9 k (upd (s 9 k) 8 1)) 4 0 (tw_pay (s 4 0) (s 9 k 1))) 9 i j = s 9 i j := fun i j hj => by
    rw [kx_up_q (by decide)]
    by_cases e : i = k
    · subst e; rw [kx_up_s, upd_n hj]
    · rw [kx_up_n e]
  have so : ∀ q m, q ≠ 4 → q ≠ 9 → (kx_up (kx_up s 9 k (upd (s 9 k) 8 1)) 4 0 (tw_pay (s 4 0) (s 9 k 1))) q m = s q m := fun q m h1 h2 => by rw [kx_up_q h1, kx_up_q h2]
  have r1 : rl_raw nb (kx_up (kx_up s 9 k (upd (s 9 k) 8 1)) 4 0 (tw_pay (s 4 0) (s 9 k 1))) t2 := by
    refine rl_raw_fr (so 0 0 (by decide) (by decide)) (so 3 0 (by decide) (by decide)) (fun d => so 8 d (by decide) (by decide)) (fun i => s9 i 0 (by decide)) (fun i => s9 i 1 (by decide)) (fun i => s9 i 6 (by decide)) (fun i => so 10 i (by decide) (by decide)) (fun i => so 11 i (by decide) (by decide)) (fun i => so 12 i (by decide) (by decide)) (fun i => so 13 i (by decide) (by decide)) (k14o 0 (by decide) (by decide) (by decide)) (k14o 7 (by decide) (by decide) (by decide)) (k14o 17 (by decide) (by decide) (by decide)) (fun q h1 h2 h3 _ _ => kq q h1 h2 h3) (fun i hi => ?_) (fun i _ => by rw [kq 19 (by decide) (by decide) (by decide)]) hr1
    rw [k18, upd_n (by omega)]
  obtain ⟨d1, d2, d3, d4⟩ := hd1
  have dd : rl_debts nb (kx_up (kx_up s 9 k (upd (s 9 k) 8 1)) 4 0 (tw_pay (s 4 0) (s 9 k 1))) t2 := by
    refine ⟨fun i hi2 => ?_, ?_, ?_, fun c hc => ?_⟩
    · have z := d1 i hi2
      unfold rl_debt at z ⊢
      rw [s9 i 9 (by decide), s9 i 10 (by decide), kq 19 (by decide) (by decide) (by decide), kq 20 (by decide) (by decide) (by decide), k18]
      obtain ⟨z1, z2, z3, z4, z5⟩ := z
      by_cases e : i = k
      · subst e
        refine ⟨?_, z2, Or.inr upd_s, z4, z5⟩
        rw [kx_up_q (by decide), kx_up_s, upd_s, upd_s]
      · rw [kx_up_q (by decide), kx_up_n e, upd_n e]
        exact ⟨z1, z2, z3, z4, z5⟩
    · rw [kx_up_s, k14]
      simp [tw_pay, upd]
      rw [d2, c4]
    · rw [kx_up_s, k14]
      simp [tw_pay, upd]
      exact d3
    · rw [so 5 0 (by decide) (by decide), d4 c hc, rl_feeA, rl_feeA]
      unfold rl_fee
      rw [kq 15 (by decide) (by decide) (by decide), kq 19 (by decide) (by decide) (by decide), kq 20 (by decide) (by decide) (by decide)]
  refine ⟨ea, by rw [k14]; simp [upd], r1, dd, fun j hj _ => ?_⟩
  have uj := hu1 j hj trivial
  by_cases e : j = k
  · subst e
    obtain ⟨u1, u2, u3⟩ := uj
    have hdf : tm_dl t j (tm_n t j) = false := decide_eq_false hdl2
    refine rl_up_mk (kq 17 (by decide) (by decide) (by decide)) (kq 21 (by decide) (by decide) (by decide)) (kq 22 (by decide) (by decide) (by decide)) (kq 23 (by decide) (by decide) (by decide)) (kq 24 (by decide) (by decide) (by decide)) (kq 29 (by decide) (by decide) (by decide)) ((s9 j 7 (by decide)).trans u1) (by rw [kq 19 (by decide) (by decide) (by decide)]; exact u2) (fun z => by rw [hdf] at z; exact absurd z (by decide))
  · exact rl_up_fr (s9 j 7 (by decide)) (kq 17 (by decide) (by decide) (by decide)) (by rw [k18, upd_n e]) (by rw [kq 19 (by decide) (by decide) (by decide)]) (kq 21 (by decide) (by decide) (by decide)) (kq 22 (by decide) (by decide) (by decide)) (kq 23 (by decide) (by decide) (by decide)) (kq 24 (by decide) (by decide) (by decide)) (kq 29 (by decide) (by decide) (by decide)) uj

/-- a box is told: the town has one more -/
def cn_box (nb : Nat) (s : kx_S) (x y : Int32) (a : Int32) (s1 : kx_S) : Prop := tw_in x 1 3 = true ∧ tw_in y 1 9999 = true ∧ nb < 16 ∧ a = nI nb ∧ s1 0 0 = upd (s 0 0) 6 (nI (nb + 1)) ∧ s1 9 nb 0 = x ∧ s1 9 nb 1 = y ∧ s1 9 nb 6 = 0 ∧ s1 9 nb 7 = 0 ∧ s1 9 nb 8 = 0 ∧ s1 9 nb 9 = 0 ∧ ∀ q m, ¬ (q = 0 ∧ m = 0) → ¬ (9 ≤ q ∧ q ≤ 13 ∧ m = nb) → s1 q m = s q m
def cx_box (nb : Nat) (x y : Int32) : String → Prop := fun E => (E = kx_iae ∧ (tw_in x 1 3 && tw_in y 1 9999) = false) ∨ (E = kx_ise ∧ (tw_in x 1 3 && tw_in y 1 9999) = true ∧ nb = 16)
theorem rx_box {nb : Nat} {s t t2 : kx_S} {x y : Int32} {E : String} {r : Option Value} (h : rl_PT nb s t) (hc : cx_box nb x y E) (hm : mq_box nb t x y r t2) : (E = kx_iae ∧ tm_Q t t2 1) ∨ (E = kx_ise ∧ tm_Q t t2 2) := by
  unfold cx_box at hc
  unfold mq_box at hm
  grind [!rl_un]
theorem rn_box {nb : Nat} {s s1 t t2 : kx_S} {x y : Int32} {a b : Int32} (h : rl_PT nb s t) (hc : cn_box nb s x y a s1) (hm : mq_box nb t x y (some (.int b)) t2) : a = b ∧ t2 14 0 22 = 0 ∧ rl_PT (nb + 1) s1 t2 := by
  obtain ⟨hx, hy, hnb, ha, h00, g0, g1, g6, g7, g8, g9, hf⟩ := hc
  unfold mq_box at hm
  have key : t2 = kx_up (kx_up (kx_up (kx_up t 14 0 (upd (t 14 0) 22 0)) 15 0 (upd (t 15 0) nb x)) 16 0 (upd (t 16 0) nb y)) 14 0 (upd (upd (t 14 0) 22 0) 7 (nI (nb + 1))) ∧ b = nI nb := by
    rw [hx, hy] at hm
    grind [!rl_un]
  obtain ⟨hr, ⟨d1, d2, d3, d4⟩, hu⟩ := h
  have T14 : t2 14 0 = upd (upd (t 14 0) 22 0) 7 (nI (nb + 1)) := by rw [key.1, kx_up_s]
  have Tq : ∀ q, 17 ≤ q → q ≤ 29 → t2 q 0 = t q 0 := fun q h1 h2 => by
    have z1 : q ≠ 14 := by omega
    have z2 : q ≠ 15 := by omega
    have z3 : q ≠ 16 := by omega
    rw [key.1]; simp [kx_up, z1, z2, z3]
  have T15 : t2 15 0 = upd (t 15 0) nb x := by rw [key.1]; simp [kx_up]
  have T16 : t2 16 0 = upd (t 16 0) nb y := by rw [key.1]; simp [kx_up]
  have so : ∀ q m, q ≠ 0 → q ≤ 8 → s1 q m = s q m := fun q m h1 h2 => hf q m (fun z => h1 z.1) (fun z => by omega)
  have sb : ∀ q m, q ≠ 0 → m ≠ nb → s1 q m = s q m := fun q m h1 h2 => hf q m (fun z => h1 z.1) (fun z => h2 z.2.2)
  have en : ∀ i, tm_n t2 i = tm_n t i := fun i => by unfold tm_n; rw [Tq 17 (by decide) (by decide)]
  obtain ⟨a1, a2, a3, a4, a5, a6, a7, a8, a9, a10, a11⟩ := hr
  obtain ⟨z17, z18, z19⟩ := a11 nb (Nat.le_refl nb) hnb
  have en0 : tm_n t nb = 0 := tm_n_eq (n := 0) z17 (by decide)
  refine ⟨ha.trans key.2.symm, by rw [T14]; simp [upd], ⟨by omega, by rw [h00, upd_s], by rw [T14, upd_s], by rw [h00, T14]; simp [upd]; exact a4, by rw [T14]; simp [upd]; exact a5, by rw [T14]; simp [upd]; exact a6, by rw [h00, T14]; simp [upd]; exact a7, fun w hw => by rw [so 3 0 (by decide) (by decide), Tq 24 (by decide) (by decide)]; exact a8 w hw, fun d hd => ?_, fun i hi => ?_, fun i h1 h2 => ?_⟩, ⟨fun i hi => ?_, ?_, ?_, fun c hc => ?_⟩, fun i hi _ => ?_⟩
  · have z := a9 d hd
    unfold rl_door at z ⊢
    rw [so 8 d (by decide) (by decide), Tq 25 (by decide) (by decide), Tq 26 (by decide) (by decide), Tq 27 (by decide) (by decide), Tq 28 (by decide) (by decide), Tq 29 (by decide) (by decide)]
    obtain ⟨y1, y2, y3, y4, y5, y6⟩ := z
    refine ⟨y1, y2, y3, y4, ?_, y6⟩
    rcases y5 with y5 | ⟨b9, hb9, eb9⟩
    · exact Or.inl y5
    · exact Or.inr ⟨b9, by omega, eb9⟩
  · by_cases e : i = nb
    · subst e
      unfold rl_box
      rw [en, en0, g0, g1, g6, T15, T16, upd_s, upd_s, Tq 17 (by decide) (by decide), z17]
      exact ⟨rfl, rfl, rfl, rfl, by omega, fun k hk => absurd hk (Nat.not_lt_zero k)⟩
    · have z := a10 i (by omega)
      unfold rl_box at z ⊢
      rw [en, sb 9 i (by decide) e, T15, T16, upd_n e, upd_n e, Tq 17 (by decide) (by decide)]
      refine ⟨z.1, z.2.1, z.2.2.1, z.2.2.2.1, z.2.2.2.2.1, fun k hk => ?_⟩
      have y2 := z.2.2.2.2.2 k hk
      unfold rl_scan at y2 ⊢
      rw [sb 10 i (by decide) e, sb 11 i (by decide) e, sb 12 i (by decide) e, sb 13 i (by decide) e, Tq 21 (by decide) (by decide), Tq 22 (by decide) (by decide), Tq 23 (by decide) (by decide), T14]
      rw [show upd (upd (t 14 0) 22 0) 7 (nI (nb + 1)) 0 = t 14 0 0 from by simp [upd]]
      exact y2
  · rw [Tq 17 (by decide) (by decide), Tq 18 (by decide) (by decide), Tq 19 (by decide) (by decide)]
    exact a11 i (by omega) h2
  · by_cases e : i = nb
    · subst e
      unfold rl_debt
      rw [g8, g9, Tq 18 (by decide) (by decide), Tq 19 (by decide) (by decide), z18, z19]
      exact ⟨rfl, rfl, Or.inl rfl, Or.inl rfl, fun z => absurd rfl z⟩
    · have z := d1 i (by omega)
      unfold rl_debt at z ⊢
      rw [sb 9 i (by decide) e, Tq 18 (by decide) (by decide), Tq 19 (by decide) (by decide), Tq 20 (by decide) (by decide)]
      exact z
  · rw [so 4 0 (by decide) (by decide), T14]; simp [upd]; exact d2
  · rw [so 4 0 (by decide) (by decide), T14]; simp [upd]; exact d3
  · rw [so 5 0 (by decide) (by decide), d4 c hc, rl_feeA, rl_feeA, rl_sum]
    have e0 : rl_fee t2 (nI c) nb = 0 := if_neg (fun z => z.1 (by rw [Tq 19 (by decide) (by decide)]; exact z19))
    rw [e0, Int32.add_zero]
    refine (rl_sum_eq nb (fun j hj => ?_)).symm
    unfold rl_fee
    rw [Tq 19 (by decide) (by decide), Tq 20 (by decide) (by decide), T15, upd_n (by omega)]
  · by_cases e : i = nb
    · subst e
      unfold rl_up
      rw [en, en0, g7, Tq 19 (by decide) (by decide), z19]
      exact ⟨rfl, rfl, fun z => absurd (show (false : Bool) = true from z) (by decide)⟩
    · exact rl_up_fr (by rw [sb 9 i (by decide) e]) (Tq 17 (by decide) (by decide)) (by rw [Tq 18 (by decide) (by decide)]) (by rw [Tq 19 (by decide) (by decide)]) (Tq 21 (by decide) (by decide)) (Tq 22 (by decide) (by decide)) (Tq 23 (by decide) (by decide)) (Tq 24 (by decide) (by decide)) (Tq 29 (by decide) (by decide)) (hu i (by omega) trivial)

