theorem tw_pt_pl : ∀ c, c < 4 → tw_pl (1 + nI c) = true ∧ tw_pl (nI c + 1) = true := by decide +kernel
theorem tw_lk_pl : ∀ d, d < 10 → tw_pl (10 + nI d) = true := by decide +kernel
theorem tm_pt_eq (c z : Int32) : tm_pt c z = tw_pt c z := by
  unfold tm_pt tw_pt
  rw [Int32.add_comm c 1]
theorem tw_pt_ok {c : Nat} {z : Int32} (hc : c < 4) : tw_pl (tw_pt (nI c) z) = true := by
  unfold tw_pt
  split
  · exact (tw_pt_pl c hc).1
  · split
    · exact tw_pl0
    · decide
/-- only doors, and the number of keeps, are others -/
theorem rl_doors {nb : Nat} {s t s' t' : kx_S} (hS : ∀ q m, q ≤ 13 → q ≠ 8 → q ≠ 0 → s' q m = s q m) (h06 : s' 0 0 6 = s 0 0 6) (h07 : s' 0 0 7 = s 0 0 7) (hk : s' 0 0 8 = t' 14 0 17) (hT : ∀ q, 15 ≤ q → q ≤ 24 → t' q 0 = t q 0) (h14 : ∀ j, j ≠ 22 → j ≠ 17 → t' 14 0 j = t 14 0 j) (hdr : ∀ d, d < 10 → rl_door nb s' t' d) (h : rl_PT nb s t) : rl_raw nb s' t' ∧ rl_debts nb s' t' ∧ (t' 29 0 = t 29 0 → rl_PT nb s' t') := by
  obtain ⟨hr, hd, hu⟩ := h
  have e9 : ∀ i j, s' 9 i j = s 9 i j := fun i j => by rw [hS 9 i (by decide) (by decide) (by decide)]
  have r1 : rl_raw nb s' t' := rl_raw_fr2 h06 (by rw [h07, h14 0 (by decide) (by decide)]; exact hr.2.2.2.1) (by rw [h14 0 (by decide) (by decide)]; exact Int.le_refl _) (by rw [h14 0 (by decide) (by decide)]; exact hr.2.2.2.2.2.1) hk (h14 7 (by decide) (by decide)) (fun w hw => by rw [hS 3 0 (by decide) (by decide) (by decide), hT 24 (by decide) (by decide)]; exact hr.2.2.2.2.2.2.2.1 w hw) hdr (fun i => e9 i 0) (fun i => e9 i 1) (fun i => e9 i 6) (fun i => hS 10 i (by decide) (by decide) (by decide)) (fun i => hS 11 i (by decide) (by decide) (by decide)) (fun i => hS 12 i (by decide) (by decide) (by decide)) (fun i => hS 13 i (by decide) (by decide) (by decide)) (hT 15 (by decide) (by decide)) (hT 16 (by decide) (by decide)) (hT 17 (by decide) (by decide)) (hT 21 (by decide) (by decide)) (hT 22 (by decide) (by decide)) (hT 23 (by decide) (by decide)) (fun i _ => by rw [hT 18 (by decide) (by decide)]) (fun i _ => by rw [hT 19 (by decide) (by decide)]) hr
  have d1 : rl_debts nb s' t' := rl_debts_fr (hS 4 0 (by decide) (by decide) (by decide)) (hS 5 0 (by decide) (by decide) (by decide)) (fun i _ => e9 i 8) (fun i _ => e9 i 9) (fun i _ => e9 i 10) (h14 18 (by decide) (by decide)) (h14 19 (by decide) (by decide)) (fun i _ => by rw [hT 15 (by decide) (by decide)]) (fun i _ => by rw [hT 18 (by decide) (by decide)]) (fun i _ => by rw [hT 19 (by decide) (by decide)]) (fun i _ => by rw [hT 20 (by decide) (by decide)]) hd
  refine ⟨r1, d1, fun h29 => ⟨r1, d1, fun j hj _ => ?_⟩⟩
  exact rl_up_fr (e9 j 7) (hT 17 (by decide) (by decide)) (by rw [hT 18 (by decide) (by decide)]) (by rw [hT 19 (by decide) (by decide)]) (hT 21 (by decide) (by decide)) (hT 22 (by decide) (by decide)) (hT 23 (by decide) (by decide)) (hT 24 (by decide) (by decide)) h29 (hu j hj trivial)
theorem rl_door_o {nb : Nat} {s t s' t' : kx_S} {d : Nat} (h8 : s' 8 d = s 8 d) (h25 : t' 25 0 d = t 25 0 d) (h26 : t' 26 0 d = t 26 0 d) (h27 : t' 27 0 d = t 27 0 d) (h28 : t' 28 0 d = t 28 0 d) (h29 : t' 29 0 d = t 29 0 d) (h : rl_door nb s t d) : rl_door nb s' t' d := by
  unfold rl_door at h ⊢
  rw [h8, h25, h26, h27, h28, h29]
  exact h
theorem rl_drs {nb : Nat} {s t : kx_S} (h : rl_PT nb s t) : ∀ d, d < 10 → rl_door nb s t d := h.1.2.2.2.2.2.2.2.2.1
theorem kx_up_comm {sg : kx_S} {q n q' n' : Nat} {r r' : Nat → Int32} (h : q ≠ q') : kx_up (kx_up sg q n r) q' n' r' = kx_up (kx_up sg q' n' r') q n r := by
  funext a b
  unfold kx_up
  by_cases h1 : a = q'
  · subst h1
    have h2 : ¬ a = q := fun z => h z.symm
    simp [h2]
  · simp [h1]

theorem rn_scan {nb : Nat} {s s1 t t2 : kx_S} {x y z : Int32} {a b : Int32} (h : rl_PT nb s t) (hc : cq_scan nb s x y z (some (.int a)) s1) (hm : mq_scan nb t x y z (some (.int b)) t2) : a = b ∧ t2 14 0 22 = 0 ∧ rl_PT nb s1 t2 := by
  obtain ⟨h16, h07, hb, hdr⟩ := rl_ctx h
  unfold cq_scan at hc
  unfold mq_scan at hm
  obtain ⟨k, c, hk, hx, hc4, hy, hz, hn, hr, has⟩ := hc
  obtain ⟨hb1, hb2, -⟩ := hb k hk
  have key : tm_SA nb (tm_add (kx_up t 14 0 (upd (t 14 0) 22 0)) k (tm_n t k) (tm_pt (nI c) z) (nI c)) t2 ∧ b = nI (tm_n t k) := by grind [!rl_un]
  have ea : a = nI (tm_n t k) := by grind [!rl_un]
  rw [tm_pt_eq] at key
  rw [hb1] at has hn
  obtain ⟨p1, p2⟩ := rl_add rfl h hk hn (tw_pt_ok hc4) (Or.inr ⟨c, by omega, rfl⟩) (tw_mk_nI (by omega)).symm has key.1
  exact ⟨by rw [ea, key.2], p2, p1⟩

theorem rn_lay {nb : Nat} {s s1 t t2 : kx_S} {x y : Int32} {a b : Int32} (h : rl_PT nb s t) (hc : cq_lay nb s x y (some (.int a)) s1) (hm : mq_lay nb t x y (some (.int b)) t2) : a = b ∧ t2 14 0 22 = 0 ∧ rl_PT nb s1 t2 := by
  obtain ⟨h16, h07, hb, hdr⟩ := rl_ctx h
  unfold cq_lay at hc
  unfold mq_lay at hm
  obtain ⟨k, d, hk, hx, hd, hy, hn, hsz, hr, has⟩ := hc
  obtain ⟨hb1, hb2, -⟩ := hb k hk
  have key : tm_SA nb (tm_add (kx_up t 14 0 (upd (t 14 0) 22 0)) k (tm_n t k) (10 + nI d) (nI (4 + d))) t2 ∧ b = nI (tm_n t k) := by grind [!rl_un]
  have ea : a = nI (tm_n t k) := by grind [!rl_un]
  rw [hb1] at has hn
  obtain ⟨p1, p2⟩ := rl_add rfl h hk hn (tw_lk_pl d hd) (Or.inr ⟨4 + d, by omega, rfl⟩) (tw_mk_nI (by omega)).symm has key.1
  exact ⟨by rw [ea, key.2], p2, p1⟩

theorem rn_find {nb : Nat} {s s1 t t2 : kx_S} {x y : Int32} {a b : Int32} (h : rl_PT nb s t) (hc : cq_find nb s x y (some (.int a)) s1) (hm : mq_find nb t x y (some (.int b)) t2) : a = b ∧ t2 14 0 22 = 0 ∧ rl_PT nb s1 t2 := by
  obtain ⟨h16, h07, hb, hdr⟩ := rl_ctx h
  unfold cq_find at hc
  unfold mq_find at hm
  obtain ⟨k, hk, hx, hkd, hn, hr, has⟩ := hc
  obtain ⟨hb1, hb2, -⟩ := hb k hk
  have hpl : tw_pl y = true := by rw [tw_kind_pl]; exact decide_eq_true hkd
  have key : tm_SA nb (tm_add (kx_up t 14 0 (upd (t 14 0) 22 0)) k (tm_n t k) (y) (-1)) t2 ∧ b = nI (tm_n t k) := by grind [!rl_un]
  have ea : a = nI (tm_n t k) := by grind [!rl_un]
  rw [hb1] at has hn
  obtain ⟨p1, p2⟩ := rl_add rfl h hk hn hpl (Or.inl rfl) tw_mk_m1.symm has key.1
  exact ⟨by rw [ea, key.2], p2, p1⟩

theorem rn_setTrust {nb : Nat} {s s1 t t2 : kx_S} {x y : Int32} {a b : Int32} (h : rl_PT nb s t) (hc : cq_setTrust nb s x y (some (.int a)) s1) (hm : mq_setTrust nb t x y (some (.int b)) t2) : a = b ∧ t2 14 0 22 = 0 ∧ rl_PT nb s1 t2 := by
  obtain ⟨h16, h07, hb, hdr⟩ := rl_ctx h
  unfold cq_setTrust at hc
  unfold mq_setTrust at hm
  obtain ⟨c, hc, hx, hy, hr, hsa⟩ := hc
  have key : tm_SA nb (kx_up (kx_up t 14 0 (upd (t 14 0) 22 0)) 24 0 (upd (t 24 0) c y)) t2 ∧ b = t 24 0 c := by grind [!rl_un]
  obtain ⟨hr1, hd1, hu1⟩ := h
  have htr := hr1.2.2.2.2.2.2.2.1
  have ea : a = b := by rw [key.2, ← (htr c hc).1]; grind [!rl_un]
  have r1 : rl_raw nb (kx_up s 3 0 (upd (s 3 0) c y)) (kx_up (kx_up t 14 0 (upd (t 14 0) 22 0)) 24 0 (upd (t 24 0) c y)) := by
    refine rl_raw_fr2 (by simp [kx_up, upd]) (by simp [kx_up, upd]; exact h07) (by simp [kx_up, upd]) (by simp [kx_up, upd]; exact hr1.2.2.2.2.2.1) (by simp [kx_up, upd]; exact hr1.2.2.2.2.2.2.1) (by simp [kx_up, upd]) (fun w hw => ?_) (fun d hd => rl_door_o (by simp [kx_up, upd]) (by simp [kx_up, upd]) (by simp [kx_up, upd]) (by simp [kx_up, upd]) (by simp [kx_up, upd]) (by simp [kx_up, upd]) (hr1.2.2.2.2.2.2.2.2.1 d hd)) (fun _ => by simp [kx_up, upd]) (fun _ => by simp [kx_up, upd]) (fun _ => by simp [kx_up, upd]) (fun _ => by simp [kx_up, upd]) (fun _ => by simp [kx_up, upd]) (fun _ => by simp [kx_up, upd]) (fun _ => by simp [kx_up, upd]) (by simp [kx_up, upd]) (by simp [kx_up, upd]) (by simp [kx_up, upd]) (by simp [kx_up, upd]) (by simp [kx_up, upd]) (by simp [kx_up, upd]) (fun _ _ => by simp [kx_up, upd]) (fun _ _ => by simp [kx_up, upd]) hr1
    show upd (s 3 0) c y w = upd (t 24 0) c y w ∧ 1 ≤ (upd (t 24 0) c y w).toInt ∧ (upd (t 24 0) c y w).toInt ≤ 9
    by_cases e : w = c
    · subst e; rw [upd_s, upd_s]; exact ⟨rfl, (tw_in_iff y 1 9).mp hy⟩
    · rw [upd_n e, upd_n e]; exact htr w hw
  have d1 : rl_debts nb (kx_up s 3 0 (upd (s 3 0) c y)) (kx_up (kx_up t 14 0 (upd (t 14 0) 22 0)) 24 0 (upd (t 24 0) c y)) := rl_debts_fr (by simp [kx_up, upd]) (by simp [kx_up, upd]) (fun _ _ => by simp [kx_up, upd]) (fun _ _ => by simp [kx_up, upd]) (fun _ _ => by simp [kx_up, upd]) (by simp [kx_up, upd]) (by simp [kx_up, upd]) (fun _ _ => by simp [kx_up, upd]) (fun _ _ => by simp [kx_up, upd]) (fun _ _ => by simp [kx_up, upd]) (fun _ _ => by simp [kx_up, upd]) hd1
  have p := rl_chain r1 d1 nb (Nat.le_refl nb) hsa key.1
  refine ⟨ea, ?_, rl_P_imp p (fun j hj _ => hj)⟩
  rw [tm_SA_14 key.1 22 (by decide) (by decide)]
  simp [kx_up, upd]

theorem rn_pass {nb : Nat} {s s1 t t2 : kx_S} {x : Int32} {a b : Int32} (h : rl_PT nb s t) (hc : cq_pass nb s x (some (.int a)) s1) (hm : mq_pass nb t x (some (.int b)) t2) : a = b ∧ t2 14 0 22 = 0 ∧ rl_PT nb s1 t2 := by
  obtain ⟨h16, h07, hb, hdr⟩ := rl_ctx h
  unfold cq_pass at hc
  unfold mq_pass at hm
  obtain ⟨hx, hle, hr, hs1⟩ := hc
  have key : t2 = kx_up t 14 0 (upd (upd (t 14 0) 22 0) 0 (t 14 0 0 + x)) ∧ b = t 14 0 0 + x := by
    rw [h07] at hle
    grind [!rl_un]
  have ea : a = b := by rw [key.2, ← h07]; grind [!rl_un]
  obtain ⟨hr1, hd1, hu1⟩ := h
  have hx2 := (tw_in_iff x 1 2000).mp hx
  have e1 : ((1 : Int32)).toInt = 1 := by decide
  have e2 : ((2000 : Int32)).toInt = 2000 := by decide
  have e3 : ((100000 : Int32)).toInt = 100000 := by decide
  have h0 := hr1.2.2.2.2.1
  have h1 := hr1.2.2.2.2.2.1
  have es : (t 14 0 0 + x).toInt = (t 14 0 0).toInt + x.toInt := tw_addI (by omega) (by omega)
  rw [h07, tw_le, e3, es] at hle
  subst hs1
  rw [key.1]
  have r1 : rl_raw nb (kx_up s 0 0 (upd (s 0 0) 7 (s 0 0 7 + x))) (kx_up t 14 0 (upd (upd (t 14 0) 22 0) 0 (t 14 0 0 + x))) := by
    refine rl_raw_fr2 (by simp [kx_up, upd]) (by simp [kx_up, upd]; exact h07) (by simp only [kx_up_s, upd_s]; omega) (by simp only [kx_up_s, upd_s]; omega) (by simp [kx_up, upd]; exact hr1.2.2.2.2.2.2.1) (by simp [kx_up, upd]) (fun w hw => ?_) (fun d hd => rl_door_o (by simp [kx_up, upd]) (by simp [kx_up, upd]) (by simp [kx_up, upd]) (by simp [kx_up, upd]) (by simp [kx_up, upd]) (by simp [kx_up, upd]) (hr1.2.2.2.2.2.2.2.2.1 d hd)) (fun _ => by simp [kx_up, upd]) (fun _ => by simp [kx_up, upd]) (fun _ => by simp [kx_up, upd]) (fun _ => by simp [kx_up, upd]) (fun _ => by simp [kx_up, upd]) (fun _ => by simp [kx_up, upd]) (fun _ => by simp [kx_up, upd]) (by simp [kx_up, upd]) (by simp [kx_up, upd]) (by simp [kx_up, upd]) (by simp [kx_up, upd]) (by simp [kx_up, upd]) (by simp [kx_up, upd]) (fun _ _ => by simp [kx_up, upd]) (fun _ _ => by simp [kx_up, upd]) hr1
    exact hr1.2.2.2.2.2.2.2.1 w hw
  refine ⟨ea, by simp [kx_up, upd], r1, rl_debts_fr (by simp [kx_up, upd]) (by simp [kx_up, upd]) (fun _ _ => by simp [kx_up, upd]) (fun _ _ => by simp [kx_up, upd]) (fun _ _ => by simp [kx_up, upd]) (by simp [kx_up, upd]) (by simp [kx_up, upd]) (fun _ _ => by simp [kx_up, upd]) (fun _ _ => by simp [kx_up, upd]) (fun _ _ => by simp [kx_up, upd]) (fun _ _ => by simp [kx_up, upd]) hd1, fun j hj _ => rl_up_fr (by simp [kx_up, upd]) (by simp [kx_up, upd]) (by simp [kx_up, upd]) (by simp [kx_up, upd]) (by simp [kx_up, upd]) (by simp [kx_up, upd]) (by simp [kx_up, upd]) (by simp [kx_up, upd]) (by simp [kx_up, upd]) (hu1 j hj trivial)⟩

theorem rn_setDoor {nb : Nat} {s s1 t t2 : kx_S} {x y : Int32} {a b : Int32} (h : rl_PT nb s t) (hc : cq_setDoor nb s x y (some (.int a)) s1) (hm : mq_setDoor nb t x y (some (.int b)) t2) : a = b ∧ t2 14 0 22 = 0 ∧ rl_PT nb s1 t2 := by
  obtain ⟨h16, h07, hb, hdr⟩ := rl_ctx h
  unfold cq_setDoor at hc
  unfold mq_setDoor at hm
  obtain ⟨d, hd, hx, hy, hkf, hr, hs1⟩ := hc
  have key : t2 = kx_up (kx_up t 14 0 (upd (t 14 0) 22 0)) 25 0 (upd (t 25 0) d y) ∧ b = t 25 0 d := by grind [!rl_un]
  have ea : a = b := by grind [!rl_un]
  have P : rl_raw nb (kx_up s 8 d (upd (s 8 d) 0 y)) (kx_up (kx_up t 14 0 (upd (t 14 0) 22 0)) 25 0 (upd (t 25 0) d y)) ∧ rl_debts nb (kx_up s 8 d (upd (s 8 d) 0 y)) (kx_up (kx_up t 14 0 (upd (t 14 0) 22 0)) 25 0 (upd (t 25 0) d y)) ∧ ((kx_up (kx_up t 14 0 (upd (t 14 0) 22 0)) 25 0 (upd (t 25 0) d y)) 29 0 = t 29 0 → rl_PT nb (kx_up s 8 d (upd (s 8 d) 0 y)) (kx_up (kx_up t 14 0 (upd (t 14 0) 22 0)) 25 0 (upd (t 25 0) d y))) := by
    refine rl_doors (fun q m h1 h2 h3 => by simp [kx_up, h2, h3]) (by simp [kx_up, upd]) (by simp [kx_up, upd]) (by simp [kx_up, upd]; exact h.1.2.2.2.2.2.2.1) (fun q h1 h2 => by have e1 : q ≠ 14 := (by omega); have e2 : q ≠ 25 := (by omega); have e3 : q ≠ 26 := (by omega); have e4 : q ≠ 27 := (by omega); have e5 : q ≠ 28 := (by omega); have e6 : q ≠ 29 := (by omega); simp [kx_up, e1, e2, e3, e4, e5, e6]) (fun j h1 h2 => by simp [kx_up, upd, h1, h2]) (fun d2 hd2 => ?_) h
    by_cases e : d2 = d
    · subst e
      obtain ⟨x1, x2, x3, x4, x5, x6, x7, x8⟩ := rl_drs h d2 hd2
      unfold rl_door
      simp [kx_up, upd]
      exact ⟨x2, x3, x4, x5, x6, x7, x8⟩
    · exact rl_door_o (by simp [kx_up, e]) (by simp [kx_up, upd, e]) (by simp [kx_up, upd, e]) (by simp [kx_up, upd, e]) (by simp [kx_up, upd, e]) (by simp [kx_up, upd, e]) (rl_drs h d2 hd2)
  subst hs1
  rw [key.1]
  exact ⟨ea, by simp [kx_up, upd], P.2.2 (by simp [kx_up])⟩

theorem rn_keep {nb : Nat} {s s1 t t2 : kx_S} {x y : Int32} {a b : Int32} (h : rl_PT nb s t) (hc : cq_keep nb s x y (some (.int a)) s1) (hm : mq_keep nb t x y (some (.int b)) t2) : a = b ∧ t2 14 0 22 = 0 ∧ rl_PT nb s1 t2 := by
  obtain ⟨h16, h07, hb, hdr⟩ := rl_ctx h
  unfold cq_keep at hc
  unfold mq_keep at hm
  obtain ⟨d, k, hd, hx, hk, hy, hkf, hj, hsz, hr, hs1⟩ := hc
  obtain ⟨hb1, hb2, -⟩ := hb k hk
  have e8 : s 0 0 8 = t 14 0 17 := h.1.2.2.2.2.2.2.1
  rw [e8] at hr hs1
  have key : t2 = kx_up (kx_up (kx_up (kx_up (kx_up t 14 0 (upd (t 14 0) 22 0)) 26 0 (upd (t 26 0) d (nI k))) 27 0 (upd (t 27 0) d (tw_code (nI k) (nI d) (t 14 0 17)))) 28 0 (upd (t 28 0) d 0)) 14 0 (upd (upd (t 14 0) 22 0) 17 (t 14 0 17 + 1)) ∧ b = tw_code (nI k) (nI d) (t 14 0 17) := by grind [!rl_un]
  have ea : a = b := by grind [!rl_un]
  have P : rl_raw nb (kx_up (kx_up s 8 d (upd (upd (upd (s 8 d) 2 (nI k)) 3 (tw_code (nI k) (nI d) (t 14 0 17))) 4 0)) 0 0 (upd (s 0 0) 8 (t 14 0 17 + 1))) (kx_up (kx_up (kx_up (kx_up (kx_up t 14 0 (upd (t 14 0) 22 0)) 26 0 (upd (t 26 0) d (nI k))) 27 0 (upd (t 27 0) d (tw_code (nI k) (nI d) (t 14 0 17)))) 28 0 (upd (t 28 0) d 0)) 14 0 (upd (upd (t 14 0) 22 0) 17 (t 14 0 17 + 1))) ∧ rl_debts nb (kx_up (kx_up s 8 d (upd (upd (upd (s 8 d) 2 (nI k)) 3 (tw_code (nI k) (nI d) (t 14 0 17))) 4 0)) 0 0 (upd (s 0 0) 8 (t 14 0 17 + 1))) (kx_up (kx_up (kx_up (kx_up (kx_up t 14 0 (upd (t 14 0) 22 0)) 26 0 (upd (t 26 0) d (nI k))) 27 0 (upd (t 27 0) d (tw_code (nI k) (nI d) (t 14 0 17)))) 28 0 (upd (t 28 0) d 0)) 14 0 (upd (upd (t 14 0) 22 0) 17 (t 14 0 17 + 1))) ∧ ((kx_up (kx_up (kx_up (kx_up (kx_up t 14 0 (upd (t 14 0) 22 0)) 26 0 (upd (t 26 0) d (nI k))) 27 0 (upd (t 27 0) d (tw_code (nI k) (nI d) (t 14 0 17)))) 28 0 (upd (t 28 0) d 0)) 14 0 (upd (upd (t 14 0) 22 0) 17 (t 14 0 17 + 1))) 29 0 = t 29 0 → rl_PT nb (kx_up (kx_up s 8 d (upd (upd (upd (s 8 d) 2 (nI k)) 3 (tw_code (nI k) (nI d) (t 14 0 17))) 4 0)) 0 0 (upd (s 0 0) 8 (t 14 0 17 + 1))) (kx_up (kx_up (kx_up (kx_up (kx_up t 14 0 (upd (t 14 0) 22 0)) 26 0 (upd (t 26 0) d (nI k))) 27 0 (upd (t 27 0) d (tw_code (nI k) (nI d) (t 14 0 17)))) 28 0 (upd (t 28 0) d 0)) 14 0 (upd (upd (t 14 0) 22 0) 17 (t 14 0 17 + 1)))) := by
    refine rl_doors (fun q m h1 h2 h3 => by simp [kx_up, h2, h3]) (by simp [kx_up, upd]) (by simp [kx_up, upd]) (by simp [kx_up, upd]) (fun q h1 h2 => by have e1 : q ≠ 14 := (by omega); have e2 : q ≠ 25 := (by omega); have e3 : q ≠ 26 := (by omega); have e4 : q ≠ 27 := (by omega); have e5 : q ≠ 28 := (by omega); have e6 : q ≠ 29 := (by omega); simp [kx_up, e1, e2, e3, e4, e5, e6]) (fun j h1 h2 => by simp [kx_up, upd, h1, h2]) (fun d2 hd2 => ?_) h
    by_cases e : d2 = d
    · subst e
      obtain ⟨x1, x2, x3, x4, x5, x6, x7, x8⟩ := rl_drs h d2 hd2
      unfold rl_door
      simp [kx_up, upd]
      exact ⟨x1, x2, x3, Or.inr ⟨k, hk, rfl⟩⟩
    · exact rl_door_o (by simp [kx_up, e]) (by simp [kx_up, upd, e]) (by simp [kx_up, upd, e]) (by simp [kx_up, upd, e]) (by simp [kx_up, upd, e]) (by simp [kx_up, upd, e]) (rl_drs h d2 hd2)
  subst hs1
  rw [key.1]
  exact ⟨ea, by simp [kx_up, upd], P.2.2 (by simp [kx_up])⟩

theorem rn_jam {nb : Nat} {s s1 t t2 : kx_S} {x z : Int32} {a b : Int32} (hz : tw_01 z) (h : rl_PT nb s t) (hc : cq_jam nb s x z (some (.int a)) s1) (hm : mq_jam nb t x z (some (.int b)) t2) : a = b ∧ t2 14 0 22 = 0 ∧ rl_PT nb s1 t2 := by
  obtain ⟨h16, h07, hb, hdr⟩ := rl_ctx h
  unfold cq_jam at hc
  unfold mq_jam at hm
  obtain ⟨d, hd, hx, hr, hsa⟩ := hc
  have key : tm_SA nb (kx_up (kx_up (kx_up t 14 0 (upd (t 14 0) 22 0)) 29 0 (upd (t 29 0) d z)) 28 0 (upd (t 28 0) d (if z = 0 then 0 else t 28 0 d))) t2 ∧ b = t 29 0 d := by grind [!rl_un]
  have ea : a = b := by grind [!rl_un]
  have P : rl_raw nb (kx_up s 8 d (if z = 0 then upd (upd (s 8 d) 1 z) 4 0 else upd (s 8 d) 1 z)) (kx_up (kx_up (kx_up t 14 0 (upd (t 14 0) 22 0)) 29 0 (upd (t 29 0) d z)) 28 0 (upd (t 28 0) d (if z = 0 then 0 else t 28 0 d))) ∧ rl_debts nb (kx_up s 8 d (if z = 0 then upd (upd (s 8 d) 1 z) 4 0 else upd (s 8 d) 1 z)) (kx_up (kx_up (kx_up t 14 0 (upd (t 14 0) 22 0)) 29 0 (upd (t 29 0) d z)) 28 0 (upd (t 28 0) d (if z = 0 then 0 else t 28 0 d))) ∧ ((kx_up (kx_up (kx_up t 14 0 (upd (t 14 0) 22 0)) 29 0 (upd (t 29 0) d z)) 28 0 (upd (t 28 0) d (if z = 0 then 0 else t 28 0 d))) 29 0 = t 29 0 → rl_PT nb (kx_up s 8 d (if z = 0 then upd (upd (s 8 d) 1 z) 4 0 else upd (s 8 d) 1 z)) (kx_up (kx_up (kx_up t 14 0 (upd (t 14 0) 22 0)) 29 0 (upd (t 29 0) d z)) 28 0 (upd (t 28 0) d (if z = 0 then 0 else t 28 0 d)))) := by
    refine rl_doors (fun q m h1 h2 h3 => by simp [kx_up, h2, h3]) (by simp [kx_up, upd]) (by simp [kx_up, upd]) (by simp [kx_up, upd]; exact h.1.2.2.2.2.2.2.1) (fun q h1 h2 => by have e1 : q ≠ 14 := (by omega); have e2 : q ≠ 25 := (by omega); have e3 : q ≠ 26 := (by omega); have e4 : q ≠ 27 := (by omega); have e5 : q ≠ 28 := (by omega); have e6 : q ≠ 29 := (by omega); simp [kx_up, e1, e2, e3, e4, e5, e6]) (fun j h1 h2 => by simp [kx_up, upd, h1, h2]) (fun d2 hd2 => ?_) h
    by_cases e : d2 = d
    · subst e
      obtain ⟨x1, x2, x3, x4, x5, x6, x7, x8⟩ := rl_drs h d2 hd2
      unfold rl_door
      by_cases ez : z = 0
      · simp [kx_up, upd, ez]
        exact ⟨x1, Or.inl rfl, x4, x5, x6⟩
      · simp [kx_up, upd, ez]
        exact ⟨x1, hz, x4, x5, x6, x7⟩
    · exact rl_door_o (by simp [kx_up, e]) (by simp [kx_up, upd, e]) (by simp [kx_up, upd, e]) (by simp [kx_up, upd, e]) (by simp [kx_up, upd, e]) (by simp [kx_up, upd, e]) (rl_drs h d2 hd2)
  have p := rl_chain P.1 P.2.1 nb (Nat.le_refl nb) hsa key.1
  refine ⟨ea, ?_, rl_P_imp p (fun j hj _ => hj)⟩
  rw [tm_SA_14 key.1 22 (by decide) (by decide)]
  simp [kx_up, upd]

