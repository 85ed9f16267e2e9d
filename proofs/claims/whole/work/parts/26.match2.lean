theorem rl_ctx3 {nb : Nat} {s t : kx_S} (h : rl_PT nb s t) : s 0 0 6 = t 14 0 7 ∧ s 4 0 1 = t 14 0 18 ∧ s 4 0 2 = t 14 0 19 ∧ t 14 0 7 = nI nb ∧ (∀ c : Nat, c < 4 → s 5 0 c = tm_feeA t (nI c) nb) ∧ ∀ k, k < nb → tw_st s k (tw_n s k) = tm_st t k (tm_n t k) := by
  have hx := rl_ctx h
  obtain ⟨hr, hd, -⟩ := h
  refine ⟨by rw [hr.2.1, hr.2.2.1], hd.2.1, hd.2.2.1, hr.2.2.1, hd.2.2.2, fun k hk => ?_⟩
  rw [(hx.2.2.1 k hk).1]
  exact rl_st hr hk

theorem rn_time {nb : Nat} {s s1 t t2 : kx_S} {a b : Int32} (h : rl_PT nb s t) (hc : cq_time nb s (some (.int a)) s1) (hm : mq_time nb t (some (.int b)) t2) : a = b ∧ tm_Q t t2 0 ∧ s1 = s := by
  obtain ⟨h16, h07, hb, hdr⟩ := rl_ctx h
  obtain ⟨h06, h41, h42, h147, hfe, hst⟩ := rl_ctx3 h
  unfold cq_time at hc
  unfold mq_time at hm
  grind [!rl_un]

theorem rn_boxes {nb : Nat} {s s1 t t2 : kx_S} {a b : Int32} (h : rl_PT nb s t) (hc : cq_boxes nb s (some (.int a)) s1) (hm : mq_boxes nb t (some (.int b)) t2) : a = b ∧ tm_Q t t2 0 ∧ s1 = s := by
  obtain ⟨h16, h07, hb, hdr⟩ := rl_ctx h
  obtain ⟨h06, h41, h42, h147, hfe, hst⟩ := rl_ctx3 h
  unfold cq_boxes at hc
  unfold mq_boxes at hm
  grind [!rl_un]

theorem rn_scans {nb : Nat} {s s1 t t2 : kx_S} {x : Int32} {a b : Int32} (h : rl_PT nb s t) (hc : cq_scans nb s x (some (.int a)) s1) (hm : mq_scans nb t x (some (.int b)) t2) : a = b ∧ tm_Q t t2 0 ∧ s1 = s := by
  obtain ⟨h16, h07, hb, hdr⟩ := rl_ctx h
  obtain ⟨h06, h41, h42, h147, hfe, hst⟩ := rl_ctx3 h
  unfold cq_scans at hc
  unfold mq_scans at hm
  grind [!rl_un]

theorem rn_story {nb : Nat} {s s1 t t2 : kx_S} {x : Int32} {a b : Int32} (h : rl_PT nb s t) (hc : cq_story nb s x (some (.int a)) s1) (hm : mq_story nb t x (some (.int b)) t2) : a = b ∧ tm_Q t t2 0 ∧ s1 = s := by
  obtain ⟨h16, h07, hb, hdr⟩ := rl_ctx h
  obtain ⟨h06, h41, h42, h147, hfe, hst⟩ := rl_ctx3 h
  unfold cq_story at hc
  unfold mq_story at hm
  grind [!rl_un]

theorem rn_storyOfAll {nb : Nat} {s s1 t t2 : kx_S} {x : Int32} {a b : Int32} (h : rl_PT nb s t) (hc : cq_storyOfAll nb s x (some (.int a)) s1) (hm : mq_storyOfAll nb t x (some (.int b)) t2) : a = b ∧ tm_Q t t2 0 ∧ ∃ f : Nat → Int32, s1 = kx_up s 6 0 f := by
  obtain ⟨h16, h07, hb, hdr⟩ := rl_ctx h
  obtain ⟨h06, h41, h42, h147, hfe, hst⟩ := rl_ctx3 h
  unfold cq_storyOfAll at hc
  unfold mq_storyOfAll at hm
  grind [!rl_un]

theorem rn_placeOf {nb : Nat} {s s1 t t2 : kx_S} {x : Int32} {a b : Int32} (h : rl_PT nb s t) (hc : cq_placeOf nb s x (some (.int a)) s1) (hm : mq_placeOf nb t x (some (.int b)) t2) : a = b ∧ tm_Q t t2 0 ∧ s1 = s := by
  obtain ⟨h16, h07, hb, hdr⟩ := rl_ctx h
  obtain ⟨h06, h41, h42, h147, hfe, hst⟩ := rl_ctx3 h
  unfold cq_placeOf at hc
  unfold mq_placeOf at hm
  grind [!rl_un]

theorem rn_lies {nb : Nat} {s s1 t t2 : kx_S} {x : Int32} {a b : Int32} (h : rl_PT nb s t) (hc : cq_lies nb s x (some (.int a)) s1) (hm : mq_lies nb t x (some (.int b)) t2) : a = b ∧ tm_Q t t2 0 ∧ s1 = s := by
  obtain ⟨h16, h07, hb, hdr⟩ := rl_ctx h
  obtain ⟨h06, h41, h42, h147, hfe, hst⟩ := rl_ctx3 h
  have hl := fun c hc => @rl_lies nb s t h c hc nb (Nat.le_refl nb)
  unfold cq_lies at hc
  unfold mq_lies at hm
  grind [!rl_un]

theorem rn_hasFee {nb : Nat} {s s1 t t2 : kx_S} {x : Int32} {a b : Int32} (h : rl_PT nb s t) (hc : cq_hasFee nb s x (some (.int a)) s1) (hm : mq_hasFee nb t x (some (.int b)) t2) : a = b ∧ tm_Q t t2 0 ∧ s1 = s := by
  obtain ⟨h16, h07, hb, hdr⟩ := rl_ctx h
  obtain ⟨h06, h41, h42, h147, hfe, hst⟩ := rl_ctx3 h
  unfold cq_hasFee at hc
  unfold mq_hasFee at hm
  grind [!rl_un]

theorem rn_isInsured {nb : Nat} {s s1 t t2 : kx_S} {x : Int32} {a b : Int32} (h : rl_PT nb s t) (hc : cq_isInsured nb s x (some (.int a)) s1) (hm : mq_isInsured nb t x (some (.int b)) t2) : a = b ∧ tm_Q t t2 0 ∧ s1 = s := by
  obtain ⟨h16, h07, hb, hdr⟩ := rl_ctx h
  obtain ⟨h06, h41, h42, h147, hfe, hst⟩ := rl_ctx3 h
  unfold cq_isInsured at hc
  unfold mq_isInsured at hm
  grind [!rl_un]

theorem rn_fees {nb : Nat} {s s1 t t2 : kx_S} {x : Int32} {a b : Int32} (h : rl_PT nb s t) (hc : cq_fees nb s x (some (.int a)) s1) (hm : mq_fees nb t x (some (.int b)) t2) : a = b ∧ tm_Q t t2 0 ∧ s1 = s := by
  obtain ⟨h16, h07, hb, hdr⟩ := rl_ctx h
  obtain ⟨h06, h41, h42, h147, hfe, hst⟩ := rl_ctx3 h
  unfold cq_fees at hc
  unfold mq_fees at hm
  grind [!rl_un]

theorem rn_insurers {nb : Nat} {s s1 t t2 : kx_S} {a b : Int32} (h : rl_PT nb s t) (hc : cq_insurers nb s (some (.int a)) s1) (hm : mq_insurers nb t (some (.int b)) t2) : a = b ∧ tm_Q t t2 0 ∧ s1 = s := by
  obtain ⟨h16, h07, hb, hdr⟩ := rl_ctx h
  obtain ⟨h06, h41, h42, h147, hfe, hst⟩ := rl_ctx3 h
  unfold cq_insurers at hc
  unfold mq_insurers at hm
  grind [!rl_un]

theorem rn_entries {nb : Nat} {s s1 t t2 : kx_S} {a b : Int32} (h : rl_PT nb s t) (hc : cq_entries nb s (some (.int a)) s1) (hm : mq_entries nb t (some (.int b)) t2) : a = b ∧ tm_Q t t2 0 ∧ s1 = s := by
  obtain ⟨h16, h07, hb, hdr⟩ := rl_ctx h
  obtain ⟨h06, h41, h42, h147, hfe, hst⟩ := rl_ctx3 h
  unfold cq_entries at hc
  unfold mq_entries at hm
  grind [!rl_un]

theorem rn_fine {nb : Nat} {s s1 t t2 : kx_S} {x : Int32} {a b : Int32} (h : rl_PT nb s t) (hc : cq_fine nb s x (some (.int a)) s1) (hm : mq_fine nb t x (some (.int b)) t2) : a = b ∧ tm_Q t t2 0 ∧ s1 = s := by
  obtain ⟨h16, h07, hb, hdr⟩ := rl_ctx h
  obtain ⟨h06, h41, h42, h147, hfe, hst⟩ := rl_ctx3 h
  have hf := rl_fine h
  unfold cq_fine at hc
  unfold mq_fine at hm
  grind [!rl_un]

theorem rn_isJammed {nb : Nat} {s s1 t t2 : kx_S} {x : Int32} {a b : Int32} (h : rl_PT nb s t) (hc : cq_isJammed nb s x (some (.int a)) s1) (hm : mq_isJammed nb t x (some (.int b)) t2) : a = b ∧ tm_Q t t2 0 ∧ s1 = s := by
  obtain ⟨h16, h07, hb, hdr⟩ := rl_ctx h
  obtain ⟨h06, h41, h42, h147, hfe, hst⟩ := rl_ctx3 h
  unfold cq_isJammed at hc
  unfold mq_isJammed at hm
  grind [!rl_un]

theorem rn_keptFor {nb : Nat} {s s1 t t2 : kx_S} {x : Int32} {a b : Int32} (h : rl_PT nb s t) (hc : cq_keptFor nb s x (some (.int a)) s1) (hm : mq_keptFor nb t x (some (.int b)) t2) : a = b ∧ tm_Q t t2 0 ∧ s1 = s := by
  obtain ⟨h16, h07, hb, hdr⟩ := rl_ctx h
  obtain ⟨h06, h41, h42, h147, hfe, hst⟩ := rl_ctx3 h
  unfold cq_keptFor at hc
  unfold mq_keptFor at hm
  grind [!rl_un]

