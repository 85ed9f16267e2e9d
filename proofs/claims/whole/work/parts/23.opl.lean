/-! what the calls lean on -/
theorem rl_debts_fr {nb : Nat} {s t s' t' : kx_S} (h4 : s' 4 0 = s 4 0) (h5 : s' 5 0 = s 5 0) (h98 : ∀ i, i < nb → s' 9 i 8 = s 9 i 8) (h99 : ∀ i, i < nb → s' 9 i 9 = s 9 i 9) (h910 : ∀ i, i < nb → s' 9 i 10 = s 9 i 10) (t18 : t' 14 0 18 = t 14 0 18) (t19 : t' 14 0 19 = t 14 0 19) (q15 : ∀ i, i < nb → t' 15 0 i = t 15 0 i) (q18 : ∀ i, i < nb → t' 18 0 i = t 18 0 i) (q19 : ∀ i, i < nb → t' 19 0 i = t 19 0 i) (q20 : ∀ i, i < nb → t' 20 0 i = t 20 0 i) (h : rl_debts nb s t) : rl_debts nb s' t' := by
  obtain ⟨d1, d2, d3, d4⟩ := h
  refine ⟨fun i hi => ?_, by rw [h4, t18]; exact d2, by rw [h4, t19]; exact d3, fun c hc => ?_⟩
  · have h := d1 i hi
    unfold rl_debt at h ⊢
    rw [h98 i hi, h99 i hi, h910 i hi, q18 i hi, q19 i hi, q20 i hi]
    exact h
  · rw [h5, d4 c hc, rl_feeA, rl_feeA]
    refine (rl_sum_eq nb (fun j hj => ?_)).symm
    unfold rl_fee
    rw [q15 j hj, q19 j hj, q20 j hj]
theorem rl_raw_fr2 {nb : Nat} {s t s' t' : kx_S} (h6 : s' 0 0 6 = s 0 0 6) (h7 : s' 0 0 7 = t' 14 0 0) (hn : (t 14 0 0).toInt ≤ (t' 14 0 0).toInt) (hn2 : (t' 14 0 0).toInt ≤ 100000) (hk : s' 0 0 8 = t' 14 0 17) (t7 : t' 14 0 7 = t 14 0 7) (htr : ∀ w, w < 14 → s' 3 0 w = t' 24 0 w ∧ 1 ≤ (t' 24 0 w).toInt ∧ (t' 24 0 w).toInt ≤ 9) (hdr : ∀ d, d < 10 → rl_door nb s' t' d)
    (h90 : ∀ i, s' 9 i 0 = s 9 i 0) (h91 : ∀ i, s' 9 i 1 = s 9 i 1) (h96 : ∀ i, s' 9 i 6 = s 9 i 6) (h10 : ∀ i, s' 10 i = s 10 i) (h11 : ∀ i, s' 11 i = s 11 i) (h12 : ∀ i, s' 12 i = s 12 i) (h13 : ∀ i, s' 13 i = s 13 i) (q15 : t' 15 0 = t 15 0) (q16 : t' 16 0 = t 16 0) (q17 : t' 17 0 = t 17 0) (q21 : t' 21 0 = t 21 0) (q22 : t' 22 0 = t 22 0) (q23 : t' 23 0 = t 23 0) (t18 : ∀ i, nb ≤ i → t' 18 0 i = t 18 0 i) (t19 : ∀ i, nb ≤ i → t' 19 0 i = t 19 0 i) (h : rl_raw nb s t) : rl_raw nb s' t' := by
  have en : ∀ i, tm_n t' i = tm_n t i := fun i => by unfold tm_n; rw [q17]
  obtain ⟨a1, a2, a3, a4, a5, a6, a7, a8, a9, a10, a11⟩ := h
  refine ⟨a1, by rw [h6]; exact a2, by rw [t7]; exact a3, h7, by omega, hn2, hk, htr, hdr, fun i hi => ?_, fun i h1 h2 => ?_⟩
  · have h := a10 i hi
    unfold rl_box at h ⊢
    rw [en, h90, h91, h96, q15, q16, q17]
    refine ⟨h.1, h.2.1, h.2.2.1, h.2.2.2.1, h.2.2.2.2.1, fun k hk => ?_⟩
    have h2 := h.2.2.2.2.2 k hk
    unfold rl_scan at h2 ⊢
    rw [h10, h11, h12, h13, q21, q22, q23]
    exact ⟨h2.1, h2.2.1, by omega, h2.2.2.2⟩
  · rw [q17, t18 i h1, t19 i h1]
    exact a11 i h1 h2
theorem rl_up_fr2 {s t s' t' : kx_S} {i : Nat} (h7 : s' 9 i 7 = s 9 i 7) (h17 : t' 17 0 i = t 17 0 i) (h18 : t' 18 0 i = t 18 0 i) (h19 : t' 19 0 i = t 19 0 i) (hk : ∀ k, k < tm_n t i → t' 21 0 (12 * i + k) = t 21 0 (12 * i + k) ∧ t' 22 0 (12 * i + k) = t 22 0 (12 * i + k) ∧ t' 23 0 (12 * i + k) = t 23 0 (12 * i + k)) (h24 : t' 24 0 = t 24 0) (h29 : t' 29 0 = t 29 0) (h : rl_up s t i) : rl_up s' t' i := by
  have en : tm_n t' i = tm_n t i := by unfold tm_n; rw [h17]
  have est : tm_st t' i (tm_n t i) = tm_st t i (tm_n t i) := by
    unfold tm_st tm_S
    rw [dp_best_congr (tm_n t i) (dp_S_congr (n := tm_n t i) (w' := tm_w t i) (fo' := tm_f t i) (st' := tm_s t i) (fun k hk2 => ?_) (fun k hk2 => ?_) (fun k hk2 j hj => ?_))]
    · unfold tm_w; rw [h24, h29, (hk k hk2).2.2]
    · unfold tm_s; rw [(hk k hk2).1, (hk k hk2).2.1]
    · unfold tm_f; rw [(hk k hk2).1, (hk k hk2).2.1, (hk j (by omega)).1, (hk j (by omega)).2.1]
  have edl : tm_dl t' i (tm_n t i) = tm_dl t i (tm_n t i) := by
    unfold tm_dl
    rw [est, tw_last_congr (f := tm_pl t' i) (g := tm_pl t i) (tm_n t i) (fun k hk2 => (hk k hk2).1)]
  unfold rl_up
  rw [en, est, edl, h7, h18, h19]
  exact h
/-- a scan is put down, in the town and in the reference -/
theorem rl_add {nb : Nat} {s t s1 t2 : kx_S} {i : Nat} {q w : Int32} {mj : Nat} {n : Nat} (hnn : tm_n t i = n) (h : rl_P nb s t (fun _ => True)) (hi : i < nb) (h12 : n < 12) (hq : tw_pl q = true) (hw : tw_who w) (hmj : mj = tw_mk w) (ha : tw_AS s i n q mj s1) (ht : tm_SA nb (tm_add (kx_up t 14 0 (upd (t 14 0) 22 0)) i n q w) t2) : rl_P nb s1 t2 (fun _ => True) ∧ t2 14 0 22 = 0 := by
  obtain ⟨hr, hd, hu⟩ := h
  obtain ⟨a, sN, ⟨hb12, hbj⟩, hsN, hsr⟩ := ha
  obtain ⟨tA, htA⟩ : ∃ z, z = tm_add (kx_up t 14 0 (upd (t 14 0) 22 0)) i n q w := ⟨_, rfl⟩
  rw [← htA] at ht
  have A14 : ∀ j, j ≠ 22 → tA 14 0 j = t 14 0 j := fun j hj => by rw [htA]; simp [tm_add, kx_up, upd, hj]
  have A14b : tA 14 0 22 = 0 := by rw [htA]; simp [tm_add, kx_up, upd]
  have Aq : ∀ q', 15 ≤ q' → q' ≤ 29 → q' ≠ 17 → q' ≠ 21 → q' ≠ 22 → q' ≠ 23 → tA q' 0 = t q' 0 := fun q' x1 x2 x3 x4 x5 x6 => by
    have x0 : q' ≠ 14 := by omega
    rw [htA]; simp [tm_add, kx_up, x0, x3, x4, x5, x6]
  have A17 : tA 17 0 = upd (t 17 0) i (nI (n + 1)) := by rw [htA]; simp [tm_add, kx_up]
  have A21 : tA 21 0 = upd (t 21 0) (12 * i + n) q := by rw [htA]; simp [tm_add, kx_up]
  have A22 : tA 22 0 = upd (t 22 0) (12 * i + n) (t 14 0 0) := by rw [htA]; simp [tm_add, kx_up, upd]
  have A23 : tA 23 0 = upd (t 23 0) (12 * i + n) w := by rw [htA]; simp [tm_add, kx_up]
  have S9 : sN 9 i = upd (s 9 i) 6 (nI (n + 1)) := by rw [hsN]; simp [kx_up]
  have S9o : ∀ m, m ≠ i → sN 9 m = s 9 m := fun m hm => by rw [hsN]; simp [kx_up, hm]
  have S10 : sN 10 i = upd (s 10 i) n (s 0 0 7) := by rw [hsN]; simp [kx_up]
  have S11 : sN 11 i = upd (s 11 i) n q := by rw [hsN]; simp [kx_up]
  have S12 : sN 12 i = upd (s 12 i) n (nI mj) := by rw [hsN]; simp [kx_up]
  have S13 : sN 13 i = upd (s 13 i) n a := by rw [hsN]; simp [kx_up]
  have So : ∀ q' m, q' ≤ 8 → sN q' m = s q' m := fun q' m hq' => by
    have x1 : q' ≠ 9 := by omega
    have x2 : q' ≠ 10 := by omega
    have x3 : q' ≠ 11 := by omega
    have x4 : q' ≠ 12 := by omega
    have x5 : q' ≠ 13 := by omega
    rw [hsN]; simp [kx_up, x1, x2, x3, x4, x5]
  have Som : ∀ q' m, m ≠ i → sN q' m = s q' m := fun q' m hm => by rw [hsN]; simp [kx_up, hm]
  have enA : tm_n tA i = n + 1 := tm_n_eq (by rw [A17, upd_s]) (by omega)
  have enO : ∀ m, m ≠ i → tm_n tA m = tm_n t m := fun m hm => by unfold tm_n; rw [A17, upd_n hm]
  have hrA : rl_raw nb sN tA := by
    obtain ⟨a1, a2, a3, a4, a5, a6, a7, a8, a9, a10, a11⟩ := hr
    refine ⟨a1, by rw [So 0 0 (by decide)]; exact a2, by rw [A14 7 (by decide)]; exact a3, by rw [So 0 0 (by decide), A14 0 (by decide)]; exact a4, by rw [A14 0 (by decide)]; exact a5, by rw [A14 0 (by decide)]; exact a6, by rw [So 0 0 (by decide), A14 17 (by decide)]; exact a7, fun x hx => by rw [So 3 0 (by decide), Aq 24 (by decide) (by decide) (by decide) (by decide) (by decide) (by decide)]; exact a8 x hx, fun d hd1 => ?_, fun j hj => ?_, fun j h1 h2 => ?_⟩
    · have h := a9 d hd1
      unfold rl_door at h ⊢
      rw [So 8 d (by decide), Aq 25 (by decide) (by decide) (by decide) (by decide) (by decide) (by decide), Aq 26 (by decide) (by decide) (by decide) (by decide) (by decide) (by decide), Aq 27 (by decide) (by decide) (by decide) (by decide) (by decide) (by decide), Aq 28 (by decide) (by decide) (by decide) (by decide) (by decide) (by decide), Aq 29 (by decide) (by decide) (by decide) (by decide) (by decide) (by decide)]
      exact h
    · have h := a10 j hj
      by_cases e : j = i
      · subst e
        unfold rl_box at h ⊢
        rw [enA]
        rw [hnn] at h
        obtain ⟨b1, b2, b3, b4, b5, b6⟩ := h
        refine ⟨by rw [S9, upd_n (by decide), Aq 15 (by decide) (by decide) (by decide) (by decide) (by decide) (by decide)]; exact b1, by rw [S9, upd_n (by decide), Aq 16 (by decide) (by decide) (by decide) (by decide) (by decide) (by decide)]; exact b2, by rw [S9, upd_s], by rw [A17, upd_s], by omega, fun k hk => ?_⟩
        by_cases ek : k = n
        · subst ek
          unfold rl_scan
          rw [S10, S11, S12, S13, A21, A22, A23, A14 0 (by decide)]
          simp only [upd_s]
          refine ⟨a4, a5, Int.le_refl _, trivial, hq, hw, by rw [hmj], hb12, fun j2 hj2 => ?_⟩
          rw [hbj j2 hj2, upd_n (by omega), upd_n (by omega)]
        · have h2 := b6 k (by omega)
          unfold rl_scan at h2 ⊢
          rw [S10, S11, S12, S13, A21, A22, A23, A14 0 (by decide)]
          rw [upd_n ek, upd_n ek, upd_n ek, upd_n ek, upd_n (by omega), upd_n (by omega), upd_n (by omega)]
          obtain ⟨x1, x2, x3, x4, x5, x6, x7, x8, x9⟩ := h2
          refine ⟨x1, x2, x3, x4, x5, x6, x7, x8, fun j2 hj2 => ?_⟩
          rw [x9 j2 hj2, upd_n (by omega), upd_n (by omega)]
      · unfold rl_box at h ⊢
        rw [enO j e, Som 9 j e, A17, upd_n e, Aq 15 (by decide) (by decide) (by decide) (by decide) (by decide) (by decide), Aq 16 (by decide) (by decide) (by decide) (by decide) (by decide) (by decide)]
        obtain ⟨b1, b2, b3, b4, b5, b6⟩ := h
        refine ⟨b1, b2, b3, b4, b5, fun k hk => ?_⟩
        have h2 := b6 k hk
        unfold rl_scan at h2 ⊢
        rw [Som 10 j e, Som 11 j e, Som 12 j e, Som 13 j e, A21, A22, A23, A14 0 (by decide), upd_n (by omega), upd_n (by omega), upd_n (by omega)]
        exact h2
    · rw [A17, upd_n (by omega), Aq 18 (by decide) (by decide) (by decide) (by decide) (by decide) (by decide), Aq 19 (by decide) (by decide) (by decide) (by decide) (by decide) (by decide)]
      exact a11 j h1 h2
  have h9f : ∀ m j, j ≠ 6 → sN 9 m j = s 9 m j := fun m j hj => by
    by_cases e : m = i
    · rw [e, S9, upd_n hj]
    · rw [S9o m e]
  have hdA : rl_debts nb sN tA := rl_debts_fr (So 4 0 (by decide)) (So 5 0 (by decide)) (fun m _ => h9f m 8 (by decide)) (fun m _ => h9f m 9 (by decide)) (fun m _ => h9f m 10 (by decide)) (A14 18 (by decide)) (A14 19 (by decide)) (fun m _ => by rw [Aq 15 (by decide) (by decide) (by decide) (by decide) (by decide) (by decide)]) (fun m _ => by rw [Aq 18 (by decide) (by decide) (by decide) (by decide) (by decide) (by decide)]) (fun m _ => by rw [Aq 19 (by decide) (by decide) (by decide) (by decide) (by decide) (by decide)]) (fun m _ => by rw [Aq 20 (by decide) (by decide) (by decide) (by decide) (by decide) (by decide)]) hd
  have hP : rl_P nb sN tA (fun j => j ≠ i) := by
    refine ⟨hrA, hdA, fun j hj hji => ?_⟩
    have hn12 := (hr.2.2.2.2.2.2.2.2.2.1 j hj).2.2.2.2.1
    exact rl_up_fr2 (h9f j 7 (by decide)) (by rw [A17, upd_n hji]) (by rw [Aq 18 (by decide) (by decide) (by decide) (by decide) (by decide) (by decide)]) (by rw [Aq 19 (by decide) (by decide) (by decide) (by decide) (by decide) (by decide)]) (fun k hk => ⟨by rw [A21, upd_n (by omega)], by rw [A22, upd_n (by omega)], by rw [A23, upd_n (by omega)]⟩) (Aq 24 (by decide) (by decide) (by decide) (by decide) (by decide) (by decide)) (Aq 29 (by decide) (by decide) (by decide) (by decide) (by decide) (by decide)) (hu j hj trivial)
  have hst : tw_St sN i s1 := ⟨n + 1, by rw [S9, upd_s], by omega, hsr⟩
  exact ⟨(rl_virt hi hst hP nb (Nat.le_refl nb) ht).2 hi, by rw [tm_SA_14 ht 22 (by decide) (by decide)]; exact A14b⟩
