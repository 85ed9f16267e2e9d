theorem rl_up_mk {s' t t' : kx_S} {i : Nat} (h17 : t' 17 0 = t 17 0) (h21 : t' 21 0 = t 21 0) (h22 : t' 22 0 = t 22 0) (h23 : t' 23 0 = t 23 0) (h24 : t' 24 0 = t 24 0) (h29 : t' 29 0 = t 29 0) (a : s' 9 i 7 = tm_st t i (tm_n t i)) (b : t' 19 0 i = tw_b (tm_dl t i (tm_n t i))) (c : tm_dl t i (tm_n t i) = true → t' 18 0 i = 0) : rl_up s' t' i := by
  have en : tm_n t' i = tm_n t i := by unfold tm_n; rw [h17]
  have est : ∀ n, tm_st t' i n = tm_st t i n := fun n => tm_st_eq h21 h22 h23 h24 h29
  have epl : tm_pl t' i = tm_pl t i := by unfold tm_pl; rw [h21]
  have edl : ∀ n, tm_dl t' i n = tm_dl t i n := fun n => by unfold tm_dl; rw [est, epl]
  unfold rl_up
  rw [en, est, edl]
  exact ⟨a, b, c⟩
theorem tm_deb_20 (dl : Bool) (i : Nat) (co v : Int32) (x : tm_R) : (tm_debB dl i co (tm_debA dl i v x)).2.2.2 i = if tw_b dl = x.2.2.1 i then x.2.2.2 i else co := by
  have hA : (tm_debA dl i v x).2.2.1 = x.2.2.1 ∧ (tm_debA dl i v x).2.2.2 = x.2.2.2 := by
    unfold tm_debA; split <;> exact ⟨rfl, rfl⟩
  unfold tm_debB
  rw [hA.1, hA.2]
  by_cases h : tw_b dl = x.2.2.1 i
  · rw [if_neg (fun z => z h), if_pos h, hA.2]
  · rw [if_pos h, if_neg h]
    exact upd_s
theorem tw_m10 (a : Int32) : 10 * a + (-10) * a = 0 := by
  rw [← Int32.add_mul, show ((10 : Int32) + -10) = 0 from by decide, Int32.zero_mul]
theorem rl_step {nb : Nat} {s t s' t' : kx_S} {i : Nat} (hr : rl_raw nb s t) (hd : rl_debts nb s t) (hi : i < nb) (hs : tw_St s i s') (ht : tm_St t i t') : rl_raw nb s' t' ∧ rl_debts nb s' t' ∧ rl_up s' t' i ∧ ∀ j, j < nb → j ≠ i → rl_up s t j → rl_up s' t' j := by
  obtain ⟨n, hn, h12, hf, g9, g4, g5⟩ := hs
  obtain ⟨n2, hn2, h122, kf, k14, k18, k19, k20⟩ := ht
  have hbox := hr.2.2.2.2.2.2.2.2.2.1 i hi
  have en2 := tm_n_eq hn2 h122
  subst en2
  have en : n = tm_n t i := (nI_eq (by omega) (by omega)).mp (hn.symm.trans hbox.2.2.1)
  subst en
  have eT : tw_stl s i (tm_n t i) = tw_deb (tm_dl t i (tm_n t i)) (tm_co t i (tm_n t i)) (upd (s 9 i) 7 (tm_st t i (tm_n t i)), s 4 0, s 5 0) := by
    unfold tw_stl tm_dl tm_co
    rw [rl_st hr hi, rl_last hr hi, rl_cour hr hi]
  have f9 : ∀ j, j ≠ 7 → j ≠ 8 → j ≠ 9 → j ≠ 10 → s' 9 i j = s 9 i j := fun j a b c d => by rw [g9]; exact tw_stl_f s i _ a b c d
  have f9o : ∀ m, m ≠ i → s' 9 m = s 9 m := fun m hm => hf 9 m (by decide) (by decide) (by decide) (by decide) (fun z => hm z.2)
  have f9a : ∀ m j, j ≠ 7 → j ≠ 8 → j ≠ 9 → j ≠ 10 → s' 9 m j = s 9 m j := fun m j a b c d => by
    by_cases e : m = i
    · rw [e]; exact f9 j a b c d
    · rw [f9o m e]
  have fo : ∀ q m, q ≠ 4 → q ≠ 5 → q ≠ 6 → q ≠ 7 → q ≠ 9 → s' q m = s q m := fun q m a b c d e => hf q m a b c d (fun z => e z.1)
  have kq : ∀ q, 15 ≤ q → q ≤ 29 → q ≠ 18 → q ≠ 19 → q ≠ 20 → t' q 0 = t q 0 := fun q a b c d e => kf q 0 (by omega) c d e (by omega) (by omega)
  have k18o : ∀ j, j ≠ i → t' 18 0 j = t 18 0 j ∧ t' 19 0 j = t 19 0 j ∧ t' 20 0 j = t 20 0 j := fun j hj => by
    rw [k18, k19, k20]
    exact tm_deb_18 (tm_dl t i (tm_n t i)) i (tm_co t i (tm_n t i)) (t 16 0 i) (t 14 0, t 18 0, t 19 0, t 20 0) hj
  have k14o : ∀ j, j ≠ 18 → j ≠ 19 → t' 14 0 j = t 14 0 j := fun j a b => by rw [k14]; exact tm_stl_f t i _ a b
  obtain ⟨d1, dl1, dl2, dsum⟩ := hd
  obtain ⟨b8, b9, b18, b19, b10⟩ := d1 i hi
  have K := rl_deb (dl := tm_dl t i (tm_n t i)) (co := tm_co t i (tm_n t i)) (i := i) (R := upd (s 9 i) 7 (tm_st t i (tm_n t i))) (Lg := s 4 0) (Fs := s 5 0) (M14 := t 14 0) (M18 := t 18 0) (M19 := t 19 0) (M20 := t 20 0) (v := t 16 0 i) ((upd_n (by decide)).trans hbox.2.1) ((upd_n (by decide)).trans b8) ((upd_n (by decide)).trans b9) b18 b19 (fun h => (upd_n (by decide)).trans (b10 h)) dl1 dl2
  obtain ⟨K1, K2, K3, K4, K5, K6, K7, K8, K9, K10⟩ := K
  rw [eT] at g9 g4 g5
  have e20 := tm_deb_20 (tm_dl t i (tm_n t i)) i (tm_co t i (tm_n t i)) (t 16 0 i) (t 14 0, t 18 0, t 19 0, t 20 0)
  have k14' : t' 14 0 = (tm_debB (tm_dl t i (tm_n t i)) i (tm_co t i (tm_n t i)) (tm_debA (tm_dl t i (tm_n t i)) i (t 16 0 i) (t 14 0, t 18 0, t 19 0, t 20 0))).1 := k14
  have k18' : t' 18 0 = (tm_debB (tm_dl t i (tm_n t i)) i (tm_co t i (tm_n t i)) (tm_debA (tm_dl t i (tm_n t i)) i (t 16 0 i) (t 14 0, t 18 0, t 19 0, t 20 0))).2.1 := k18
  have k19' : t' 19 0 = (tm_debB (tm_dl t i (tm_n t i)) i (tm_co t i (tm_n t i)) (tm_debA (tm_dl t i (tm_n t i)) i (t 16 0 i) (t 14 0, t 18 0, t 19 0, t 20 0))).2.2.1 := k19
  have k20' : t' 20 0 = (tm_debB (tm_dl t i (tm_n t i)) i (tm_co t i (tm_n t i)) (tm_debA (tm_dl t i (tm_n t i)) i (t 16 0 i) (t 14 0, t 18 0, t 19 0, t 20 0))).2.2.2 := k20
  rw [← g9] at K1 K2 K5 K9
  rw [← g4] at K6 K7
  rw [← k14'] at K6 K7
  rw [← k18'] at K1 K3 K8
  rw [← k19'] at K2 K4 K5
  rw [← k20'] at K5 e20
  refine ⟨?_, ⟨fun j hj => ?_, K6, K7, fun c hc => ?_⟩, ?_, fun j hj hji hu => ?_⟩
  · exact rl_raw_fr (fo 0 0 (by decide) (by decide) (by decide) (by decide) (by decide)) (fo 3 0 (by decide) (by decide) (by decide) (by decide) (by decide)) (fun d => fo 8 d (by decide) (by decide) (by decide) (by decide) (by decide)) (fun m => f9a m 0 (by decide) (by decide) (by decide) (by decide)) (fun m => f9a m 1 (by decide) (by decide) (by decide) (by decide)) (fun m => f9a m 6 (by decide) (by decide) (by decide) (by decide)) (fun m => fo 10 m (by decide) (by decide) (by decide) (by decide) (by decide)) (fun m => fo 11 m (by decide) (by decide) (by decide) (by decide) (by decide)) (fun m => fo 12 m (by decide) (by decide) (by decide) (by decide) (by decide)) (fun m => fo 13 m (by decide) (by decide) (by decide) (by decide) (by decide)) (k14o 0 (by decide) (by decide)) (k14o 7 (by decide) (by decide)) (k14o 17 (by decide) (by decide)) kq (fun m hm => (k18o m (by omega)).1) (fun m hm => (k18o m (by omega)).2.1) hr
  · by_cases e : j = i
    · subst e
      refine ⟨K1, K2, K3, ?_, K5⟩
      rw [K4]; exact tw_b_01 _
    · have h := d1 j hj
      unfold rl_debt at h ⊢
      rw [f9o j e, (k18o j e).1, (k18o j e).2.1, (k18o j e).2.2]
      exact h
  · have h10 := (K10 c hc).1
    rw [← g5] at h10
    rw [h10, dsum c hc, rl_feeA, rl_feeA]
    refine (rl_sum_up (i := i) ?_ (fun j hj => ?_) nb hi).symm
    · unfold rl_fee
      rw [K4, e20, kq 15 (by decide) (by decide) (by decide) (by decide) (by decide)]
      rw [show upd (s 9 i) 7 (tm_st t i (tm_n t i)) 0 = t 15 0 i from (upd_n (by decide)).trans hbox.1]
      show (if ¬ tw_b (tm_dl t i (tm_n t i)) = 0 ∧ (if tw_b (tm_dl t i (tm_n t i)) = t 19 0 i then t 20 0 i else tm_co t i (tm_n t i)) = nI c then 10 * t 15 0 i else 0) = _
      by_cases c19 : t 19 0 i = 0
      · cases tm_dl t i (tm_n t i)
        · simp [tw_b, c19]
        · simp [tw_b, c19]
      · have e1 := tw_ins (f := 0) b19 c19
        cases tm_dl t i (tm_n t i)
        · simp [tw_b, e1]
          split
          · exact (tw_m10 _).symm
          · rfl
        · simp [tw_b, e1]
    · unfold rl_fee
      rw [(k18o j hj).2.1, (k18o j hj).2.2, kq 15 (by decide) (by decide) (by decide) (by decide) (by decide)]
  · refine rl_up_mk (kq 17 (by decide) (by decide) (by decide) (by decide) (by decide)) (kq 21 (by decide) (by decide) (by decide) (by decide) (by decide)) (kq 22 (by decide) (by decide) (by decide) (by decide) (by decide)) (kq 23 (by decide) (by decide) (by decide) (by decide) (by decide)) (kq 24 (by decide) (by decide) (by decide) (by decide) (by decide)) (kq 29 (by decide) (by decide) (by decide) (by decide) (by decide)) ?_ K4 K8
    rw [K9]; exact upd_s
  · exact rl_up_fr (by rw [f9o j hji]) (kq 17 (by decide) (by decide) (by decide) (by decide) (by decide)) (k18o j hji).1 (k18o j hji).2.1 (kq 21 (by decide) (by decide) (by decide) (by decide) (by decide)) (kq 22 (by decide) (by decide) (by decide) (by decide) (by decide)) (kq 23 (by decide) (by decide) (by decide) (by decide) (by decide)) (kq 24 (by decide) (by decide) (by decide) (by decide) (by decide)) (kq 29 (by decide) (by decide) (by decide) (by decide) (by decide)) hu
/-- nothing of the reference is another, but thrown and the rows of sums -/
def tm_same (t t' : kx_S) : Prop := (∀ q, 15 ≤ q → q ≤ 29 → t' q 0 = t q 0) ∧ ∀ j, j ≠ 22 → t' 14 0 j = t 14 0 j
/-- nothing of the town is another, but the rows that stories are weighed in -/
def ts_same (s s' : kx_S) : Prop := ∀ q m, q ≤ 13 → q ≠ 6 → q ≠ 7 → (q = 4 → m = 0) → (q = 5 → m = 0) → s' q m = s q m
def rl_P (nb : Nat) (s t : kx_S) (U : Nat → Prop) : Prop := rl_raw nb s t ∧ rl_debts nb s t ∧ ∀ j, j < nb → U j → rl_up s t j
theorem rl_same {nb : Nat} {s t s' t' : kx_S} {U : Nat → Prop} (hs : ts_same s s') (ht : tm_same t t') (h : rl_P nb s t U) : rl_P nb s' t' U := by
  obtain ⟨hr, ⟨d1, d2, d3, d4⟩, hu⟩ := h
  have e18 := ht.1 18 (by decide) (by decide)
  have e19 := ht.1 19 (by decide) (by decide)
  have e20 := ht.1 20 (by decide) (by decide)
  have e15 := ht.1 15 (by decide) (by decide)
  refine ⟨?_, ⟨fun i hi => ?_, ?_, ?_, fun c hc => ?_⟩, fun j hj hU => ?_⟩
  · exact rl_raw_fr (hs 0 0 (by decide) (by decide) (by decide) (by omega) (by omega)) (hs 3 0 (by decide) (by decide) (by decide) (by omega) (by omega)) (fun d => hs 8 d (by decide) (by decide) (by decide) (by omega) (by omega)) (fun m => by rw [hs 9 m (by decide) (by decide) (by decide) (by omega) (by omega)]) (fun m => by rw [hs 9 m (by decide) (by decide) (by decide) (by omega) (by omega)]) (fun m => by rw [hs 9 m (by decide) (by decide) (by decide) (by omega) (by omega)]) (fun m => hs 10 m (by decide) (by decide) (by decide) (by omega) (by omega)) (fun m => hs 11 m (by decide) (by decide) (by decide) (by omega) (by omega)) (fun m => hs 12 m (by decide) (by decide) (by decide) (by omega) (by omega)) (fun m => hs 13 m (by decide) (by decide) (by decide) (by omega) (by omega)) (ht.2 0 (by decide)) (ht.2 7 (by decide)) (ht.2 17 (by decide)) (fun q a b _ _ _ => ht.1 q a b) (fun m _ => by rw [e18]) (fun m _ => by rw [e19]) hr
  · have h := d1 i hi
    unfold rl_debt at h ⊢
    rw [hs 9 i (by decide) (by decide) (by decide) (by omega) (by omega), e18, e19, e20]
    exact h
  · rw [hs 4 0 (by decide) (by decide) (by decide) (by omega) (by omega), ht.2 18 (by decide)]; exact d2
  · rw [hs 4 0 (by decide) (by decide) (by decide) (by omega) (by omega), ht.2 19 (by decide)]; exact d3
  · rw [hs 5 0 (by decide) (by decide) (by decide) (by omega) (by omega), d4 c hc, rl_feeA, rl_feeA]
    unfold rl_fee
    rw [e19, e20, e15]
  · exact rl_up_fr (by rw [hs 9 j (by decide) (by decide) (by decide) (by omega) (by omega)]) (ht.1 17 (by decide) (by decide)) (by rw [e18]) (by rw [e19]) (ht.1 21 (by decide) (by decide)) (ht.1 22 (by decide) (by decide)) (ht.1 23 (by decide) (by decide)) (ht.1 24 (by decide) (by decide)) (ht.1 29 (by decide) (by decide)) (hu j hj hU)
theorem ts_same_r {s : kx_S} : ts_same s s := fun _ _ _ _ _ _ _ => rfl
theorem tm_same_r {t : kx_S} : tm_same t t := ⟨fun _ _ _ => rfl, fun _ _ => rfl⟩
theorem tm_Q_same {t t' : kx_S} {v : Int32} (h : tm_Q t t' v) : tm_same t t' := ⟨fun q a b => h.1 q 0 (fun z => by omega) (by omega) (by omega), h.2.1⟩
theorem rl_P_imp {nb : Nat} {s t : kx_S} {U V : Nat → Prop} (h : rl_P nb s t U) (hv : ∀ j, j < nb → V j → U j) : rl_P nb s t V := ⟨h.1, h.2.1, fun j hj hV => h.2.2 j hj (hv j hj hV)⟩
/-- a box that is settled: the reference leaves it -/
theorem rl_noop_t {s t t' : kx_S} {i : Nat} (hu : rl_up s t i) (ht : tm_St t i t') : tm_same t t' := by
  obtain ⟨n, hn, h12, kf, k14, k18, k19, k20⟩ := ht
  have en := tm_n_eq hn h12
  subst en
  obtain ⟨-, h19, h18⟩ := hu
  have e : tm_stl t i (tm_n t i) = (t 14 0, t 18 0, t 19 0, t 20 0) := by
    unfold tm_stl
    have eA : tm_debA (tm_dl t i (tm_n t i)) i (t 16 0 i) (t 14 0, t 18 0, t 19 0, t 20 0) = (t 14 0, t 18 0, t 19 0, t 20 0) := if_neg (fun z => z.2 (h18 z.1))
    rw [eA]
    exact if_neg (fun z => z h19.symm)
  rw [e] at k14 k18 k19 k20
  refine ⟨fun q a b => ?_, fun j hj => by rw [k14]⟩
  by_cases e18 : q = 18
  · rw [e18]; exact k18
  · by_cases e19 : q = 19
    · rw [e19]; exact k19
    · by_cases e20 : q = 20
      · rw [e20]; exact k20
      · exact kf q 0 (by omega) e18 e19 e20 (by omega) (by omega)
theorem upd_self {r : Nat → Int32} {k : Nat} {v : Int32} (h : r k = v) : upd r k v = r := by
  funext j
  by_cases e : j = k
  · rw [e, upd_s]; exact h.symm
  · exact upd_n e
/-- a box that is settled: the town leaves it -/
theorem rl_noop_s {nb : Nat} {s t s' : kx_S} {i : Nat} (hr : rl_raw nb s t) (hd : rl_debts nb s t) (hi : i < nb) (hu : rl_up s t i) (hs : tw_St s i s') : ts_same s s' := by
  obtain ⟨n, hn, h12, hf, g9, g4, g5⟩ := hs
  have hbox := hr.2.2.2.2.2.2.2.2.2.1 i hi
  have en : n = tm_n t i := (nI_eq (by omega) (by have := hbox.2.2.2.2.1; omega)).mp (hn.symm.trans hbox.2.2.1)
  subst en
  have eT : tw_stl s i (tm_n t i) = tw_deb (tm_dl t i (tm_n t i)) (tm_co t i (tm_n t i)) (upd (s 9 i) 7 (tm_st t i (tm_n t i)), s 4 0, s 5 0) := by
    unfold tw_stl tm_dl tm_co
    rw [rl_st hr hi, rl_last hr hi, rl_cour hr hi]
  obtain ⟨h7, h19, h18⟩ := hu
  obtain ⟨b8, b9, -⟩ := hd.1 i hi
  rw [upd_self h7] at eT
  have e : tw_stl s i (tm_n t i) = (s 9 i, s 4 0, s 5 0) := by
    rw [eT]
    unfold tw_deb
    have eA : tw_debA (tm_dl t i (tm_n t i)) (s 9 i, s 4 0, s 5 0) = (s 9 i, s 4 0, s 5 0) := if_neg (fun z => z.2 (b8.trans (h18 z.1)))
    have eB : tw_debB (tm_dl t i (tm_n t i)) (tm_co t i (tm_n t i)) (s 9 i, s 4 0, s 5 0) = (s 9 i, s 4 0, s 5 0) := if_neg (fun z => by
      have z2 : s 9 i 9 = 0 := z.2
      rw [b9, h19, z.1] at z2
      exact absurd z2 (by decide))
    have eC : tw_debC (tm_dl t i (tm_n t i)) (s 9 i, s 4 0, s 5 0) = (s 9 i, s 4 0, s 5 0) := if_neg (fun z => by
      have z2 : ¬ s 9 i 9 = 0 := z.2
      rw [b9, h19, z.1] at z2
      exact z2 rfl)
    rw [eA, eB, eC]
  rw [e] at g9 g4 g5
  intro q m hq h6 h7 h4 h5
  by_cases e4 : q = 4
  · rw [e4, h4 e4]; exact g4
  · by_cases e5 : q = 5
    · rw [e5, h5 e5]; exact g5
    · by_cases e9 : q = 9 ∧ m = i
      · rw [e9.1, e9.2]; exact g9
      · exact hf q m e4 e5 h6 h7 e9
/-- all boxes of both, one behind the other -/
theorem rl_chain {nb : Nat} {s t : kx_S} (hr : rl_raw nb s t) (hd : rl_debts nb s t) : ∀ k, k ≤ nb → ∀ {s' t' : kx_S}, tw_SA k s s' → tm_SA k t t' → rl_P nb s' t' (fun j => j < k) := by
  intro k
  induction k with
  | zero =>
    intro _ s' t' hs ht
    rw [show s' = s from hs, show t' = t from ht]
    exact ⟨hr, hd, fun j _ h => absurd h (Nat.not_lt_zero j)⟩
  | succ k ih =>
    intro hk s' t' hs ht
    obtain ⟨s1, hs1, hs2⟩ := hs
    obtain ⟨t1, ht1, ht2⟩ := ht
    obtain ⟨r1, d1, u1⟩ := ih (by omega) hs1 ht1
    obtain ⟨r2, d2, u2, u3⟩ := rl_step r1 d1 (by omega) hs2 ht2
    refine ⟨r2, d2, fun j hj hjk => ?_⟩
    by_cases e : j = k
    · rw [e]; exact u2
    · exact u3 j hj e (u1 j hj (by omega))
/-- one box of the town, all of the reference: the others stood settled -/
theorem rl_virt {nb : Nat} {s s' t : kx_S} {i : Nat} (hi : i < nb) (hst : tw_St s i s') (h : rl_P nb s t (fun j => j ≠ i)) : ∀ k, k ≤ nb → ∀ {tk : kx_S}, tm_SA k t tk → (k ≤ i → rl_P nb s tk (fun j => j ≠ i)) ∧ (i < k → rl_P nb s' tk (fun _ => True)) := by
  intro k
  induction k with
  | zero =>
    intro _ tk ht
    rw [show tk = t from ht]
    exact ⟨fun _ => h, fun z => absurd z (Nat.not_lt_zero i)⟩
  | succ k ih =>
    intro hk tk ht
    obtain ⟨t1, ht1, ht2⟩ := ht
    obtain ⟨a, b⟩ := ih (by omega) ht1
    refine ⟨fun hki => ?_, fun hik => ?_⟩
    · have h1 := a (by omega)
      exact rl_same ts_same_r (rl_noop_t (h1.2.2 k (by omega) (by omega)) ht2) h1
    · by_cases e : i = k
      · subst e
        obtain ⟨r1, d1, u1⟩ := a (Nat.le_refl i)
        obtain ⟨r2, d2, u2, u3⟩ := rl_step r1 d1 hi hst ht2
        refine ⟨r2, d2, fun j hj _ => ?_⟩
        by_cases e : j = i
        · rw [e]; exact u2
        · exact u3 j hj e (u1 j hj e)
      · have h1 := b (by omega)
        exact rl_same ts_same_r (rl_noop_t (h1.2.2 k (by omega) trivial) ht2) h1
/-- the reference settles what stands settled -/
theorem rl_noops {nb : Nat} {s t : kx_S} (h : rl_P nb s t (fun _ => True)) : ∀ k, k ≤ nb → ∀ {tk : kx_S}, tm_SA k t tk → rl_P nb s tk (fun _ => True) := by
  intro k
  induction k with
  | zero => intro _ tk ht; rw [show tk = t from ht]; exact h
  | succ k ih =>
    intro hk tk ht
    obtain ⟨t1, ht1, ht2⟩ := ht
    have h1 := ih (by omega) ht1
    exact rl_same ts_same_r (rl_noop_t (h1.2.2 k (by omega) trivial) ht2) h1
